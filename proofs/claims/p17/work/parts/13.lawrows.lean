theorem map_left (a b : va_W) : (List.range' 0 a.length).map (fun i => (a ++ b)[i]?) = a.map some := by
  refine List.ext_getElem (by simp) (fun k h1 h2 => ?_)
  have hk : k < a.length := by simpa using h2
  simp only [List.getElem_map, List.getElem_range', Nat.zero_add, Nat.one_mul]
  rw [List.getElem?_append_left hk, List.getElem?_eq_getElem hk]
theorem map_right (a b : va_W) : (List.range' a.length b.length).map (fun i => (a ++ b)[i]?) = b.map some := by
  refine List.ext_getElem (by simp) (fun k h1 h2 => ?_)
  have hk : k < b.length := by simpa using h2
  simp only [List.getElem_map, List.getElem_range', Nat.one_mul]
  rw [List.getElem?_append_right (by omega), Nat.add_sub_cancel_left, List.getElem?_eq_getElem hk]
theorem nd_range : ∀ n s, va_nd (List.range' s n) = true
  | 0, _ => rfl
  | n + 1, s => by
    show (decide (s ∉ List.range' (s + 1) n) && va_nd (List.range' (s + 1) n)) = true
    rw [nd_range n (s + 1)]
    have h : s ∉ List.range' (s + 1) n := by
      rw [List.mem_range'_1]
      omega
    simp [h]
theorem dis_lr (a b : va_W) : ∀ i ∈ List.range' a.length b.length, i ∉ List.range' 0 a.length := by
  intro i h1 h2
  rw [List.mem_range'_1] at h1 h2
  omega
theorem dis_rl (a b : va_W) : ∀ i ∈ List.range' 0 a.length, i ∉ List.range' a.length b.length := by
  intro i h1 h2
  rw [List.mem_range'_1] at h1 h2
  omega
theorem cC.left {g : EN} {a b : va_W} {A : Nat → Prop} {s : State} {H : Heap} {locs : List Loc} (h : cC g (a ++ b) A s H locs) : cC g a A s H locs := h.sub _ (nd_range _ _) (map_left a b)
theorem cC.right {g : EN} {a b : va_W} {A : Nat → Prop} {s : State} {H : Heap} {locs : List Loc} (h : cC g (a ++ b) A s H locs) : cC g b A s H locs := h.sub _ (nd_range _ _) (map_right a b)
theorem nd_app : ∀ (l1 l2 : List Nat), va_nd l1 = true → va_nd l2 = true → (∀ i ∈ l1, i ∉ l2) → va_nd (l1 ++ l2) = true
  | [], _, _, h2, _ => h2
  | x :: l1, l2, h1, h2, h3 => by
    simp only [va_nd, Bool.and_eq_true, decide_eq_true_eq] at h1
    show (decide (x ∉ l1 ++ l2) && va_nd (l1 ++ l2)) = true
    rw [nd_app l1 l2 h1.2 h2 (fun i hi => h3 i (List.mem_cons_of_mem _ hi))]
    have h4 : x ∉ l1 ++ l2 := fun h => (List.mem_append.mp h).elim h1.1 (h3 x List.mem_cons_self)
    simp [h4]
theorem cC.swap {g : EN} {a b : va_W} {A : Nat → Prop} {s : State} {H : Heap} {locs : List Loc} (h : cC g (a ++ b) A s H locs) : cC g (b ++ a) A s H locs :=
  h.sub (List.range' a.length b.length ++ List.range' 0 a.length) (nd_app _ _ (nd_range _ _) (nd_range _ _) (dis_lr a b)) (by rw [List.map_append, map_left, map_right, List.map_append])
theorem cC.joinR {g : EN} {a b w1 : va_W} {A : Nat → Prop} {s t : State} {H H1 : Heap} {locs locs1 : List Loc} (h : cC g (a ++ b) A s H locs) (hB : cE g w1 (va_A b H.size) t) (ht : t.heap = H1) (hk : ∀ q : Nat, q < H.size → ¬ va_A b H.size q → H1[q]? = H[q]?) (hS1 : va_S A s.heap H1 locs1) : cC g (a ++ w1) A s H1 locs1 :=
  h.join _ _ (map_right a b) (map_left a b) (nd_range _ _) (dis_rl a b) hB ht hk hS1
/-- of two cases the one that holds -/
def sE {α β γ : Type _} (f : α → γ) (k : β → γ) : α ⊕ β → γ
  | .inl a => f a
  | .inr b => k b
abbrev oNet (g : EN) (o : Nat) (f : Nat → Int64) : va_W := [(o, .inl (g.2.2.1, 1, .inr (.inl f)))]
def xk1 (k : Int32) (P1 : Prop) : Prop := k = 1 ∧ ¬ P1
def xk2 (k : Int32) (P1 P2 : Prop) : Prop := (k = 1 ∧ ¬ P1) ∨ (k = 2 ∧ P1 ∧ ¬ P2)
def xk3 (k : Int32) (P1 P2 P3 : Prop) : Prop := (k = 1 ∧ ¬ P1) ∨ (k = 2 ∧ P1 ∧ ¬ P2) ∨ (k = 3 ∧ P1 ∧ P2 ∧ ¬ P3)
theorem xk1.cd {k : Int32} {P1 : Prop} (h : xk1 k P1) : cd1 k P1 ∧ ¬ k = 0 := by
  obtain ⟨rfl, h⟩ := h; exact ⟨Or.inl ⟨rfl, h⟩, by decide⟩
theorem xk2.cd {k : Int32} {P1 P2 : Prop} (h : xk2 k P1 P2) : cd2 k P1 P2 ∧ ¬ k = 0 := by
  rcases h with ⟨rfl, h⟩ | ⟨rfl, h⟩
  · exact ⟨Or.inl ⟨rfl, h⟩, by decide⟩
  · exact ⟨Or.inr (Or.inl ⟨rfl, h⟩), by decide⟩
theorem xk3.cd {k : Int32} {P1 P2 P3 : Prop} (h : xk3 k P1 P2 P3) : cd3 k P1 P2 P3 ∧ ¬ k = 0 := by
  rcases h with ⟨rfl, h⟩ | ⟨rfl, h⟩ | ⟨rfl, h⟩
  · exact ⟨Or.inl ⟨rfl, h⟩, by decide⟩
  · exact ⟨Or.inr (Or.inl ⟨rfl, h⟩), by decide⟩
  · exact ⟨Or.inr (Or.inr (Or.inl ⟨rfl, h⟩)), by decide⟩
theorem cd1.ok {k : Int32} {P1 : Prop} (h : cd1 k P1) (h1 : P1) : k = 0 := cd1_uniq h (Or.inr ⟨rfl, h1⟩)
theorem cd2.ok {k : Int32} {P1 P2 : Prop} (h : cd2 k P1 P2) (h1 : P1) (h2 : P2) : k = 0 := cd2_uniq h (Or.inr (Or.inr ⟨rfl, h1, h2⟩))
theorem cd3.ok {k : Int32} {P1 P2 P3 : Prop} (h : cd3 k P1 P2 P3) (h1 : P1) (h2 : P2) (h3 : P3) : k = 0 := cd3_uniq h (Or.inr (Or.inr (Or.inr ⟨rfl, h1, h2, h3⟩)))
/-- a static method with handlers, that always returns -/
theorem XiH.of {S : Type} {l : Launch} {y : MethodName} {wY ws' : List Cond} {rm : Room} {g : EN} {av : List Value} {ws : va_W} {post : Int32 → S → Prop} {wsB : S → va_W} {cc : ByteArray} {maxL : Nat} {hh : List (Nat × Nat × Nat × Nat)} (hy : plainName y.cls = true) (hw : wY = Cond.codeWith y cc maxL (some .int) hh :: ws') (hlen : (lg_sl av).length ≤ maxL)
    (body : ∀ (p : Program) (e : Env) (s : State) (m : MethodId) (args : Array Value) (below : List Frame) (meth : Method) (c : Code) (A : Nat → Prop) (Q : State → Prop) (ls : Array Slot), CallFix p m c cc maxL s args wY y.cls → cC g ws A s s.heap [] → c.exceptionTable.toList = tableOf hh →
    (∀ (r : Int32) (u : S) (H : Heap) (locs : List Loc) (cells slots : Nat) (pc : Nat) (ls : Array Slot), post r u → cC g (wsB u) A s H locs → cells ≤ rm.cells → slots ≤ rm.slots → decode cc pc = .ok (.ireturn, 1) → W p l e rm s m args below meth c H locs cells slots Q (F0 m pc ls [.int r])) →
    lv_has ls maxL (lv_args 0 av) → W p l e rm s m args below meth c s.heap [] 0 0 Q (F0 m 0 ls [])) : Xi l y wY rm g av ws (fun _ => False) post wsB := by
  intro sz
  refine vx_ofWH (cc := cc) (maxL := maxL) (ret := (some .int)) (hh := hh) hy hw ?_
  intro p e s m args below meth c s₁ B hml hv
  obtain ⟨rfl, hg⟩ := hv
  obtain ⟨rfl, hG⟩ := hg.start
  have hr := B.returns
  have hts := atoms_spec (ws := wY) B.pre
  have hown : s.vm.findClass y.cls = some m.cls := findClass_of_methodNamed B.named
  have hlk : meth.locks = false := B.notSynchronized
  have htb := vx_table (x := y) B (hts (Cond.codeWith y cc maxL (some .int) hh) (by rw [hw]; exact List.mem_cons_self))
  have hl := lv_entry av (n := maxL) hlen
  rw [lg_entry_eq]
  refine body p e s m av.toArray below meth c (va_A ws s.heap.size) _ _ ⟨B.exec, B.bytes, hml, hown, hts⟩ hG htb ?_ hl
  intro r u H locs cells slots pc ls hp hC hc hs hd
  refine vx_ret ?_
  refine W.widen hc hs ?_
  exact W.iret B.exec B.bytes hr (fun t ht hW => ⟨⟨r, u, rfl, hp, hC.endE ht hW.alike⟩, hC.2.2.2.1.F ht⟩) hC.2.2.2.1.2.2 hd (hlocks := hlk)
section QL
variable {p : Program} {l : Launch} {e : Env} {R : Room} {s : State} {m : MethodId} {args : Array Value} {below : List Frame} {meth : Method} {c : Code} {H : Heap} {locs : List Loc} {cells slots : Nat} {Q : State → Prop}
variable {cc : ByteArray} {nL pc : Nat} {ls : Array Slot} {rest : List Value} {Ts : List Cond} {own : String} {g : EN} {A : Nat → Prop}
/-- the wrapper of a call, over the left part of the world -/
theorem q_callW {S : Type} {y : MethodName} {bytes : ByteArray} {maxL n index : Nat} {hh : List (Nat × Nat × Nat × Nat)} {wY ws' : List Cond} {rm : Room} {As : List Value} {post : Int32 → S → Prop} {wsB : S → va_W} {wc wr : va_W} (hM : CallFix p m c cc nL s args Ts own) (hl : ls.size = nL) (hG : cC g (wc ++ wr) A s H locs) (hC : Xi l y wY rm g As wc (fun _ => False) post wsB) (hw : wY = Cond.codeWith y bytes maxL (some .int) hh :: ws') (hgood : GoodIn Ts (va_wsS own index y wY)) (hd : y.cls ≠ "java/lang/invoke/MethodHandle" ∧ y.cls ≠ "java/lang/invoke/VarHandle" ∧ (parseMethodDescriptor y.desc).map (fun d => d.parameters.length) = some n) (hR : rm.frames + 1 ≤ R.frames ∧ 8 + (maxL + 11) + rm.locals ≤ R.locals)
    {st0 : List Value} (hst : st0 = As.reverse ++ rest) (hn : As.length = n) (hcat : (rest.map fun v => v.category).sum ≤ 8) (hdg : decode cc pc = .ok (.invokestatic index, 3)) {c1 s1 : Nat} (hc1 : cells + rm.cells = c1) (hs1 : slots + rm.slots = s1) (hroom : c1 ≤ R.cells ∧ s1 ≤ R.slots)
    (kk : ∀ (r : Int32) (u : S) (H1 : Heap) (locs1 : List Loc), post r u → cC g (wsB u ++ wr) A s H1 locs1 → W p l e R s m args below meth c H1 locs1 c1 s1 Q (F0 m (pc + 3) ls (.int r :: rest))) : W p l e R s m args below meth c H locs cells slots Q (F0 m pc ls st0) := by
  subst hc1; subst hs1
  have hGc := hG.left
  have hf := hGc.free
  have hS := hG.2.2.2.1
  refine vx_calli (vx_runSX (As := As) (rest := rest) (hh := hh) hM (hC H.size) (vx_cwSW n hM.2.2.2.2 hgood hw rfl rfl hd hR) ⟨cG.blind, fun U hU hW => ⟨rfl, hGc.call U hU hW⟩⟩ rfl hn hl hst (lv_room hcat) hdg hroom) hS (fun q _ h => hf q h) hf (fun q _ h => hf q h) (fun E ce q9 u t H1 locs1 ht hvm hp hB hz1 hk1 hS1 h1 h2 h3 => ?_) (fun r u t H1 locs1 ht hvm hp hB hz1 hk1 hS1 => ?_)
  · exact hB.1.elim
  · exact kk r u H1 locs1 hp (hG.swap.joinR hB ht hk1 hS1).swap
/-- a method of the right part of the world -/
theorem q_callMi {S : Type} {y : MethodName} {bytes : ByteArray} {maxL n index : Nat} {ret : Option FieldType} {wY ws' : List Cond} {rm : Room} {b : Nat} {As : List Value} {post : Int32 → S → Prop} {wsB : S → va_W} {wc wr : va_W} (hM : CallFix p m c cc nL s args Ts own) (hl : ls.size = nL) (hG : cC g (wr ++ wc) A s H locs) (hC : Ci l y wY rm g (.ref b :: As) wc post wsB) (hw : wY = Cond.code y bytes maxL ret :: ws') {C : String} (hgood : GoodIn Ts (wsV own index C y wY)) (hd : y.cls = C ∧ y.cls ≠ "java/lang/invoke/MethodHandle" ∧ y.cls ≠ "java/lang/invoke/VarHandle" ∧ (parseMethodDescriptor y.desc).map (fun d => d.parameters.length) = some n) (hR : rm.frames + 1 ≤ R.frames ∧ 8 + (maxL + 11) + rm.locals ≤ R.locals)
    (q0 : Nat) {ci : Nat} {fs : List Value} (he : wc[q0]? = some (b, .inr (ci, fs))) {vq : vw_C} (hc : vwCl[ci]? = some vq) (hq : vq.1 = C) {st0 : List Value} (hst : st0 = As.reverse ++ .ref b :: rest) (hn : As.length = n) (hcat : (rest.map fun v => v.category).sum ≤ 8) (hdg : decode cc pc = .ok (.invokevirtual index, 3)) {c1 s1 : Nat} (hc1 : cells + rm.cells = c1) (hs1 : slots + rm.slots = s1) (hroom : c1 ≤ R.cells ∧ s1 ≤ R.slots)
    (kk : ∀ (r : Int32) (u : S) (H1 : Heap) (locs1 : List Loc), post r u → cC g (wr ++ wsB u) A s H1 locs1 → W p l e R s m args below meth c H1 locs1 c1 s1 Q (F0 m (pc + 3) ls (.int r :: rest))) : W p l e R s m args below meth c H locs cells slots Q (F0 m pc ls st0) := by
  subst hc1; subst hs1
  have hGc := hG.right
  have hf := hGc.free
  have hS := hG.2.2.2.1
  refine va_calli (va_runV (As := As) (rest := rest) hM (hC H.size) (cwV n hM.2.2.2.2 hgood hw rfl rfl hd hR) ⟨cG.blind, (by have h9 := va_recv hGc.2.1 hGc.1 hc he; rw [hq] at h9; exact h9), fun U hU hW => ⟨rfl, hGc.call U hU hW⟩⟩ rfl hn hl hst (lv_room hcat) hdg hroom) hS (fun q _ h => hf q h) hf (fun r u t H1 locs1 ht hvm hp hB hz1 hk1 hS1 => ?_)
  exact kk r u H1 locs1 hp (hG.joinR hB ht hk1 hS1)
/-- the same of a method that throws -/
theorem q_xcallMi {S : Type} {y : MethodName} {bytes : ByteArray} {maxL n index : Nat} {ret : Option FieldType} {wY ws' : List Cond} {rm : Room} {b : Nat} {As : List Value} {tE : String → Prop} {post : Int32 → S → Prop} {wsB : S → va_W} {wc wr : va_W} (hM : CallFix p m c cc nL s args Ts own) (hl : ls.size = nL) (hG : cC g (wr ++ wc) A s H locs) (hC : Xi l y wY rm g (.ref b :: As) wc tE post wsB) (hw : wY = Cond.code y bytes maxL ret :: ws') {C : String} (hgood : GoodIn Ts (wsV own index C y wY)) (hd : y.cls = C ∧ y.cls ≠ "java/lang/invoke/MethodHandle" ∧ y.cls ≠ "java/lang/invoke/VarHandle" ∧ (parseMethodDescriptor y.desc).map (fun d => d.parameters.length) = some n) (hR : rm.frames + 1 ≤ R.frames ∧ 8 + (maxL + 11) + rm.locals ≤ R.locals)
    (q0 : Nat) {ci : Nat} {fs : List Value} (he : wc[q0]? = some (b, .inr (ci, fs))) {vq : vw_C} (hc : vwCl[ci]? = some vq) (hq : vq.1 = C) {st0 : List Value} (hst : st0 = As.reverse ++ .ref b :: rest) (hn : As.length = n) (hcat : (rest.map fun v => v.category).sum ≤ 8) (hdg : decode cc pc = .ok (.invokevirtual index, 3)) {c1 s1 : Nat} (hc1 : cells + rm.cells = c1) (hs1 : slots + rm.slots = s1) (hroom : c1 ≤ R.cells ∧ s1 ≤ R.slots)
    (kx : ∀ (E : String) (ce : Cell) (q9 : Addr) (H1 : Heap) (locs1 : List Loc), tE E → cC g (wr ++ wc) A s H1 locs1 → H1[q9]? = some ce → ce.vm = .none → s.vm.findClass E = some ce.cls → vx_W p l e R s m args below meth c H1 locs1 c1 s1 Q (F0 m pc ls rest) q9)
    (kk : ∀ (r : Int32) (u : S) (H1 : Heap) (locs1 : List Loc), post r u → cC g (wr ++ wsB u) A s H1 locs1 → W p l e R s m args below meth c H1 locs1 c1 s1 Q (F0 m (pc + 3) ls (.int r :: rest))) : W p l e R s m args below meth c H locs cells slots Q (F0 m pc ls st0) := by
  subst hc1; subst hs1
  have hGc := hG.right
  have hf := hGc.free
  have hS := hG.2.2.2.1
  refine vx_calli (vx_runV (As := As) (rest := rest) hM (hC H.size) (cwV n hM.2.2.2.2 hgood hw rfl rfl hd hR) ⟨cG.blind, (by have h9 := va_recv hGc.2.1 hGc.1 hc he; rw [hq] at h9; exact h9), fun U hU hW => ⟨rfl, hGc.call U hU hW⟩⟩ rfl hn hl hst (lv_room hcat) hdg hroom) hS (fun q _ h => hf q h) hf (fun q _ h => hf q h) (fun E ce q9 u t H1 locs1 ht hvm hp hB hz1 hk1 hS1 h1 h2 h3 => ?_) (fun r u t H1 locs1 ht hvm hp hB hz1 hk1 hS1 => ?_)
  · exact kx E ce q9 H1 locs1 hB.1 (hG.joinR hB.2 ht hk1 hS1) h1 h2 h3
  · exact kk r u H1 locs1 hp (hG.joinR hB ht hk1 hS1)
/-- a method of the right part of the world -/
theorem q_callMl {S : Type} {y : MethodName} {bytes : ByteArray} {maxL n index : Nat} {ret : Option FieldType} {wY ws' : List Cond} {rm : Room} {b : Nat} {As : List Value} {post : Int64 → S → Prop} {wsB : S → va_W} {wc wr : va_W} (hM : CallFix p m c cc nL s args Ts own) (hl : ls.size = nL) (hG : cC g (wr ++ wc) A s H locs) (hC : Cl l y wY rm g (.ref b :: As) wc post wsB) (hw : wY = Cond.code y bytes maxL ret :: ws') {C : String} (hgood : GoodIn Ts (wsV own index C y wY)) (hd : y.cls = C ∧ y.cls ≠ "java/lang/invoke/MethodHandle" ∧ y.cls ≠ "java/lang/invoke/VarHandle" ∧ (parseMethodDescriptor y.desc).map (fun d => d.parameters.length) = some n) (hR : rm.frames + 1 ≤ R.frames ∧ 8 + (maxL + 11) + rm.locals ≤ R.locals)
    (q0 : Nat) {ci : Nat} {fs : List Value} (he : wc[q0]? = some (b, .inr (ci, fs))) {vq : vw_C} (hc : vwCl[ci]? = some vq) (hq : vq.1 = C) {st0 : List Value} (hst : st0 = As.reverse ++ .ref b :: rest) (hn : As.length = n) (hcat : (rest.map fun v => v.category).sum ≤ 8) (hdg : decode cc pc = .ok (.invokevirtual index, 3)) {c1 s1 : Nat} (hc1 : cells + rm.cells = c1) (hs1 : slots + rm.slots = s1) (hroom : c1 ≤ R.cells ∧ s1 ≤ R.slots)
    (kk : ∀ (r : Int64) (u : S) (H1 : Heap) (locs1 : List Loc), post r u → cC g (wr ++ wsB u) A s H1 locs1 → W p l e R s m args below meth c H1 locs1 c1 s1 Q (F0 m (pc + 3) ls (.long r :: rest))) : W p l e R s m args below meth c H locs cells slots Q (F0 m pc ls st0) := by
  subst hc1; subst hs1
  have hGc := hG.right
  have hf := hGc.free
  have hS := hG.2.2.2.1
  refine va_calll (va_runV (As := As) (rest := rest) hM (hC H.size) (cwV n hM.2.2.2.2 hgood hw rfl rfl hd hR) ⟨cG.blind, (by have h9 := va_recv hGc.2.1 hGc.1 hc he; rw [hq] at h9; exact h9), fun U hU hW => ⟨rfl, hGc.call U hU hW⟩⟩ rfl hn hl hst (lv_room hcat) hdg hroom) hS (fun q _ h => hf q h) hf (fun r u t H1 locs1 ht hvm hp hB hz1 hk1 hS1 => ?_)
  exact kk r u H1 locs1 hp (hG.joinR hB ht hk1 hS1)
/-- the same of a method that throws -/
theorem q_xcallMl {S : Type} {y : MethodName} {bytes : ByteArray} {maxL n index : Nat} {ret : Option FieldType} {wY ws' : List Cond} {rm : Room} {b : Nat} {As : List Value} {tE : String → Prop} {post : Int64 → S → Prop} {wsB : S → va_W} {wc wr : va_W} (hM : CallFix p m c cc nL s args Ts own) (hl : ls.size = nL) (hG : cC g (wr ++ wc) A s H locs) (hC : Xl l y wY rm g (.ref b :: As) wc tE post wsB) (hw : wY = Cond.code y bytes maxL ret :: ws') {C : String} (hgood : GoodIn Ts (wsV own index C y wY)) (hd : y.cls = C ∧ y.cls ≠ "java/lang/invoke/MethodHandle" ∧ y.cls ≠ "java/lang/invoke/VarHandle" ∧ (parseMethodDescriptor y.desc).map (fun d => d.parameters.length) = some n) (hR : rm.frames + 1 ≤ R.frames ∧ 8 + (maxL + 11) + rm.locals ≤ R.locals)
    (q0 : Nat) {ci : Nat} {fs : List Value} (he : wc[q0]? = some (b, .inr (ci, fs))) {vq : vw_C} (hc : vwCl[ci]? = some vq) (hq : vq.1 = C) {st0 : List Value} (hst : st0 = As.reverse ++ .ref b :: rest) (hn : As.length = n) (hcat : (rest.map fun v => v.category).sum ≤ 8) (hdg : decode cc pc = .ok (.invokevirtual index, 3)) {c1 s1 : Nat} (hc1 : cells + rm.cells = c1) (hs1 : slots + rm.slots = s1) (hroom : c1 ≤ R.cells ∧ s1 ≤ R.slots)
    (kx : ∀ (E : String) (ce : Cell) (q9 : Addr) (H1 : Heap) (locs1 : List Loc), tE E → cC g (wr ++ wc) A s H1 locs1 → H1[q9]? = some ce → ce.vm = .none → s.vm.findClass E = some ce.cls → vx_W p l e R s m args below meth c H1 locs1 c1 s1 Q (F0 m pc ls rest) q9)
    (kk : ∀ (r : Int64) (u : S) (H1 : Heap) (locs1 : List Loc), post r u → cC g (wr ++ wsB u) A s H1 locs1 → W p l e R s m args below meth c H1 locs1 c1 s1 Q (F0 m (pc + 3) ls (.long r :: rest))) : W p l e R s m args below meth c H locs cells slots Q (F0 m pc ls st0) := by
  subst hc1; subst hs1
  have hGc := hG.right
  have hf := hGc.free
  have hS := hG.2.2.2.1
  refine vx_calll (vx_runV (As := As) (rest := rest) hM (hC H.size) (cwV n hM.2.2.2.2 hgood hw rfl rfl hd hR) ⟨cG.blind, (by have h9 := va_recv hGc.2.1 hGc.1 hc he; rw [hq] at h9; exact h9), fun U hU hW => ⟨rfl, hGc.call U hU hW⟩⟩ rfl hn hl hst (lv_room hcat) hdg hroom) hS (fun q _ h => hf q h) hf (fun q _ h => hf q h) (fun E ce q9 u t H1 locs1 ht hvm hp hB hz1 hk1 hS1 h1 h2 h3 => ?_) (fun r u t H1 locs1 ht hvm hp hB hz1 hk1 hS1 => ?_)
  · exact kx E ce q9 H1 locs1 hB.1 (hG.joinR hB.2 ht hk1 hS1) h1 h2 h3
  · exact kk r u H1 locs1 hp (hG.joinR hB ht hk1 hS1)
/-- a place of the script -/
theorem q_sld (hM : CallFix p m c cc nL s args Ts own) {ws : va_W} (hG : cC g ws A s H locs) {b L i : Nat} {xs : Nat → Int32} (hX : va_X b L xs s s.heap) (hbl : b < s.heap.size) (hbA : ¬ A b) (hi : i < L) (hL : L < 2 ^ 30) (hdg : decode cc pc = .ok (.iaload, 1))
    (kk : W p l e R s m args below meth c H locs cells slots Q (F0 m (pc + 1) ls (.int (xs i) :: rest))) : W p l e R s m args below meth c H locs cells slots Q (F0 m pc ls (.int (nI i) :: .ref b :: rest)) := by
  refine va_sld hM.1 hM.2.1 hX hbl hbA hG.2.2.2.1 (vp_in_nI hi (by omega)) hdg ?_
  rw [nI_clamp (by omega)]; exact kk
end QL
/-- the loop's test: five more places -/
theorem le5 {L i : Nat} (hL : L < 2 ^ 30) (hi : i < 2 ^ 30) (h : ¬ nI L - 5 < nI i) : i + 5 ≤ L := by
  rw [Int32.lt_iff_toInt_lt, show (5 : Int32) = nI 5 from rfl, pk_sub_toInt hL (by decide), nI_toInt (by omega)] at h
  omega
