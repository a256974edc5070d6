/-! my own words over the kit's worlds: a context (cC), contracts (Ci, Cl, Cv; with throws Xi, Xl, Xv), rows over them -/
abbrev EN : Type := va_G × ClassId × ClassId × ClassId
abbrev KT : Type := (Nat → Int32) × (Nat → Int32) × (Nat → Int32) × (Nat → Int32)
abbrev KM : Type := (Nat → Int32) × (Nat → Int32) × (Nat → Int32) × (Nat → Int32) × (Nat → Int32)
abbrev tY (g : EN) : List (ClassId × FieldType) := [(g.2.1, .int), (g.2.2.1, .long), (g.2.2.2, .boolean)]
/-- the class's cells -/
abbrev cNet (g : EN) (h : Nat → Nat) (N : Nat) (tk : Int32) (dom gr va dr : Nat → Int32) (off rt : Nat → Int64) (cnt : Int32) (lk dl td : Nat → Int32) (K E : KT) (ds : Nat → Int32) : va_W := [
  (h 0, .inr (2, [.ref (h 1), .ref (h 2), .ref (h 3), .ref (h 4), .ref (h 5), .ref (h 6), .ref (h 8), .ref (h 12), .ref (h 17), .ref (h 7), .int (nI N), .int tk])),
  (h 1, .inl (g.2.1, 10, .inl dom)), (h 2, .inl (g.2.1, 10, .inl gr)), (h 3, .inl (g.2.1, 10, .inl va)), (h 4, .inl (g.2.1, 10, .inl dr)),
  (h 5, .inl (g.2.2.1, 10, .inr (.inl off))), (h 6, .inl (g.2.2.1, 10, .inr (.inl rt))), (h 7, .inl (g.2.1, 10, .inl ds)),
  (h 8, .inr (1, [.ref (h 9), .ref (h 10), .ref (h 11), .int cnt])), (h 9, .inl (g.2.2.2, 100, .inl lk)), (h 10, .inl (g.2.1, 100, .inl dl)), (h 11, .inl (g.2.1, 100, .inl td)),
  (h 12, .inr (0, [.ref (h 13), .ref (h 14), .ref (h 15), .ref (h 16)])), (h 13, .inl (g.2.1, 10, .inl K.1)), (h 14, .inl (g.2.1, 10, .inl K.2.1)), (h 15, .inl (g.2.1, 10, .inl K.2.2.1)), (h 16, .inl (g.2.1, 10, .inl K.2.2.2)),
  (h 17, .inr (0, [.ref (h 18), .ref (h 19), .ref (h 20), .ref (h 21)])), (h 18, .inl (g.2.1, 10, .inl E.1)), (h 19, .inl (g.2.1, 10, .inl E.2.1)), (h 20, .inl (g.2.1, 10, .inl E.2.2.1)), (h 21, .inl (g.2.1, 10, .inl E.2.2.2))]
/-- the reference's cells -/
abbrev mNet (g : EN) (h : Nat → Nat) (N : Nat) (tk : Int32) (dom gr va dr : Nat → Int32) (off rt : Nat → Int64) (cnt : Int32) (lk dl td : Nat → Int32) (K X : KM) (ds : Nat → Int32) (thr : Int32) : va_W := [
  (h 0, .inr (3, [.int (nI N), .int cnt, .ref (h 1), .ref (h 2), .ref (h 3), .ref (h 4), .ref (h 5), .ref (h 6), .ref (h 7), .ref (h 8), .ref (h 9), .ref (h 10), .ref (h 11), .ref (h 12), .ref (h 13), .ref (h 14), .int tk, .int thr, .ref (h 15), .ref (h 16), .ref (h 17), .ref (h 18), .ref (h 19), .ref (h 20)])),
  (h 1, .inl (g.2.1, 10, .inl dom)), (h 2, .inl (g.2.1, 10, .inl gr)), (h 3, .inl (g.2.1, 10, .inl va)), (h 4, .inl (g.2.1, 10, .inl dr)),
  (h 5, .inl (g.2.2.1, 10, .inr (.inl off))), (h 6, .inl (g.2.2.1, 10, .inr (.inl rt))),
  (h 7, .inl (g.2.2.2, 100, .inl lk)), (h 8, .inl (g.2.1, 100, .inl dl)), (h 9, .inl (g.2.1, 100, .inl td)),
  (h 10, .inl (g.2.1, 10, .inl K.1)), (h 11, .inl (g.2.1, 10, .inl K.2.1)), (h 12, .inl (g.2.1, 10, .inl K.2.2.1)), (h 13, .inl (g.2.1, 10, .inl K.2.2.2.1)), (h 14, .inl (g.2.1, 10, .inl K.2.2.2.2)),
  (h 15, .inl (g.2.1, 10, .inl X.1)), (h 16, .inl (g.2.1, 10, .inl X.2.1)), (h 17, .inl (g.2.1, 10, .inl X.2.2.1)), (h 18, .inl (g.2.1, 10, .inl X.2.2.2.1)), (h 19, .inl (g.2.1, 10, .inl X.2.2.2.2)), (h 20, .inl (g.2.1, 10, .inl ds))]
/-- what the tables say of nest mates -/
def nWs : List Cond := [
  .methodLinkNest RX2 31 yX1_init RX2, .methodLinkNest RX2 38 yX0_init RX2, .methodLinkNest RX2 82 yX1_areLinked RX2, .methodLinkNest RX2 88 yX1_lay RX2, .methodLinkNest RX2 99 yX1_remove RX2,
  .methodLinkNest RX2 106 yX1_noteDifference RX2, .methodLinkNest RX2 160 yX0_start RX2, .methodLinkNest RX2 163 yX0_copyFrom RX2, .methodLinkNest RX2 170 yX0_reaches RX2, .methodLinkNest RX2 173 yX0_takeIfBetter RX2, .methodLinkNest RX2 186 yX1_errorFrom RX2,
  .fieldLinkNest RX2 92 RX1 "count" "I" RX2, .fieldLinkNest RX2 113 RX0 "clockNode" "[I" RX2, .fieldLinkNest RX2 116 RX0 "stepsAway" "[I" RX2, .fieldLinkNest RX2 119 RX0 "knownFrom" "[I" RX2,
  .castable "java/lang/IndexOutOfBoundsException" "java/lang/IndexOutOfBoundsException", .castable "java/lang/IllegalArgumentException" "java/lang/IllegalArgumentException", .castable "java/lang/IllegalStateException" "java/lang/IllegalStateException",
  .declares ⟨"java/lang/RuntimeException", "<init>", "(Ljava/lang/String;)V"⟩, .declares ⟨"java/lang/Exception", "<init>", "(Ljava/lang/String;)V"⟩, .declares ⟨"java/lang/Throwable", "<init>", "(Ljava/lang/String;)V"⟩]
theorem nw_dec {x : MethodName} {s U : State} (hW : s.WarmedH U.vm) (hZ : va_Nw (.declares x) s) : va_Nw (.declares x) U := va_tabs rfl (rfl : (s.setVm U.vm).vm = U.vm) (by rw [Cond.declares_setVm hW.alike]; exact hZ)
theorem nWs_warm {s U : State} (hW : s.WarmedH U.vm) : ∀ w ∈ nWs, va_Nw w s → va_Nw w U := by
  intro w hw
  simp only [nWs, List.mem_cons, List.not_mem_nil, or_false] at hw
  rcases hw with rfl | rfl | rfl | rfl | rfl | rfl | rfl | rfl | rfl | rfl | rfl | rfl | rfl | rfl | rfl | rfl | rfl | rfl | rfl | rfl | rfl <;> first | exact va_Nw.warmM hW | exact va_Nw.warmF hW | exact va_Nw.warmC hW | exact nw_dec hW
/-- what every state of the run has: the nest's words, Throwable's two statics, the texts of the exceptions -/
def XF (A : Nat → Prop) (U : State) (H : Heap) : Prop := (∀ w ∈ nWs, va_Nw w U) ∧ vx_Zq Bundle.tN "UNASSIGNED_STACK" Bundle.steD A U H ∧ vx_Zq Bundle.tN "SUPPRESSED_SENTINEL" Bundle.listD A U H ∧
  (∃ a, vk_R RX2 62 "there are 10 nodes" a U) ∧ (∃ a, vk_R RX2 78 "a node is not linked with itself" a U) ∧ (∃ a, vk_R RX2 86 "they are linked" a U) ∧ (∃ a, vk_R RX2 150 "there is no such node" a U) ∧ (∃ a, vk_R RX2 153 "an argument is out of its range" a U) ∧ (∃ a, vk_R RX2 155 "they are not linked" a U) ∧
  va_Nc "java/lang/IllegalStateException" "java/lang/IllegalArgumentException" U ∧ va_Nc "java/lang/IllegalArgumentException" "java/lang/IndexOutOfBoundsException" U ∧ va_Nc "java/lang/IllegalStateException" "java/lang/IndexOutOfBoundsException" U
theorem XF.go {A B : Nat → Prop} {s U : State} {H0 H : Heap} (hW : s.WarmedH U.vm) (h : XF A s H0) (hq : ∀ a : Nat, a < H0.size → ¬ A a → H[a]? = H0[a]?) (hAB : ∀ q, B q → A q) : XF B U H := by
  obtain ⟨h1, h2, h3, ⟨a1, b1⟩, ⟨a2, b2⟩, ⟨a3, b3⟩, ⟨a4, b4⟩, ⟨a5, b5⟩, ⟨a6, b6⟩, n1, n2, n3⟩ := h
  exact ⟨fun w hw => nWs_warm hW w hw (h1 w hw), ((h2.moved hW.alike).kept hq).narrow hAB, ((h3.moved hW.alike).kept hq).narrow hAB, ⟨a1, b1.warm hW⟩, ⟨a2, b2.warm hW⟩, ⟨a3, b3.warm hW⟩, ⟨a4, b4.warm hW⟩, ⟨a5, b5.warm hW⟩, ⟨a6, b6.warm hW⟩, n1.moved hW.alike, n2.moved hW.alike, n3.moved hW.alike⟩
theorem XF.same {A : Nat → Prop} {u U : State} {H : Heap} (hv : U.vm = u.vm) (h : XF A u H) : XF A U H := by
  have hW : u.WarmedH U.vm := by rw [hv]; exact State.WarmedH.refl u
  exact XF.go hW h (fun _ _ _ => rfl) (fun _ h => h)
/-- a contract's start -/
def cG (g : EN) (ws : va_W) (sz : Nat) (U : State) : Prop := U.heap.size = sz ∧ va_P g.1 vwCl ws U.heap ∧ va_K g.1 vwCl (tY g) U ∧ va_D (fun _ => True) ws ∧ XF (va_A ws sz) U U.heap
/-- a contract's end -/
def cE (g : EN) (ws : va_W) (A : Nat → Prop) (t : State) : Prop := va_P g.1 vwCl ws t.heap ∧ va_K g.1 vwCl (tY g) t ∧ va_D A ws
/-- within a method: its cells now -/
def cC (g : EN) (ws : va_W) (A : Nat → Prop) (s : State) (H : Heap) (locs : List Loc) : Prop := va_P g.1 vwCl ws H ∧ va_K g.1 vwCl (tY g) s ∧ va_D A ws ∧ va_S A s.heap H locs ∧ XF A s s.heap ∧ ∀ q, s.heap.size ≤ q → A q
theorem cG.blind {av : List Value} {g : EN} {ws : va_W} {sz : Nat} : FrameBlind (va_Pc av (cG g ws sz)) := fun a U f mk q => by
  obtain ⟨q0, q1, qP, qK, qD, qX⟩ := q
  exact ⟨q0, q1, qP, va_K.moved (u := U) (U := U.calling f mk a) (Vm.Alike.refl U.vm) qK, qD, XF.same (u := U) (U := U.calling f mk a) rfl qX⟩
theorem cG.start {g : EN} {ws : va_W} {sz : Nat} {s : State} (h : cG g ws sz s) : sz = s.heap.size ∧ cC g ws (va_A ws s.heap.size) s s.heap [] := by
  obtain ⟨rfl, hP, hK, hD, hX⟩ := h
  exact ⟨rfl, hP, hK, hD.self, va_S.rf, hX, fun q h => Or.inr h⟩
theorem cC.free {g : EN} {ws : va_W} {A : Nat → Prop} {s : State} {H : Heap} {locs : List Loc} (h : cC g ws A s H locs) : ∀ q, va_A ws H.size q → A q := fun q hq => by
  obtain ⟨hP, hK, hD, hS, hX, hA⟩ := h
  rcases hq with ⟨k, e, h⟩ | h
  · exact hD.2 k (q, e) h
  · exact hA q (Nat.le_trans hS.1 h)
theorem cC.call {g : EN} {ws : va_W} {A : Nat → Prop} {s : State} {H : Heap} {locs : List Loc} (h : cC g ws A s H locs) : ∀ U : State, U.heap = H → s.WarmedH U.vm → cG g ws H.size U := fun U hU hW => by
  have hf := h.free
  obtain ⟨hP, hK, hD, hS, hX, hA⟩ := h
  exact ⟨by rw [hU], by rw [hU]; exact hP, va_K.moved hW.alike hK, hD.weaken (fun _ _ _ _ => trivial), by rw [hU]; exact XF.go hW hX (fun a h1 h2 => hS.2.1 a h1 h2) hf⟩
theorem cC.back {g : EN} {ws w1 : va_W} {A : Nat → Prop} {s t : State} {H H1 : Heap} {locs locs1 : List Loc} (h : cC g ws A s H locs) (hB : cE g w1 (va_A ws H.size) t) (ht : t.heap = H1) (hvm : s.vm.Alike t.vm) (hS1 : va_S A s.heap H1 locs1) : cC g w1 A s H1 locs1 := by
  have hf := h.free
  obtain ⟨hP, hK, hD, hS, hX, hA⟩ := h
  obtain ⟨bP, bK, bD⟩ := hB
  rw [ht] at bP
  exact ⟨bP, hK, bD.weaken (fun k q _ h => hf q.1 h), hS1, hX, hA⟩
theorem cC.endE {g : EN} {ws : va_W} {A : Nat → Prop} {s t : State} {H : Heap} {locs : List Loc} (h : cC g ws A s H locs) (ht : t.heap = H) (hvm : s.vm.Alike t.vm) : cE g ws A t := by
  obtain ⟨hP, hK, hD, hS, hX, hA⟩ := h
  exact ⟨by rw [ht]; exact hP, va_K.moved hvm hK, hD⟩
theorem nar_b {r : Int32} (h : r = 0 ∨ r = 1) : narrow .boolean (.int r) = .int r := by
  rcases h with rfl | rfl <;> rfl

def Ci {S : Type} (l : Launch) (y : MethodName) (wY : List Cond) (rm : Room) (g : EN) (av : List Value) (ws : va_W) (post : Int32 → S → Prop) (wsB : S → va_W) : Prop :=
  ∀ sz, Met l y wY rm (va_Pc av (cG g ws sz)) (va_Qi post (fun (u : S) t => cE g (wsB u) (va_A ws sz) t) (va_A ws sz)) rm.cells rm.slots (va_A ws sz)
def Xi {S : Type} (l : Launch) (y : MethodName) (wY : List Cond) (rm : Room) (g : EN) (av : List Value) (ws : va_W) (tE : String → Prop) (post : Int32 → S → Prop) (wsB : S → va_W) : Prop :=
  ∀ sz, vx_Met l y wY rm (va_Pc av (cG g ws sz)) (va_Qi post (fun (u : S) t => cE g (wsB u) (va_A ws sz) t) (va_A ws sz)) (vx_X (fun _ : Unit => True) (fun E _ t => tE E ∧ cE g ws (va_A ws sz) t) (va_A ws sz)) rm.cells rm.slots (va_A ws sz)
def Cl {S : Type} (l : Launch) (y : MethodName) (wY : List Cond) (rm : Room) (g : EN) (av : List Value) (ws : va_W) (post : Int64 → S → Prop) (wsB : S → va_W) : Prop :=
  ∀ sz, Met l y wY rm (va_Pc av (cG g ws sz)) (va_Ql post (fun (u : S) t => cE g (wsB u) (va_A ws sz) t) (va_A ws sz)) rm.cells rm.slots (va_A ws sz)
def Xl {S : Type} (l : Launch) (y : MethodName) (wY : List Cond) (rm : Room) (g : EN) (av : List Value) (ws : va_W) (tE : String → Prop) (post : Int64 → S → Prop) (wsB : S → va_W) : Prop :=
  ∀ sz, vx_Met l y wY rm (va_Pc av (cG g ws sz)) (va_Ql post (fun (u : S) t => cE g (wsB u) (va_A ws sz) t) (va_A ws sz)) (vx_X (fun _ : Unit => True) (fun E _ t => tE E ∧ cE g ws (va_A ws sz) t) (va_A ws sz)) rm.cells rm.slots (va_A ws sz)
def Cv {S : Type} (l : Launch) (y : MethodName) (wY : List Cond) (rm : Room) (g : EN) (av : List Value) (ws : va_W) (post : S → Prop) (wsB : S → va_W) : Prop :=
  ∀ sz, Met l y wY rm (va_Pc av (cG g ws sz)) (va_Qv post (fun (u : S) t => cE g (wsB u) (va_A ws sz) t) (va_A ws sz)) rm.cells rm.slots (va_A ws sz)
def Xv {S : Type} (l : Launch) (y : MethodName) (wY : List Cond) (rm : Room) (g : EN) (av : List Value) (ws : va_W) (tE : String → Prop) (post : S → Prop) (wsB : S → va_W) : Prop :=
  ∀ sz, vx_Met l y wY rm (va_Pc av (cG g ws sz)) (va_Qv post (fun (u : S) t => cE g (wsB u) (va_A ws sz) t) (va_A ws sz)) (vx_X (fun _ : Unit => True) (fun E _ t => tE E ∧ cE g ws (va_A ws sz) t) (va_A ws sz)) rm.cells rm.slots (va_A ws sz)
theorem Ci.of {S : Type} {l : Launch} {y : MethodName} {wY ws' : List Cond} {rm : Room} {g : EN} {av : List Value} {ws : va_W} {post : Int32 → S → Prop} {wsB : S → va_W} {cc : ByteArray} {maxL : Nat} (hy : plainName y.cls = true) (hw : wY = Cond.code y cc maxL (some .int) :: ws') (hlen : (lg_sl av).length ≤ maxL) 
    (body : ∀ (p : Program) (e : Env) (s : State) (m : MethodId) (args : Array Value) (below : List Frame) (meth : Method) (c : Code) (A : Nat → Prop) (Q : State → Prop) (ls : Array Slot), CallFix p m c cc maxL s args wY y.cls → cC g ws A s s.heap [] →
    (∀ (r : Int32) (u : S) (H : Heap) (locs : List Loc) (cells slots : Nat) (pc : Nat) (ls : Array Slot), post r u → cC g (wsB u) A s H locs → cells ≤ rm.cells → slots ≤ rm.slots → decode cc pc = .ok (.ireturn, 1) → W p l e rm s m args below meth c H locs cells slots Q (F0 m pc ls [.int r])) →
    lv_has ls maxL (lv_args 0 av) → W p l e rm s m args below meth c s.heap [] 0 0 Q (F0 m 0 ls [])) : Ci l y wY rm g av ws post wsB := by
  intro sz
  refine Met.ofW (cc := cc) (maxL := maxL) (ret := (some .int)) hy hw ?_
  intro p e s m args below meth c s₁ B hml hv
  obtain ⟨rfl, hg⟩ := hv
  obtain ⟨rfl, hG⟩ := hg.start
  have hr := B.returns
  have hts := atoms_spec (ws := wY) B.pre
  have hown : s.vm.findClass y.cls = some m.cls := findClass_of_methodNamed B.named
  have hlk : meth.locks = false := B.notSynchronized
  have hl := lv_entry av (n := maxL) hlen
  rw [lg_entry_eq]
  refine body p e s m av.toArray below meth c (va_A ws s.heap.size) _ _ ⟨B.exec, B.bytes, hml, hown, hts⟩ hG ?_ hl
  · intro r u H locs cells slots pc ls hp hC hc hs hd
    refine W.widen hc hs ?_
    exact W.iret B.exec B.bytes hr (fun t ht hW => ⟨⟨r, u, rfl, hp, hC.endE ht hW.alike⟩, hC.2.2.2.1.F ht⟩) hC.2.2.2.1.2.2 hd (hlocks := hlk)
theorem Cz.of {S : Type} {l : Launch} {y : MethodName} {wY ws' : List Cond} {rm : Room} {g : EN} {av : List Value} {ws : va_W} {post : Int32 → S → Prop} {wsB : S → va_W} {cc : ByteArray} {maxL : Nat} (hy : plainName y.cls = true) (hw : wY = Cond.code y cc maxL (some .boolean) :: ws') (hlen : (lg_sl av).length ≤ maxL) (hbool : ∀ r u, post r u → r = 0 ∨ r = 1) 
    (body : ∀ (p : Program) (e : Env) (s : State) (m : MethodId) (args : Array Value) (below : List Frame) (meth : Method) (c : Code) (A : Nat → Prop) (Q : State → Prop) (ls : Array Slot), CallFix p m c cc maxL s args wY y.cls → cC g ws A s s.heap [] →
    (∀ (r : Int32) (u : S) (H : Heap) (locs : List Loc) (cells slots : Nat) (pc : Nat) (ls : Array Slot), post r u → cC g (wsB u) A s H locs → cells ≤ rm.cells → slots ≤ rm.slots → decode cc pc = .ok (.ireturn, 1) → W p l e rm s m args below meth c H locs cells slots Q (F0 m pc ls [.int r])) →
    lv_has ls maxL (lv_args 0 av) → W p l e rm s m args below meth c s.heap [] 0 0 Q (F0 m 0 ls [])) : Ci l y wY rm g av ws post wsB := by
  intro sz
  refine Met.ofW (cc := cc) (maxL := maxL) (ret := (some .boolean)) hy hw ?_
  intro p e s m args below meth c s₁ B hml hv
  obtain ⟨rfl, hg⟩ := hv
  obtain ⟨rfl, hG⟩ := hg.start
  have hr := B.returns
  have hts := atoms_spec (ws := wY) B.pre
  have hown : s.vm.findClass y.cls = some m.cls := findClass_of_methodNamed B.named
  have hlk : meth.locks = false := B.notSynchronized
  have hl := lv_entry av (n := maxL) hlen
  rw [lg_entry_eq]
  refine body p e s m av.toArray below meth c (va_A ws s.heap.size) _ _ ⟨B.exec, B.bytes, hml, hown, hts⟩ hG ?_ hl
  · intro r u H locs cells slots pc ls hp hC hc hs hd
    refine W.widen hc hs ?_
    exact W.zret B.exec B.bytes hr (nar_b (hbool r u hp)) (fun t ht hW => ⟨⟨r, u, rfl, hp, hC.endE ht hW.alike⟩, hC.2.2.2.1.F ht⟩) hC.2.2.2.1.2.2 hd (hlocks := hlk)
theorem Cl.of {S : Type} {l : Launch} {y : MethodName} {wY ws' : List Cond} {rm : Room} {g : EN} {av : List Value} {ws : va_W} {post : Int64 → S → Prop} {wsB : S → va_W} {cc : ByteArray} {maxL : Nat} (hy : plainName y.cls = true) (hw : wY = Cond.code y cc maxL (some .long) :: ws') (hlen : (lg_sl av).length ≤ maxL) 
    (body : ∀ (p : Program) (e : Env) (s : State) (m : MethodId) (args : Array Value) (below : List Frame) (meth : Method) (c : Code) (A : Nat → Prop) (Q : State → Prop) (ls : Array Slot), CallFix p m c cc maxL s args wY y.cls → cC g ws A s s.heap [] →
    (∀ (r : Int64) (u : S) (H : Heap) (locs : List Loc) (cells slots : Nat) (pc : Nat) (ls : Array Slot), post r u → cC g (wsB u) A s H locs → cells ≤ rm.cells → slots ≤ rm.slots → decode cc pc = .ok (.lreturn, 1) → W p l e rm s m args below meth c H locs cells slots Q (F0 m pc ls [.long r])) →
    lv_has ls maxL (lv_args 0 av) → W p l e rm s m args below meth c s.heap [] 0 0 Q (F0 m 0 ls [])) : Cl l y wY rm g av ws post wsB := by
  intro sz
  refine Met.ofW (cc := cc) (maxL := maxL) (ret := (some .long)) hy hw ?_
  intro p e s m args below meth c s₁ B hml hv
  obtain ⟨rfl, hg⟩ := hv
  obtain ⟨rfl, hG⟩ := hg.start
  have hr := B.returns
  have hts := atoms_spec (ws := wY) B.pre
  have hown : s.vm.findClass y.cls = some m.cls := findClass_of_methodNamed B.named
  have hlk : meth.locks = false := B.notSynchronized
  have hl := lv_entry av (n := maxL) hlen
  rw [lg_entry_eq]
  refine body p e s m av.toArray below meth c (va_A ws s.heap.size) _ _ ⟨B.exec, B.bytes, hml, hown, hts⟩ hG ?_ hl
  · intro r u H locs cells slots pc ls hp hC hc hs hd
    refine W.widen hc hs ?_
    exact W.lret B.exec B.bytes hr (fun t ht hW => ⟨⟨r, u, rfl, hp, hC.endE ht hW.alike⟩, hC.2.2.2.1.F ht⟩) hC.2.2.2.1.2.2 hd (hlocks := hlk)
theorem Cv.of {S : Type} {l : Launch} {y : MethodName} {wY ws' : List Cond} {rm : Room} {g : EN} {av : List Value} {ws : va_W} {post : S → Prop} {wsB : S → va_W} {cc : ByteArray} {maxL : Nat} (hy : plainName y.cls = true) (hw : wY = Cond.code y cc maxL none :: ws') (hlen : (lg_sl av).length ≤ maxL) 
    (body : ∀ (p : Program) (e : Env) (s : State) (m : MethodId) (args : Array Value) (below : List Frame) (meth : Method) (c : Code) (A : Nat → Prop) (Q : State → Prop) (ls : Array Slot), CallFix p m c cc maxL s args wY y.cls → cC g ws A s s.heap [] →
    (∀ (u : S) (H : Heap) (locs : List Loc) (cells slots : Nat) (pc : Nat) (ls : Array Slot), post u → cC g (wsB u) A s H locs → cells ≤ rm.cells → slots ≤ rm.slots → decode cc pc = .ok (.return_, 1) → W p l e rm s m args below meth c H locs cells slots Q (F0 m pc ls [])) →
    lv_has ls maxL (lv_args 0 av) → W p l e rm s m args below meth c s.heap [] 0 0 Q (F0 m 0 ls [])) : Cv l y wY rm g av ws post wsB := by
  intro sz
  refine Met.ofW (cc := cc) (maxL := maxL) (ret := none) hy hw ?_
  intro p e s m args below meth c s₁ B hml hv
  obtain ⟨rfl, hg⟩ := hv
  obtain ⟨rfl, hG⟩ := hg.start
  have hr := B.returns
  have hts := atoms_spec (ws := wY) B.pre
  have hown : s.vm.findClass y.cls = some m.cls := findClass_of_methodNamed B.named
  have hlk : meth.locks = false := B.notSynchronized
  have hl := lv_entry av (n := maxL) hlen
  rw [lg_entry_eq]
  refine body p e s m av.toArray below meth c (va_A ws s.heap.size) _ _ ⟨B.exec, B.bytes, hml, hown, hts⟩ hG ?_ hl
  · intro u H locs cells slots pc ls hp hC hc hs hd
    refine W.widen hc hs ?_
    exact W.vret B.exec B.bytes hr (fun t ht hW => ⟨⟨u, rfl, hp, hC.endE ht hW.alike⟩, hC.2.2.2.1.F ht⟩) hC.2.2.2.1.2.2 hd (hlocks := hlk)
theorem Xi.of {S : Type} {l : Launch} {y : MethodName} {wY ws' : List Cond} {rm : Room} {g : EN} {av : List Value} {ws : va_W} {tE : String → Prop} {post : Int32 → S → Prop} {wsB : S → va_W} {cc : ByteArray} {maxL : Nat} (hl0 : l.stackTraces = false) (hy : plainName y.cls = true) (hw : wY = Cond.code y cc maxL (some .int) :: ws') (hlen : (lg_sl av).length ≤ maxL) 
    (body : ∀ (p : Program) (e : Env) (s : State) (m : MethodId) (args : Array Value) (below : List Frame) (meth : Method) (c : Code) (A : Nat → Prop) (Q : State → Prop) (ls : Array Slot), CallFix p m c cc maxL s args wY y.cls → cC g ws A s s.heap [] →
    (∀ (r : Int32) (u : S) (H : Heap) (locs : List Loc) (cells slots : Nat) (pc : Nat) (ls : Array Slot), post r u → cC g (wsB u) A s H locs → cells ≤ rm.cells → slots ≤ rm.slots → decode cc pc = .ok (.ireturn, 1) → W p l e rm s m args below meth c H locs cells slots Q (F0 m pc ls [.int r])) →
    (∀ (E : String) (ce : Cell) (q9 : Addr) (H : Heap) (locs : List Loc) (cells slots : Nat) (pc : Nat) (ls : Array Slot) (rest : List Value), tE E → cC g ws A s H locs → H[q9]? = some ce → ce.vm = .none → s.vm.findClass E = some ce.cls → cells ≤ rm.cells → slots ≤ rm.slots → vx_W p l e rm s m args below meth c H locs cells slots Q (F0 m pc ls rest) q9) →
    (∀ (own cls text : String) (names : List String) (ik is ic sa : Nat) (H : Heap) (locs : List Loc) (cells slots : Nat) (pc : Nat) (ls : Array Slot), s.vm.findClass own = some m.cls → Bundle.fit cls = true → (∀ n ∈ names, Bundle.fit n = true) →
      (Cond.classLink own ik cls).before args s = true → (Cond.initialized cls).before args s = true → vk_R own is text sa s → (∀ w ∈ vx_atS own ic cls names, w.before args s = true) → (∀ w ∈ Cond.classLink own ik cls :: Cond.initialized cls :: vx_atS own ic cls names, vx_ot w = true) →
      cC g ws A s H locs → ls.size = maxL → decode cc pc = .ok (.new ik, 3) → decode cc (pc + 3) = .ok (.dup, 1) → decode cc (pc + 4) = .ok (.ldc is, 2) → decode cc (pc + 6) = .ok (.invokespecial ic, 3) → decode cc (pc + 9) = .ok (.athrow, 1) →
      names.length + 3 < rm.frames → 13 * (names.length + 1) + 43 ≤ rm.locals → cells + 1 ≤ rm.cells → slots + 6 ≤ rm.slots → tE cls → W p l e rm s m args below meth c H locs cells slots Q (F0 m pc ls [])) →
    lv_has ls maxL (lv_args 0 av) → W p l e rm s m args below meth c s.heap [] 0 0 Q (F0 m 0 ls [])) : Xi l y wY rm g av ws tE post wsB := by
  intro sz
  refine vx_ofW (cc := cc) (maxL := maxL) (ret := (some .int)) hy hw ?_
  intro p e s m args below meth c s₁ B hml ht hv
  obtain ⟨rfl, hg⟩ := hv
  obtain ⟨rfl, hG⟩ := hg.start
  have hr := B.returns
  have hts := atoms_spec (ws := wY) B.pre
  have hown : s.vm.findClass y.cls = some m.cls := findClass_of_methodNamed B.named
  have hlk : meth.locks = false := B.notSynchronized
  have hl := lv_entry av (n := maxL) hlen
  rw [lg_entry_eq]
  refine body p e s m av.toArray below meth c (va_A ws s.heap.size) _ _ ⟨B.exec, B.bytes, hml, hown, hts⟩ hG ?_ ?_ ?_ hl
  · intro r u H locs cells slots pc ls hp hC hc hs hd
    refine vx_ret ?_
    refine W.widen hc hs ?_
    exact W.iret B.exec B.bytes hr (fun t ht hW => ⟨⟨r, u, rfl, hp, hC.endE ht hW.alike⟩, hC.2.2.2.1.F ht⟩) hC.2.2.2.1.2.2 hd (hlocks := hlk)
  · intro E ce q9 H locs cells slots pc ls rest hE hC h1 h2 h3 hc hs
    exact vx_out (fun x hx => (ht x hx).elim) hlk h1 h2 h3 (fun t ht hW => ⟨(), trivial, ⟨hE, hC.endE ht hW⟩, hC.2.2.2.1.F ht⟩) hC.2.2.2.1.2.2 hc hs
  · intro own cls text names ik is ic sa H locs cells slots pc ls hown hcls hnames hk hini hstr hat hgood hC hsize d0 d3 d4 d6 d9 hRf hRl hRc hRs hE
    obtain ⟨hP, hK, hD, hS, hX, hA⟩ := hC
    refine vx_throwS B.exec B.bytes hl0 hown hcls hnames hk hini hstr hat hgood hX.2.1 hX.2.2.1 hS (hsize.trans hml.symm) d0 d3 d4 d6 d9 (fun x hx => (ht x hx).elim) hRf (by simpa using hRl) hRc hRs hlk (fun t hvm hz hk => ⟨(), trivial, ⟨hE, ?_⟩, ?_⟩) hS.2.2 hRc hRs
    · exact ⟨fun k q hq => (hP k q hq).kept (hk q.1 (hP k q hq).lt), va_K.moved hvm hK, hD⟩
    · exact ⟨Nat.le_trans hS.1 hz, fun q h1 h2 => (hk q (Nat.lt_of_lt_of_le h1 hS.1)).trans (hS.2.1 q h1 h2)⟩
theorem Xz.of {S : Type} {l : Launch} {y : MethodName} {wY ws' : List Cond} {rm : Room} {g : EN} {av : List Value} {ws : va_W} {tE : String → Prop} {post : Int32 → S → Prop} {wsB : S → va_W} {cc : ByteArray} {maxL : Nat} (hl0 : l.stackTraces = false) (hy : plainName y.cls = true) (hw : wY = Cond.code y cc maxL (some .boolean) :: ws') (hlen : (lg_sl av).length ≤ maxL) (hbool : ∀ r u, post r u → r = 0 ∨ r = 1) 
    (body : ∀ (p : Program) (e : Env) (s : State) (m : MethodId) (args : Array Value) (below : List Frame) (meth : Method) (c : Code) (A : Nat → Prop) (Q : State → Prop) (ls : Array Slot), CallFix p m c cc maxL s args wY y.cls → cC g ws A s s.heap [] →
    (∀ (r : Int32) (u : S) (H : Heap) (locs : List Loc) (cells slots : Nat) (pc : Nat) (ls : Array Slot), post r u → cC g (wsB u) A s H locs → cells ≤ rm.cells → slots ≤ rm.slots → decode cc pc = .ok (.ireturn, 1) → W p l e rm s m args below meth c H locs cells slots Q (F0 m pc ls [.int r])) →
    (∀ (E : String) (ce : Cell) (q9 : Addr) (H : Heap) (locs : List Loc) (cells slots : Nat) (pc : Nat) (ls : Array Slot) (rest : List Value), tE E → cC g ws A s H locs → H[q9]? = some ce → ce.vm = .none → s.vm.findClass E = some ce.cls → cells ≤ rm.cells → slots ≤ rm.slots → vx_W p l e rm s m args below meth c H locs cells slots Q (F0 m pc ls rest) q9) →
    (∀ (own cls text : String) (names : List String) (ik is ic sa : Nat) (H : Heap) (locs : List Loc) (cells slots : Nat) (pc : Nat) (ls : Array Slot), s.vm.findClass own = some m.cls → Bundle.fit cls = true → (∀ n ∈ names, Bundle.fit n = true) →
      (Cond.classLink own ik cls).before args s = true → (Cond.initialized cls).before args s = true → vk_R own is text sa s → (∀ w ∈ vx_atS own ic cls names, w.before args s = true) → (∀ w ∈ Cond.classLink own ik cls :: Cond.initialized cls :: vx_atS own ic cls names, vx_ot w = true) →
      cC g ws A s H locs → ls.size = maxL → decode cc pc = .ok (.new ik, 3) → decode cc (pc + 3) = .ok (.dup, 1) → decode cc (pc + 4) = .ok (.ldc is, 2) → decode cc (pc + 6) = .ok (.invokespecial ic, 3) → decode cc (pc + 9) = .ok (.athrow, 1) →
      names.length + 3 < rm.frames → 13 * (names.length + 1) + 43 ≤ rm.locals → cells + 1 ≤ rm.cells → slots + 6 ≤ rm.slots → tE cls → W p l e rm s m args below meth c H locs cells slots Q (F0 m pc ls [])) →
    lv_has ls maxL (lv_args 0 av) → W p l e rm s m args below meth c s.heap [] 0 0 Q (F0 m 0 ls [])) : Xi l y wY rm g av ws tE post wsB := by
  intro sz
  refine vx_ofW (cc := cc) (maxL := maxL) (ret := (some .boolean)) hy hw ?_
  intro p e s m args below meth c s₁ B hml ht hv
  obtain ⟨rfl, hg⟩ := hv
  obtain ⟨rfl, hG⟩ := hg.start
  have hr := B.returns
  have hts := atoms_spec (ws := wY) B.pre
  have hown : s.vm.findClass y.cls = some m.cls := findClass_of_methodNamed B.named
  have hlk : meth.locks = false := B.notSynchronized
  have hl := lv_entry av (n := maxL) hlen
  rw [lg_entry_eq]
  refine body p e s m av.toArray below meth c (va_A ws s.heap.size) _ _ ⟨B.exec, B.bytes, hml, hown, hts⟩ hG ?_ ?_ ?_ hl
  · intro r u H locs cells slots pc ls hp hC hc hs hd
    refine vx_ret ?_
    refine W.widen hc hs ?_
    exact W.zret B.exec B.bytes hr (nar_b (hbool r u hp)) (fun t ht hW => ⟨⟨r, u, rfl, hp, hC.endE ht hW.alike⟩, hC.2.2.2.1.F ht⟩) hC.2.2.2.1.2.2 hd (hlocks := hlk)
  · intro E ce q9 H locs cells slots pc ls rest hE hC h1 h2 h3 hc hs
    exact vx_out (fun x hx => (ht x hx).elim) hlk h1 h2 h3 (fun t ht hW => ⟨(), trivial, ⟨hE, hC.endE ht hW⟩, hC.2.2.2.1.F ht⟩) hC.2.2.2.1.2.2 hc hs
  · intro own cls text names ik is ic sa H locs cells slots pc ls hown hcls hnames hk hini hstr hat hgood hC hsize d0 d3 d4 d6 d9 hRf hRl hRc hRs hE
    obtain ⟨hP, hK, hD, hS, hX, hA⟩ := hC
    refine vx_throwS B.exec B.bytes hl0 hown hcls hnames hk hini hstr hat hgood hX.2.1 hX.2.2.1 hS (hsize.trans hml.symm) d0 d3 d4 d6 d9 (fun x hx => (ht x hx).elim) hRf (by simpa using hRl) hRc hRs hlk (fun t hvm hz hk => ⟨(), trivial, ⟨hE, ?_⟩, ?_⟩) hS.2.2 hRc hRs
    · exact ⟨fun k q hq => (hP k q hq).kept (hk q.1 (hP k q hq).lt), va_K.moved hvm hK, hD⟩
    · exact ⟨Nat.le_trans hS.1 hz, fun q h1 h2 => (hk q (Nat.lt_of_lt_of_le h1 hS.1)).trans (hS.2.1 q h1 h2)⟩
theorem Xl.of {S : Type} {l : Launch} {y : MethodName} {wY ws' : List Cond} {rm : Room} {g : EN} {av : List Value} {ws : va_W} {tE : String → Prop} {post : Int64 → S → Prop} {wsB : S → va_W} {cc : ByteArray} {maxL : Nat} (hl0 : l.stackTraces = false) (hy : plainName y.cls = true) (hw : wY = Cond.code y cc maxL (some .long) :: ws') (hlen : (lg_sl av).length ≤ maxL) 
    (body : ∀ (p : Program) (e : Env) (s : State) (m : MethodId) (args : Array Value) (below : List Frame) (meth : Method) (c : Code) (A : Nat → Prop) (Q : State → Prop) (ls : Array Slot), CallFix p m c cc maxL s args wY y.cls → cC g ws A s s.heap [] →
    (∀ (r : Int64) (u : S) (H : Heap) (locs : List Loc) (cells slots : Nat) (pc : Nat) (ls : Array Slot), post r u → cC g (wsB u) A s H locs → cells ≤ rm.cells → slots ≤ rm.slots → decode cc pc = .ok (.lreturn, 1) → W p l e rm s m args below meth c H locs cells slots Q (F0 m pc ls [.long r])) →
    (∀ (E : String) (ce : Cell) (q9 : Addr) (H : Heap) (locs : List Loc) (cells slots : Nat) (pc : Nat) (ls : Array Slot) (rest : List Value), tE E → cC g ws A s H locs → H[q9]? = some ce → ce.vm = .none → s.vm.findClass E = some ce.cls → cells ≤ rm.cells → slots ≤ rm.slots → vx_W p l e rm s m args below meth c H locs cells slots Q (F0 m pc ls rest) q9) →
    (∀ (own cls text : String) (names : List String) (ik is ic sa : Nat) (H : Heap) (locs : List Loc) (cells slots : Nat) (pc : Nat) (ls : Array Slot), s.vm.findClass own = some m.cls → Bundle.fit cls = true → (∀ n ∈ names, Bundle.fit n = true) →
      (Cond.classLink own ik cls).before args s = true → (Cond.initialized cls).before args s = true → vk_R own is text sa s → (∀ w ∈ vx_atS own ic cls names, w.before args s = true) → (∀ w ∈ Cond.classLink own ik cls :: Cond.initialized cls :: vx_atS own ic cls names, vx_ot w = true) →
      cC g ws A s H locs → ls.size = maxL → decode cc pc = .ok (.new ik, 3) → decode cc (pc + 3) = .ok (.dup, 1) → decode cc (pc + 4) = .ok (.ldc is, 2) → decode cc (pc + 6) = .ok (.invokespecial ic, 3) → decode cc (pc + 9) = .ok (.athrow, 1) →
      names.length + 3 < rm.frames → 13 * (names.length + 1) + 43 ≤ rm.locals → cells + 1 ≤ rm.cells → slots + 6 ≤ rm.slots → tE cls → W p l e rm s m args below meth c H locs cells slots Q (F0 m pc ls [])) →
    lv_has ls maxL (lv_args 0 av) → W p l e rm s m args below meth c s.heap [] 0 0 Q (F0 m 0 ls [])) : Xl l y wY rm g av ws tE post wsB := by
  intro sz
  refine vx_ofW (cc := cc) (maxL := maxL) (ret := (some .long)) hy hw ?_
  intro p e s m args below meth c s₁ B hml ht hv
  obtain ⟨rfl, hg⟩ := hv
  obtain ⟨rfl, hG⟩ := hg.start
  have hr := B.returns
  have hts := atoms_spec (ws := wY) B.pre
  have hown : s.vm.findClass y.cls = some m.cls := findClass_of_methodNamed B.named
  have hlk : meth.locks = false := B.notSynchronized
  have hl := lv_entry av (n := maxL) hlen
  rw [lg_entry_eq]
  refine body p e s m av.toArray below meth c (va_A ws s.heap.size) _ _ ⟨B.exec, B.bytes, hml, hown, hts⟩ hG ?_ ?_ ?_ hl
  · intro r u H locs cells slots pc ls hp hC hc hs hd
    refine vx_ret ?_
    refine W.widen hc hs ?_
    exact W.lret B.exec B.bytes hr (fun t ht hW => ⟨⟨r, u, rfl, hp, hC.endE ht hW.alike⟩, hC.2.2.2.1.F ht⟩) hC.2.2.2.1.2.2 hd (hlocks := hlk)
  · intro E ce q9 H locs cells slots pc ls rest hE hC h1 h2 h3 hc hs
    exact vx_out (fun x hx => (ht x hx).elim) hlk h1 h2 h3 (fun t ht hW => ⟨(), trivial, ⟨hE, hC.endE ht hW⟩, hC.2.2.2.1.F ht⟩) hC.2.2.2.1.2.2 hc hs
  · intro own cls text names ik is ic sa H locs cells slots pc ls hown hcls hnames hk hini hstr hat hgood hC hsize d0 d3 d4 d6 d9 hRf hRl hRc hRs hE
    obtain ⟨hP, hK, hD, hS, hX, hA⟩ := hC
    refine vx_throwS B.exec B.bytes hl0 hown hcls hnames hk hini hstr hat hgood hX.2.1 hX.2.2.1 hS (hsize.trans hml.symm) d0 d3 d4 d6 d9 (fun x hx => (ht x hx).elim) hRf (by simpa using hRl) hRc hRs hlk (fun t hvm hz hk => ⟨(), trivial, ⟨hE, ?_⟩, ?_⟩) hS.2.2 hRc hRs
    · exact ⟨fun k q hq => (hP k q hq).kept (hk q.1 (hP k q hq).lt), va_K.moved hvm hK, hD⟩
    · exact ⟨Nat.le_trans hS.1 hz, fun q h1 h2 => (hk q (Nat.lt_of_lt_of_le h1 hS.1)).trans (hS.2.1 q h1 h2)⟩
theorem Xv.of {S : Type} {l : Launch} {y : MethodName} {wY ws' : List Cond} {rm : Room} {g : EN} {av : List Value} {ws : va_W} {tE : String → Prop} {post : S → Prop} {wsB : S → va_W} {cc : ByteArray} {maxL : Nat} (hl0 : l.stackTraces = false) (hy : plainName y.cls = true) (hw : wY = Cond.code y cc maxL none :: ws') (hlen : (lg_sl av).length ≤ maxL) 
    (body : ∀ (p : Program) (e : Env) (s : State) (m : MethodId) (args : Array Value) (below : List Frame) (meth : Method) (c : Code) (A : Nat → Prop) (Q : State → Prop) (ls : Array Slot), CallFix p m c cc maxL s args wY y.cls → cC g ws A s s.heap [] →
    (∀ (u : S) (H : Heap) (locs : List Loc) (cells slots : Nat) (pc : Nat) (ls : Array Slot), post u → cC g (wsB u) A s H locs → cells ≤ rm.cells → slots ≤ rm.slots → decode cc pc = .ok (.return_, 1) → W p l e rm s m args below meth c H locs cells slots Q (F0 m pc ls [])) →
    (∀ (E : String) (ce : Cell) (q9 : Addr) (H : Heap) (locs : List Loc) (cells slots : Nat) (pc : Nat) (ls : Array Slot) (rest : List Value), tE E → cC g ws A s H locs → H[q9]? = some ce → ce.vm = .none → s.vm.findClass E = some ce.cls → cells ≤ rm.cells → slots ≤ rm.slots → vx_W p l e rm s m args below meth c H locs cells slots Q (F0 m pc ls rest) q9) →
    (∀ (own cls text : String) (names : List String) (ik is ic sa : Nat) (H : Heap) (locs : List Loc) (cells slots : Nat) (pc : Nat) (ls : Array Slot), s.vm.findClass own = some m.cls → Bundle.fit cls = true → (∀ n ∈ names, Bundle.fit n = true) →
      (Cond.classLink own ik cls).before args s = true → (Cond.initialized cls).before args s = true → vk_R own is text sa s → (∀ w ∈ vx_atS own ic cls names, w.before args s = true) → (∀ w ∈ Cond.classLink own ik cls :: Cond.initialized cls :: vx_atS own ic cls names, vx_ot w = true) →
      cC g ws A s H locs → ls.size = maxL → decode cc pc = .ok (.new ik, 3) → decode cc (pc + 3) = .ok (.dup, 1) → decode cc (pc + 4) = .ok (.ldc is, 2) → decode cc (pc + 6) = .ok (.invokespecial ic, 3) → decode cc (pc + 9) = .ok (.athrow, 1) →
      names.length + 3 < rm.frames → 13 * (names.length + 1) + 43 ≤ rm.locals → cells + 1 ≤ rm.cells → slots + 6 ≤ rm.slots → tE cls → W p l e rm s m args below meth c H locs cells slots Q (F0 m pc ls [])) →
    lv_has ls maxL (lv_args 0 av) → W p l e rm s m args below meth c s.heap [] 0 0 Q (F0 m 0 ls [])) : Xv l y wY rm g av ws tE post wsB := by
  intro sz
  refine vx_ofW (cc := cc) (maxL := maxL) (ret := none) hy hw ?_
  intro p e s m args below meth c s₁ B hml ht hv
  obtain ⟨rfl, hg⟩ := hv
  obtain ⟨rfl, hG⟩ := hg.start
  have hr := B.returns
  have hts := atoms_spec (ws := wY) B.pre
  have hown : s.vm.findClass y.cls = some m.cls := findClass_of_methodNamed B.named
  have hlk : meth.locks = false := B.notSynchronized
  have hl := lv_entry av (n := maxL) hlen
  rw [lg_entry_eq]
  refine body p e s m av.toArray below meth c (va_A ws s.heap.size) _ _ ⟨B.exec, B.bytes, hml, hown, hts⟩ hG ?_ ?_ ?_ hl
  · intro u H locs cells slots pc ls hp hC hc hs hd
    refine vx_ret ?_
    refine W.widen hc hs ?_
    exact W.vret B.exec B.bytes hr (fun t ht hW => ⟨⟨u, rfl, hp, hC.endE ht hW.alike⟩, hC.2.2.2.1.F ht⟩) hC.2.2.2.1.2.2 hd (hlocks := hlk)
  · intro E ce q9 H locs cells slots pc ls rest hE hC h1 h2 h3 hc hs
    exact vx_out (fun x hx => (ht x hx).elim) hlk h1 h2 h3 (fun t ht hW => ⟨(), trivial, ⟨hE, hC.endE ht hW⟩, hC.2.2.2.1.F ht⟩) hC.2.2.2.1.2.2 hc hs
  · intro own cls text names ik is ic sa H locs cells slots pc ls hown hcls hnames hk hini hstr hat hgood hC hsize d0 d3 d4 d6 d9 hRf hRl hRc hRs hE
    obtain ⟨hP, hK, hD, hS, hX, hA⟩ := hC
    refine vx_throwS B.exec B.bytes hl0 hown hcls hnames hk hini hstr hat hgood hX.2.1 hX.2.2.1 hS (hsize.trans hml.symm) d0 d3 d4 d6 d9 (fun x hx => (ht x hx).elim) hRf (by simpa using hRl) hRc hRs hlk (fun t hvm hz hk => ⟨(), trivial, ⟨hE, ?_⟩, ?_⟩) hS.2.2 hRc hRs
    · exact ⟨fun k q hq => (hP k q hq).kept (hk q.1 (hP k q hq).lt), va_K.moved hvm hK, hD⟩
    · exact ⟨Nat.le_trans hS.1 hz, fun q h1 h2 => (hk q (Nat.lt_of_lt_of_le h1 hS.1)).trans (hS.2.1 q h1 h2)⟩
section QR
variable {p : Program} {l : Launch} {e : Env} {R : Room} {s : State} {m : MethodId} {args : Array Value} {below : List Frame} {meth : Method} {c : Code} {H : Heap} {locs : List Loc} {cells slots : Nat} {Q : State → Prop}
variable {cc : ByteArray} {nL pc : Nat} {ls : Array Slot} {rest : List Value} {Ts : List Cond} {own : String} {g : EN} {ws : va_W} {A : Nat → Prop}
theorem q_ren {x y : Int32} (e1 : x = y) (k : W p l e R s m args below meth c H locs cells slots Q (F0 m pc ls (.int y :: rest))) : W p l e R s m args below meth c H locs cells slots Q (F0 m pc ls (.int x :: rest)) := by rw [e1]; exact k
theorem q_renl {x y : Int64} (e1 : x = y) (k : W p l e R s m args below meth c H locs cells slots Q (F0 m pc ls (.long y :: rest))) : W p l e R s m args below meth c H locs cells slots Q (F0 m pc ls (.long x :: rest)) := by rw [e1]; exact k
theorem q_at (hM : CallFix p m c cc nL s args Ts own) (hG : cC g ws A s H locs) {own' cls : String} {ic : Nat} {names : List String} (h1 : ∀ w ∈ (vx_atS own' ic cls names).filter goodWord, w ∈ Ts) (h2 : ∀ w ∈ (vx_atS own' ic cls names).filter (fun w => !goodWord w), w ∈ nWs) : ∀ w ∈ vx_atS own' ic cls names, w.before args s = true :=
  vx_hat (fun w hw => hM.2.2.2.2 w (h1 w hw)) h2 (fun w hw => by
    have hot : w ∈ nWs → w.onTables = true := by
      intro hw
      simp only [nWs, List.mem_cons, List.not_mem_nil, or_false] at hw
      rcases hw with rfl | rfl | rfl | rfl | rfl | rfl | rfl | rfl | rfl | rfl | rfl | rfl | rfl | rfl | rfl | rfl | rfl | rfl | rfl | rfl | rfl <;> rfl
    exact va_Nw.use (hot hw) (hG.2.2.2.2.1.1 w hw))
theorem q_get (hM : CallFix p m c cc nL s args Ts own) (hG : cC g ws A s H locs) {C ref : String} {T : u_T} {n ci index a : Nat} (hin : ∀ w ∈ u_ws C T n, w ∈ Ts) (q0 : Nat) {fs : List Value} (he : ws[q0]? = some (a, .inr (ci, fs))) (hc : vwCl[ci]? = some (C, T, n)) (k : Nat) (hk : k < n) (hlink : Cond.fieldLink own index ref (T k).2.1 (T k).2.2.1 ∈ Ts) (href : (T k).1 = ref) {v : Value} (hv : fs[k]? = some v) (hdg : decode cc pc = .ok (.getfield index, 3))
    (kk : W p l e R s m args below meth c H locs cells slots Q (F0 m (pc + 3) ls (v :: rest))) : W p l e R s m args below meth c H locs cells slots Q (F0 m pc ls (.ref a :: rest)) :=
  va_get (D := g.1) hM.1 hM.2.1 hM.2.2.2.2 hin hM.2.2.2.1 hG.2.1 hG.1 q0 he hc k hk (hM.2.2.2.2 _ hlink) (fun _ h9 => by rw [← href]; exact h9) hv hdg kk
theorem q_getN (hM : CallFix p m c cc nL s args Ts own) (hG : cC g ws A s H locs) {C ref host : String} {T : u_T} {n ci index a : Nat} (hin : ∀ w ∈ u_ws C T n, w ∈ Ts) (q0 : Nat) {fs : List Value} (he : ws[q0]? = some (a, .inr (ci, fs))) (hc : vwCl[ci]? = some (C, T, n)) (k : Nat) (hk : k < n) (hlink : Cond.fieldLinkNest own index ref (T k).2.1 (T k).2.2.1 host ∈ nWs) (href : (T k).1 = ref) {v : Value} (hv : fs[k]? = some v) (hdg : decode cc pc = .ok (.getfield index, 3))
    (kk : W p l e R s m args below meth c H locs cells slots Q (F0 m (pc + 3) ls (v :: rest))) : W p l e R s m args below meth c H locs cells slots Q (F0 m pc ls (.ref a :: rest)) :=
  va_getN (D := g.1) hM.1 hM.2.1 hM.2.2.2.2 hin hM.2.2.2.1 hG.2.1 hG.1 q0 he hc k hk (va_Nw.use rfl (hG.2.2.2.2.1.1 _ hlink)) (fun _ h9 => by rw [← href]; exact h9) hv hdg kk
theorem q_put (hM : CallFix p m c cc nL s args Ts own) (hG : cC g ws A s H locs) {C ref : String} {T : u_T} {n ci index a : Nat} (hin : ∀ w ∈ u_ws C T n, w ∈ Ts) (ty0 : Nat → FieldType) (hty : ∀ k, k < n → parseFieldDescriptor (T k).2.2.1 = some (ty0 k)) (hnm : ∀ a, a < n → ∀ b, b < n → a ≠ b → (T a).2.1 ≠ (T b).2.1) (q0 : Nat) {fs : List Value} (he : ws[q0]? = some (a, .inr (ci, fs))) (hc : vwCl[ci]? = some (C, T, n)) (k : Nat) (hk : k < n) (hlink : Cond.fieldLink own index ref (T k).2.1 (T k).2.2.1 ∈ Ts) (href : (T k).1 = ref) (hfin : (T k).2.2.2 = false) {v : Int32} (hty1 : (T k).2.2.1 = "I") (hl : k < fs.length) {ws1 : va_W} (hws : ws.set q0 (a, .inr (ci, fs.set k (.int v))) = ws1) (hdg : decode cc pc = .ok (.putfield index, 3))
    (kk : ∀ (H1 : Heap) (locs1 : List Loc), cC g ws1 A s H1 locs1 → W p l e R s m args below meth c H1 locs1 cells slots Q (F0 m (pc + 3) ls rest)) : W p l e R s m args below meth c H locs cells slots Q (F0 m pc ls (.int v :: .ref a :: rest)) := by
  obtain ⟨hP, hK, hD, hS, hX, hA⟩ := hG
  refine va_put (D := g.1) hM.1 hM.2.1 hM.2.2.2.2 hin ty0 hty hnm hM.2.2.2.1 hK hP hD hS q0 he hc k hk (hM.2.2.2.2 _ hlink) (fun _ h9 => by rw [← href]; exact h9) hfin (ty := .int) (by rw [hty1]; rfl) rfl rfl hl hdg ?_
  intro H1 locs1 hP hD hS
  rw [hws] at hP hD
  exact kk H1 locs1 ⟨hP, hK, hD, hS, hX, hA⟩

theorem q_iald (hM : CallFix p m c cc nL s args Ts own) (hG : cC g ws A s H locs) (q0 : Nat) {a n i : Nat} {f : Nat → Int32} (ha : ws[q0]? = some (a, .inl (g.2.1, n, .inl f))) (hi : i < n) (hn : n ≤ 100) (hdg : decode cc pc = .ok (.iaload, 1))
    (kk : W p l e R s m args below meth c H locs cells slots Q (F0 m (pc + 1) ls (.int (f i) :: rest))) : W p l e R s m args below meth c H locs cells slots Q (F0 m pc ls (.int (nI i) :: .ref a :: rest)) := by
  have h31 : n < 2 ^ 31 := Nat.lt_of_le_of_lt hn (by decide)
  refine va_iald (D := g.1) hM.1 hM.2.1 hG.2.1 hG.1 q0 0 ha rfl (vp_in_nI hi h31) hdg ?_
  rw [nI_clamp (Nat.lt_trans hi h31)]; exact kk
theorem q_iast (hM : CallFix p m c cc nL s args Ts own) (hG : cC g ws A s H locs) (q0 : Nat) {a n i : Nat} {f : Nat → Int32} (ha : ws[q0]? = some (a, .inl (g.2.1, n, .inl f))) (hi : i < n) (hn : n ≤ 100) {x : Int32} {ws1 : va_W} (hws : ws.set q0 (a, .inl (g.2.1, n, .inl (upd f i x))) = ws1) (hdg : decode cc pc = .ok (.iastore, 1))
    (kk : ∀ (H1 : Heap) (locs1 : List Loc), cC g ws1 A s H1 locs1 → W p l e R s m args below meth c H1 locs1 cells slots Q (F0 m (pc + 1) ls rest)) : W p l e R s m args below meth c H locs cells slots Q (F0 m pc ls (.int x :: .int (nI i) :: .ref a :: rest)) := by
  have h31 : n < 2 ^ 31 := Nat.lt_of_le_of_lt hn (by decide)
  obtain ⟨hP, hK, hD, hS, hX, hA⟩ := hG
  refine va_iast (D := g.1) hM.1 hM.2.1 hK hP hD hS q0 0 ha rfl (vp_in_nI hi h31) hdg ?_
  intro H1 locs1 hP hD hS
  rw [nI_clamp (Nat.lt_trans hi h31), hws] at hP hD
  exact kk H1 locs1 ⟨hP, hK, hD, hS, hX, hA⟩
theorem q_lald (hM : CallFix p m c cc nL s args Ts own) (hG : cC g ws A s H locs) (q0 : Nat) {a n i : Nat} {f : Nat → Int64} (ha : ws[q0]? = some (a, .inl (g.2.2.1, n, .inr (.inl f)))) (hi : i < n) (hn : n ≤ 100) (hdg : decode cc pc = .ok (.laload, 1))
    (kk : W p l e R s m args below meth c H locs cells slots Q (F0 m (pc + 1) ls (.long (f i) :: rest))) : W p l e R s m args below meth c H locs cells slots Q (F0 m pc ls (.int (nI i) :: .ref a :: rest)) := by
  have h31 : n < 2 ^ 31 := Nat.lt_of_le_of_lt hn (by decide)
  refine va_lald (D := g.1) hM.1 hM.2.1 hG.2.1 hG.1 q0 1 ha rfl (vp_in_nI hi h31) hdg ?_
  rw [nI_clamp (Nat.lt_trans hi h31)]; exact kk
theorem q_last (hM : CallFix p m c cc nL s args Ts own) (hG : cC g ws A s H locs) (q0 : Nat) {a n i : Nat} {f : Nat → Int64} (ha : ws[q0]? = some (a, .inl (g.2.2.1, n, .inr (.inl f)))) (hi : i < n) (hn : n ≤ 100) {x : Int64} {ws1 : va_W} (hws : ws.set q0 (a, .inl (g.2.2.1, n, .inr (.inl (vp_updL f i x)))) = ws1) (hdg : decode cc pc = .ok (.lastore, 1))
    (kk : ∀ (H1 : Heap) (locs1 : List Loc), cC g ws1 A s H1 locs1 → W p l e R s m args below meth c H1 locs1 cells slots Q (F0 m (pc + 1) ls rest)) : W p l e R s m args below meth c H locs cells slots Q (F0 m pc ls (.long x :: .int (nI i) :: .ref a :: rest)) := by
  have h31 : n < 2 ^ 31 := Nat.lt_of_le_of_lt hn (by decide)
  obtain ⟨hP, hK, hD, hS, hX, hA⟩ := hG
  refine va_last (D := g.1) hM.1 hM.2.1 hK hP hD hS q0 1 ha rfl (vp_in_nI hi h31) hdg ?_
  intro H1 locs1 hP hD hS
  rw [nI_clamp (Nat.lt_trans hi h31), hws] at hP hD
  exact kk H1 locs1 ⟨hP, hK, hD, hS, hX, hA⟩
theorem q_zald (hM : CallFix p m c cc nL s args Ts own) (hG : cC g ws A s H locs) (q0 : Nat) {a n i : Nat} {f : Nat → Int32} (ha : ws[q0]? = some (a, .inl (g.2.2.2, n, .inl f))) (hi : i < n) (hn : n ≤ 100) (hdg : decode cc pc = .ok (.baload, 1))
    (kk : W p l e R s m args below meth c H locs cells slots Q (F0 m (pc + 1) ls (.int (f i) :: rest))) : W p l e R s m args below meth c H locs cells slots Q (F0 m pc ls (.int (nI i) :: .ref a :: rest)) := by
  have h31 : n < 2 ^ 31 := Nat.lt_of_le_of_lt hn (by decide)
  refine va_zald (D := g.1) hM.1 hM.2.1 hG.2.1 hG.1 q0 2 ha rfl (vp_in_nI hi h31) hdg ?_
  rw [nI_clamp (Nat.lt_trans hi h31)]; exact kk
theorem q_zast (hM : CallFix p m c cc nL s args Ts own) (hG : cC g ws A s H locs) (q0 : Nat) {a n i : Nat} {f : Nat → Int32} (ha : ws[q0]? = some (a, .inl (g.2.2.2, n, .inl f))) (hi : i < n) (hn : n ≤ 100) {x : Int32} (hx01 : x = 0 ∨ x = 1) {ws1 : va_W} (hws : ws.set q0 (a, .inl (g.2.2.2, n, .inl (upd f i x))) = ws1) (hdg : decode cc pc = .ok (.bastore, 1))
    (kk : ∀ (H1 : Heap) (locs1 : List Loc), cC g ws1 A s H1 locs1 → W p l e R s m args below meth c H1 locs1 cells slots Q (F0 m (pc + 1) ls rest)) : W p l e R s m args below meth c H locs cells slots Q (F0 m pc ls (.int x :: .int (nI i) :: .ref a :: rest)) := by
  have h31 : n < 2 ^ 31 := Nat.lt_of_le_of_lt hn (by decide)
  obtain ⟨hP, hK, hD, hS, hX, hA⟩ := hG
  refine va_zast (D := g.1) hM.1 hM.2.1 hK hP hD hS q0 2 ha rfl (vp_in_nI hi h31) hdg ?_
  intro H1 locs1 hP hD hS
  have hx2 : vp_nar .boolean x = x := by rcases hx01 with rfl | rfl <;> rfl
  rw [nI_clamp (Nat.lt_trans hi h31), hx2, hws] at hP hD
  exact kk H1 locs1 ⟨hP, hK, hD, hS, hX, hA⟩
theorem q_calli {S : Type} {y : MethodName} {bytes : ByteArray} {maxL n index : Nat} {ret : Option FieldType} {wY ws' : List Cond} {rm : Room} {b : Nat} {As : List Value} {post : Int32 → S → Prop} {wsB : S → va_W} (hM : CallFix p m c cc nL s args Ts own) (hl : ls.size = nL) (hG : cC g ws A s H locs) (hC : Ci l y wY rm g (.ref b :: As) ws post wsB) (hw : wY = Cond.code y bytes maxL ret :: ws') {C : String} (hgood : GoodIn Ts (wsV own index C y wY)) (hd : y.cls = C ∧ y.cls ≠ "java/lang/invoke/MethodHandle" ∧ y.cls ≠ "java/lang/invoke/VarHandle" ∧ (parseMethodDescriptor y.desc).map (fun d => d.parameters.length) = some n) (hR : rm.frames + 1 ≤ R.frames ∧ 8 + (maxL + 11) + rm.locals ≤ R.locals) (q0 : Nat) {ci : Nat} {fs : List Value} (he : ws[q0]? = some (b, .inr (ci, fs))) {vq : vw_C} (hc : vwCl[ci]? = some vq) (hq : vq.1 = C) {st0 : List Value} (hst : st0 = As.reverse ++ .ref b :: rest) (hn : As.length = n) (hcat : (rest.map fun v => v.category).sum ≤ 8) (hdg : decode cc pc = .ok (.invokevirtual index, 3)) {c1 s1 : Nat} (hc1 : cells + rm.cells = c1) (hs1 : slots + rm.slots = s1) (hroom : c1 ≤ R.cells ∧ s1 ≤ R.slots)
    (kk : ∀ (r : Int32) (u : S) (H1 : Heap) (locs1 : List Loc), post r u → cC g (wsB u) A s H1 locs1 → W p l e R s m args below meth c H1 locs1 c1 s1 Q (F0 m (pc + 3) ls (.int r :: rest))) : W p l e R s m args below meth c H locs cells slots Q (F0 m pc ls st0) := by
  subst hc1; subst hs1
  have hf := hG.free
  have hS := hG.2.2.2.1
  refine va_calli (va_runV (As := As) (rest := rest) hM (hC H.size) (cwV n hM.2.2.2.2 hgood hw rfl rfl hd hR) ⟨cG.blind, (by have h9 := va_recv hG.2.1 hG.1 hc he; rw [hq] at h9; exact h9), fun U hU hW => ⟨rfl, hG.call U hU hW⟩⟩ rfl hn hl hst (lv_room hcat) hdg hroom) hS (fun q _ h => hf q h) hf (fun r u t H1 locs1 ht hvm hp hB hz1 hk1 hS1 => ?_)
  exact kk r u H1 locs1 hp (hG.back hB ht hvm hS1)
theorem q_callSi {S : Type} {y : MethodName} {bytes : ByteArray} {maxL n index : Nat} {ret : Option FieldType} {wY ws' : List Cond} {rm : Room} {As : List Value} {post : Int32 → S → Prop} {wsB : S → va_W} (hM : CallFix p m c cc nL s args Ts own) (hl : ls.size = nL) (hG : cC g ws A s H locs) (hC : Ci l y wY rm g As ws post wsB) (hw : wY = Cond.code y bytes maxL ret :: ws') (hgood : GoodIn Ts (va_wsS own index y wY)) (hd : y.cls ≠ "java/lang/invoke/MethodHandle" ∧ y.cls ≠ "java/lang/invoke/VarHandle" ∧ (parseMethodDescriptor y.desc).map (fun d => d.parameters.length) = some n) (hR : rm.frames + 1 ≤ R.frames ∧ 8 + (maxL + 11) + rm.locals ≤ R.locals) {st0 : List Value} (hst : st0 = As.reverse ++ rest) (hn : As.length = n) (hcat : (rest.map fun v => v.category).sum ≤ 8) (hdg : decode cc pc = .ok (.invokestatic index, 3)) {c1 s1 : Nat} (hc1 : cells + rm.cells = c1) (hs1 : slots + rm.slots = s1) (hroom : c1 ≤ R.cells ∧ s1 ≤ R.slots)
    (kk : ∀ (r : Int32) (u : S) (H1 : Heap) (locs1 : List Loc), post r u → cC g (wsB u) A s H1 locs1 → W p l e R s m args below meth c H1 locs1 c1 s1 Q (F0 m (pc + 3) ls (.int r :: rest))) : W p l e R s m args below meth c H locs cells slots Q (F0 m pc ls st0) := by
  subst hc1; subst hs1
  have hf := hG.free
  have hS := hG.2.2.2.1
  refine va_calli (va_runS (As := As) (rest := rest) hM (hC H.size) (va_cwS n hM.2.2.2.2 hgood hw rfl rfl hd hR) ⟨cG.blind, fun U hU hW => ⟨rfl, hG.call U hU hW⟩⟩ rfl hn hl hst (lv_room hcat) hdg hroom) hS (fun q _ h => hf q h) hf (fun r u t H1 locs1 ht hvm hp hB hz1 hk1 hS1 => ?_)
  exact kk r u H1 locs1 hp (hG.back hB ht hvm hS1)
theorem q_callNi {S : Type} {y : MethodName} {bytes : ByteArray} {maxL n index : Nat} {ret : Option FieldType} {wY ws' : List Cond} {rm : Room} {b : Nat} {As : List Value} {post : Int32 → S → Prop} {wsB : S → va_W} (hM : CallFix p m c cc nL s args Ts own) (hl : ls.size = nL) (hG : cC g ws A s H locs) (hC : Ci l y wY rm g (.ref b :: As) ws post wsB) (hw : wY = Cond.code y bytes maxL ret :: ws') {C host : String} (hgood : GoodIn Ts wY) (hnw : Cond.methodLinkNest own index y host ∈ nWs) (hini : Cond.initialized y.cls ∈ Ts) (hins : Cond.instanceMethod y ∈ Ts) (hsel : Cond.selects C y y ∈ Ts) (hd : y.cls ≠ "java/lang/invoke/MethodHandle" ∧ y.cls ≠ "java/lang/invoke/VarHandle" ∧ (parseMethodDescriptor y.desc).map (fun d => d.parameters.length) = some n) (hR : rm.frames + 1 ≤ R.frames ∧ 8 + (maxL + 11) + rm.locals ≤ R.locals) (q0 : Nat) {ci : Nat} {fs : List Value} (he : ws[q0]? = some (b, .inr (ci, fs))) {vq : vw_C} (hc : vwCl[ci]? = some vq) (hq : vq.1 = C) {st0 : List Value} (hst : st0 = As.reverse ++ .ref b :: rest) (hn : As.length = n) (hcat : (rest.map fun v => v.category).sum ≤ 8) (hdg : decode cc pc = .ok (.invokevirtual index, 3)) {c1 s1 : Nat} (hc1 : cells + rm.cells = c1) (hs1 : slots + rm.slots = s1) (hroom : c1 ≤ R.cells ∧ s1 ≤ R.slots)
    (kk : ∀ (r : Int32) (u : S) (H1 : Heap) (locs1 : List Loc), post r u → cC g (wsB u) A s H1 locs1 → W p l e R s m args below meth c H1 locs1 c1 s1 Q (F0 m (pc + 3) ls (.int r :: rest))) : W p l e R s m args below meth c H locs cells slots Q (F0 m pc ls st0) := by
  subst hc1; subst hs1
  have hf := hG.free
  have hS := hG.2.2.2.1
  refine va_calli (va_runVN (As := As) (rest := rest) hM (hC H.size) (⟨va_cnB n hM.2.2.2.2 hgood hw rfl rfl (hG.2.2.2.2.1.1 _ hnw) (hM.2.2.2.2 _ hini) hd hR, hM.2.2.2.2 _ hins, hM.2.2.2.2 _ hsel⟩) ⟨cG.blind, (by have h9 := va_recv hG.2.1 hG.1 hc he; rw [hq] at h9; exact h9), fun U hU hW => ⟨rfl, hG.call U hU hW⟩⟩ rfl hn hl hst (lv_room hcat) hdg hroom) hS (fun q _ h => hf q h) hf (fun r u t H1 locs1 ht hvm hp hB hz1 hk1 hS1 => ?_)
  exact kk r u H1 locs1 hp (hG.back hB ht hvm hS1)
theorem q_calll {S : Type} {y : MethodName} {bytes : ByteArray} {maxL n index : Nat} {ret : Option FieldType} {wY ws' : List Cond} {rm : Room} {b : Nat} {As : List Value} {post : Int64 → S → Prop} {wsB : S → va_W} (hM : CallFix p m c cc nL s args Ts own) (hl : ls.size = nL) (hG : cC g ws A s H locs) (hC : Cl l y wY rm g (.ref b :: As) ws post wsB) (hw : wY = Cond.code y bytes maxL ret :: ws') {C : String} (hgood : GoodIn Ts (wsV own index C y wY)) (hd : y.cls = C ∧ y.cls ≠ "java/lang/invoke/MethodHandle" ∧ y.cls ≠ "java/lang/invoke/VarHandle" ∧ (parseMethodDescriptor y.desc).map (fun d => d.parameters.length) = some n) (hR : rm.frames + 1 ≤ R.frames ∧ 8 + (maxL + 11) + rm.locals ≤ R.locals) (q0 : Nat) {ci : Nat} {fs : List Value} (he : ws[q0]? = some (b, .inr (ci, fs))) {vq : vw_C} (hc : vwCl[ci]? = some vq) (hq : vq.1 = C) {st0 : List Value} (hst : st0 = As.reverse ++ .ref b :: rest) (hn : As.length = n) (hcat : (rest.map fun v => v.category).sum ≤ 8) (hdg : decode cc pc = .ok (.invokevirtual index, 3)) {c1 s1 : Nat} (hc1 : cells + rm.cells = c1) (hs1 : slots + rm.slots = s1) (hroom : c1 ≤ R.cells ∧ s1 ≤ R.slots)
    (kk : ∀ (r : Int64) (u : S) (H1 : Heap) (locs1 : List Loc), post r u → cC g (wsB u) A s H1 locs1 → W p l e R s m args below meth c H1 locs1 c1 s1 Q (F0 m (pc + 3) ls (.long r :: rest))) : W p l e R s m args below meth c H locs cells slots Q (F0 m pc ls st0) := by
  subst hc1; subst hs1
  have hf := hG.free
  have hS := hG.2.2.2.1
  refine va_calll (va_runV (As := As) (rest := rest) hM (hC H.size) (cwV n hM.2.2.2.2 hgood hw rfl rfl hd hR) ⟨cG.blind, (by have h9 := va_recv hG.2.1 hG.1 hc he; rw [hq] at h9; exact h9), fun U hU hW => ⟨rfl, hG.call U hU hW⟩⟩ rfl hn hl hst (lv_room hcat) hdg hroom) hS (fun q _ h => hf q h) hf (fun r u t H1 locs1 ht hvm hp hB hz1 hk1 hS1 => ?_)
  exact kk r u H1 locs1 hp (hG.back hB ht hvm hS1)
theorem q_callSl {S : Type} {y : MethodName} {bytes : ByteArray} {maxL n index : Nat} {ret : Option FieldType} {wY ws' : List Cond} {rm : Room} {As : List Value} {post : Int64 → S → Prop} {wsB : S → va_W} (hM : CallFix p m c cc nL s args Ts own) (hl : ls.size = nL) (hG : cC g ws A s H locs) (hC : Cl l y wY rm g As ws post wsB) (hw : wY = Cond.code y bytes maxL ret :: ws') (hgood : GoodIn Ts (va_wsS own index y wY)) (hd : y.cls ≠ "java/lang/invoke/MethodHandle" ∧ y.cls ≠ "java/lang/invoke/VarHandle" ∧ (parseMethodDescriptor y.desc).map (fun d => d.parameters.length) = some n) (hR : rm.frames + 1 ≤ R.frames ∧ 8 + (maxL + 11) + rm.locals ≤ R.locals) {st0 : List Value} (hst : st0 = As.reverse ++ rest) (hn : As.length = n) (hcat : (rest.map fun v => v.category).sum ≤ 8) (hdg : decode cc pc = .ok (.invokestatic index, 3)) {c1 s1 : Nat} (hc1 : cells + rm.cells = c1) (hs1 : slots + rm.slots = s1) (hroom : c1 ≤ R.cells ∧ s1 ≤ R.slots)
    (kk : ∀ (r : Int64) (u : S) (H1 : Heap) (locs1 : List Loc), post r u → cC g (wsB u) A s H1 locs1 → W p l e R s m args below meth c H1 locs1 c1 s1 Q (F0 m (pc + 3) ls (.long r :: rest))) : W p l e R s m args below meth c H locs cells slots Q (F0 m pc ls st0) := by
  subst hc1; subst hs1
  have hf := hG.free
  have hS := hG.2.2.2.1
  refine va_calll (va_runS (As := As) (rest := rest) hM (hC H.size) (va_cwS n hM.2.2.2.2 hgood hw rfl rfl hd hR) ⟨cG.blind, fun U hU hW => ⟨rfl, hG.call U hU hW⟩⟩ rfl hn hl hst (lv_room hcat) hdg hroom) hS (fun q _ h => hf q h) hf (fun r u t H1 locs1 ht hvm hp hB hz1 hk1 hS1 => ?_)
  exact kk r u H1 locs1 hp (hG.back hB ht hvm hS1)
theorem q_callNl {S : Type} {y : MethodName} {bytes : ByteArray} {maxL n index : Nat} {ret : Option FieldType} {wY ws' : List Cond} {rm : Room} {b : Nat} {As : List Value} {post : Int64 → S → Prop} {wsB : S → va_W} (hM : CallFix p m c cc nL s args Ts own) (hl : ls.size = nL) (hG : cC g ws A s H locs) (hC : Cl l y wY rm g (.ref b :: As) ws post wsB) (hw : wY = Cond.code y bytes maxL ret :: ws') {C host : String} (hgood : GoodIn Ts wY) (hnw : Cond.methodLinkNest own index y host ∈ nWs) (hini : Cond.initialized y.cls ∈ Ts) (hins : Cond.instanceMethod y ∈ Ts) (hsel : Cond.selects C y y ∈ Ts) (hd : y.cls ≠ "java/lang/invoke/MethodHandle" ∧ y.cls ≠ "java/lang/invoke/VarHandle" ∧ (parseMethodDescriptor y.desc).map (fun d => d.parameters.length) = some n) (hR : rm.frames + 1 ≤ R.frames ∧ 8 + (maxL + 11) + rm.locals ≤ R.locals) (q0 : Nat) {ci : Nat} {fs : List Value} (he : ws[q0]? = some (b, .inr (ci, fs))) {vq : vw_C} (hc : vwCl[ci]? = some vq) (hq : vq.1 = C) {st0 : List Value} (hst : st0 = As.reverse ++ .ref b :: rest) (hn : As.length = n) (hcat : (rest.map fun v => v.category).sum ≤ 8) (hdg : decode cc pc = .ok (.invokevirtual index, 3)) {c1 s1 : Nat} (hc1 : cells + rm.cells = c1) (hs1 : slots + rm.slots = s1) (hroom : c1 ≤ R.cells ∧ s1 ≤ R.slots)
    (kk : ∀ (r : Int64) (u : S) (H1 : Heap) (locs1 : List Loc), post r u → cC g (wsB u) A s H1 locs1 → W p l e R s m args below meth c H1 locs1 c1 s1 Q (F0 m (pc + 3) ls (.long r :: rest))) : W p l e R s m args below meth c H locs cells slots Q (F0 m pc ls st0) := by
  subst hc1; subst hs1
  have hf := hG.free
  have hS := hG.2.2.2.1
  refine va_calll (va_runVN (As := As) (rest := rest) hM (hC H.size) (⟨va_cnB n hM.2.2.2.2 hgood hw rfl rfl (hG.2.2.2.2.1.1 _ hnw) (hM.2.2.2.2 _ hini) hd hR, hM.2.2.2.2 _ hins, hM.2.2.2.2 _ hsel⟩) ⟨cG.blind, (by have h9 := va_recv hG.2.1 hG.1 hc he; rw [hq] at h9; exact h9), fun U hU hW => ⟨rfl, hG.call U hU hW⟩⟩ rfl hn hl hst (lv_room hcat) hdg hroom) hS (fun q _ h => hf q h) hf (fun r u t H1 locs1 ht hvm hp hB hz1 hk1 hS1 => ?_)
  exact kk r u H1 locs1 hp (hG.back hB ht hvm hS1)
theorem q_callv {S : Type} {y : MethodName} {bytes : ByteArray} {maxL n index : Nat} {ret : Option FieldType} {wY ws' : List Cond} {rm : Room} {b : Nat} {As : List Value} {post : S → Prop} {wsB : S → va_W} (hM : CallFix p m c cc nL s args Ts own) (hl : ls.size = nL) (hG : cC g ws A s H locs) (hC : Cv l y wY rm g (.ref b :: As) ws post wsB) (hw : wY = Cond.code y bytes maxL ret :: ws') {C : String} (hgood : GoodIn Ts (wsV own index C y wY)) (hd : y.cls = C ∧ y.cls ≠ "java/lang/invoke/MethodHandle" ∧ y.cls ≠ "java/lang/invoke/VarHandle" ∧ (parseMethodDescriptor y.desc).map (fun d => d.parameters.length) = some n) (hR : rm.frames + 1 ≤ R.frames ∧ 8 + (maxL + 11) + rm.locals ≤ R.locals) (q0 : Nat) {ci : Nat} {fs : List Value} (he : ws[q0]? = some (b, .inr (ci, fs))) {vq : vw_C} (hc : vwCl[ci]? = some vq) (hq : vq.1 = C) {st0 : List Value} (hst : st0 = As.reverse ++ .ref b :: rest) (hn : As.length = n) (hcat : (rest.map fun v => v.category).sum ≤ 8) (hdg : decode cc pc = .ok (.invokevirtual index, 3)) {c1 s1 : Nat} (hc1 : cells + rm.cells = c1) (hs1 : slots + rm.slots = s1) (hroom : c1 ≤ R.cells ∧ s1 ≤ R.slots)
    (kk : ∀ (u : S) (H1 : Heap) (locs1 : List Loc), post u → cC g (wsB u) A s H1 locs1 → W p l e R s m args below meth c H1 locs1 c1 s1 Q (F0 m (pc + 3) ls rest)) : W p l e R s m args below meth c H locs cells slots Q (F0 m pc ls st0) := by
  subst hc1; subst hs1
  have hf := hG.free
  have hS := hG.2.2.2.1
  refine va_callv (va_runV (As := As) (rest := rest) hM (hC H.size) (cwV n hM.2.2.2.2 hgood hw rfl rfl hd hR) ⟨cG.blind, (by have h9 := va_recv hG.2.1 hG.1 hc he; rw [hq] at h9; exact h9), fun U hU hW => ⟨rfl, hG.call U hU hW⟩⟩ rfl hn hl hst (lv_room hcat) hdg hroom) hS (fun q _ h => hf q h) hf (fun u t H1 locs1 ht hvm hp hB hz1 hk1 hS1 => ?_)
  exact kk u H1 locs1 hp (hG.back hB ht hvm hS1)
theorem q_callSv {S : Type} {y : MethodName} {bytes : ByteArray} {maxL n index : Nat} {ret : Option FieldType} {wY ws' : List Cond} {rm : Room} {As : List Value} {post : S → Prop} {wsB : S → va_W} (hM : CallFix p m c cc nL s args Ts own) (hl : ls.size = nL) (hG : cC g ws A s H locs) (hC : Cv l y wY rm g As ws post wsB) (hw : wY = Cond.code y bytes maxL ret :: ws') (hgood : GoodIn Ts (va_wsS own index y wY)) (hd : y.cls ≠ "java/lang/invoke/MethodHandle" ∧ y.cls ≠ "java/lang/invoke/VarHandle" ∧ (parseMethodDescriptor y.desc).map (fun d => d.parameters.length) = some n) (hR : rm.frames + 1 ≤ R.frames ∧ 8 + (maxL + 11) + rm.locals ≤ R.locals) {st0 : List Value} (hst : st0 = As.reverse ++ rest) (hn : As.length = n) (hcat : (rest.map fun v => v.category).sum ≤ 8) (hdg : decode cc pc = .ok (.invokestatic index, 3)) {c1 s1 : Nat} (hc1 : cells + rm.cells = c1) (hs1 : slots + rm.slots = s1) (hroom : c1 ≤ R.cells ∧ s1 ≤ R.slots)
    (kk : ∀ (u : S) (H1 : Heap) (locs1 : List Loc), post u → cC g (wsB u) A s H1 locs1 → W p l e R s m args below meth c H1 locs1 c1 s1 Q (F0 m (pc + 3) ls rest)) : W p l e R s m args below meth c H locs cells slots Q (F0 m pc ls st0) := by
  subst hc1; subst hs1
  have hf := hG.free
  have hS := hG.2.2.2.1
  refine va_callv (va_runS (As := As) (rest := rest) hM (hC H.size) (va_cwS n hM.2.2.2.2 hgood hw rfl rfl hd hR) ⟨cG.blind, fun U hU hW => ⟨rfl, hG.call U hU hW⟩⟩ rfl hn hl hst (lv_room hcat) hdg hroom) hS (fun q _ h => hf q h) hf (fun u t H1 locs1 ht hvm hp hB hz1 hk1 hS1 => ?_)
  exact kk u H1 locs1 hp (hG.back hB ht hvm hS1)
theorem q_callNv {S : Type} {y : MethodName} {bytes : ByteArray} {maxL n index : Nat} {ret : Option FieldType} {wY ws' : List Cond} {rm : Room} {b : Nat} {As : List Value} {post : S → Prop} {wsB : S → va_W} (hM : CallFix p m c cc nL s args Ts own) (hl : ls.size = nL) (hG : cC g ws A s H locs) (hC : Cv l y wY rm g (.ref b :: As) ws post wsB) (hw : wY = Cond.code y bytes maxL ret :: ws') {C host : String} (hgood : GoodIn Ts wY) (hnw : Cond.methodLinkNest own index y host ∈ nWs) (hini : Cond.initialized y.cls ∈ Ts) (hins : Cond.instanceMethod y ∈ Ts) (hsel : Cond.selects C y y ∈ Ts) (hd : y.cls ≠ "java/lang/invoke/MethodHandle" ∧ y.cls ≠ "java/lang/invoke/VarHandle" ∧ (parseMethodDescriptor y.desc).map (fun d => d.parameters.length) = some n) (hR : rm.frames + 1 ≤ R.frames ∧ 8 + (maxL + 11) + rm.locals ≤ R.locals) (q0 : Nat) {ci : Nat} {fs : List Value} (he : ws[q0]? = some (b, .inr (ci, fs))) {vq : vw_C} (hc : vwCl[ci]? = some vq) (hq : vq.1 = C) {st0 : List Value} (hst : st0 = As.reverse ++ .ref b :: rest) (hn : As.length = n) (hcat : (rest.map fun v => v.category).sum ≤ 8) (hdg : decode cc pc = .ok (.invokevirtual index, 3)) {c1 s1 : Nat} (hc1 : cells + rm.cells = c1) (hs1 : slots + rm.slots = s1) (hroom : c1 ≤ R.cells ∧ s1 ≤ R.slots)
    (kk : ∀ (u : S) (H1 : Heap) (locs1 : List Loc), post u → cC g (wsB u) A s H1 locs1 → W p l e R s m args below meth c H1 locs1 c1 s1 Q (F0 m (pc + 3) ls rest)) : W p l e R s m args below meth c H locs cells slots Q (F0 m pc ls st0) := by
  subst hc1; subst hs1
  have hf := hG.free
  have hS := hG.2.2.2.1
  refine va_callv (va_runVN (As := As) (rest := rest) hM (hC H.size) (⟨va_cnB n hM.2.2.2.2 hgood hw rfl rfl (hG.2.2.2.2.1.1 _ hnw) (hM.2.2.2.2 _ hini) hd hR, hM.2.2.2.2 _ hins, hM.2.2.2.2 _ hsel⟩) ⟨cG.blind, (by have h9 := va_recv hG.2.1 hG.1 hc he; rw [hq] at h9; exact h9), fun U hU hW => ⟨rfl, hG.call U hU hW⟩⟩ rfl hn hl hst (lv_room hcat) hdg hroom) hS (fun q _ h => hf q h) hf (fun u t H1 locs1 ht hvm hp hB hz1 hk1 hS1 => ?_)
  exact kk u H1 locs1 hp (hG.back hB ht hvm hS1)
theorem q_xcalli {S : Type} {y : MethodName} {bytes : ByteArray} {maxL n index : Nat} {ret : Option FieldType} {wY ws' : List Cond} {rm : Room} {b : Nat} {As : List Value} {tE : String → Prop} {post : Int32 → S → Prop} {wsB : S → va_W} (hM : CallFix p m c cc nL s args Ts own) (hl : ls.size = nL) (hG : cC g ws A s H locs) (hC : Xi l y wY rm g (.ref b :: As) ws tE post wsB) (hw : wY = Cond.code y bytes maxL ret :: ws') {C : String} (hgood : GoodIn Ts (wsV own index C y wY)) (hd : y.cls = C ∧ y.cls ≠ "java/lang/invoke/MethodHandle" ∧ y.cls ≠ "java/lang/invoke/VarHandle" ∧ (parseMethodDescriptor y.desc).map (fun d => d.parameters.length) = some n) (hR : rm.frames + 1 ≤ R.frames ∧ 8 + (maxL + 11) + rm.locals ≤ R.locals) (q0 : Nat) {ci : Nat} {fs : List Value} (he : ws[q0]? = some (b, .inr (ci, fs))) {vq : vw_C} (hc : vwCl[ci]? = some vq) (hq : vq.1 = C) {st0 : List Value} (hst : st0 = As.reverse ++ .ref b :: rest) (hn : As.length = n) (hcat : (rest.map fun v => v.category).sum ≤ 8) (hdg : decode cc pc = .ok (.invokevirtual index, 3)) {c1 s1 : Nat} (hc1 : cells + rm.cells = c1) (hs1 : slots + rm.slots = s1) (hroom : c1 ≤ R.cells ∧ s1 ≤ R.slots)
    (kx : ∀ (E : String) (ce : Cell) (q9 : Addr) (H1 : Heap) (locs1 : List Loc), tE E → cC g ws A s H1 locs1 → H1[q9]? = some ce → ce.vm = .none → s.vm.findClass E = some ce.cls → vx_W p l e R s m args below meth c H1 locs1 c1 s1 Q (F0 m pc ls rest) q9)
    (kk : ∀ (r : Int32) (u : S) (H1 : Heap) (locs1 : List Loc), post r u → cC g (wsB u) A s H1 locs1 → W p l e R s m args below meth c H1 locs1 c1 s1 Q (F0 m (pc + 3) ls (.int r :: rest))) : W p l e R s m args below meth c H locs cells slots Q (F0 m pc ls st0) := by
  subst hc1; subst hs1
  have hf := hG.free
  have hS := hG.2.2.2.1
  refine vx_calli (vx_runV (As := As) (rest := rest) hM (hC H.size) (cwV n hM.2.2.2.2 hgood hw rfl rfl hd hR) ⟨cG.blind, (by have h9 := va_recv hG.2.1 hG.1 hc he; rw [hq] at h9; exact h9), fun U hU hW => ⟨rfl, hG.call U hU hW⟩⟩ rfl hn hl hst (lv_room hcat) hdg hroom) hS (fun q _ h => hf q h) hf (fun q _ h => hf q h) (fun E ce q9 u t H1 locs1 ht hvm hp hB hz1 hk1 hS1 h1 h2 h3 => ?_) (fun r u t H1 locs1 ht hvm hp hB hz1 hk1 hS1 => ?_)
  · exact kx E ce q9 H1 locs1 hB.1 (hG.back hB.2 ht hvm hS1) h1 h2 h3
  · exact kk r u H1 locs1 hp (hG.back hB ht hvm hS1)
theorem q_xcallSi {S : Type} {y : MethodName} {bytes : ByteArray} {maxL n index : Nat} {ret : Option FieldType} {wY ws' : List Cond} {rm : Room} {As : List Value} {tE : String → Prop} {post : Int32 → S → Prop} {wsB : S → va_W} (hM : CallFix p m c cc nL s args Ts own) (hl : ls.size = nL) (hG : cC g ws A s H locs) (hC : Xi l y wY rm g As ws tE post wsB) (hw : wY = Cond.code y bytes maxL ret :: ws') (hgood : GoodIn Ts (va_wsS own index y wY)) (hd : y.cls ≠ "java/lang/invoke/MethodHandle" ∧ y.cls ≠ "java/lang/invoke/VarHandle" ∧ (parseMethodDescriptor y.desc).map (fun d => d.parameters.length) = some n) (hR : rm.frames + 1 ≤ R.frames ∧ 8 + (maxL + 11) + rm.locals ≤ R.locals) {st0 : List Value} (hst : st0 = As.reverse ++ rest) (hn : As.length = n) (hcat : (rest.map fun v => v.category).sum ≤ 8) (hdg : decode cc pc = .ok (.invokestatic index, 3)) {c1 s1 : Nat} (hc1 : cells + rm.cells = c1) (hs1 : slots + rm.slots = s1) (hroom : c1 ≤ R.cells ∧ s1 ≤ R.slots)
    (kx : ∀ (E : String) (ce : Cell) (q9 : Addr) (H1 : Heap) (locs1 : List Loc), tE E → cC g ws A s H1 locs1 → H1[q9]? = some ce → ce.vm = .none → s.vm.findClass E = some ce.cls → vx_W p l e R s m args below meth c H1 locs1 c1 s1 Q (F0 m pc ls rest) q9)
    (kk : ∀ (r : Int32) (u : S) (H1 : Heap) (locs1 : List Loc), post r u → cC g (wsB u) A s H1 locs1 → W p l e R s m args below meth c H1 locs1 c1 s1 Q (F0 m (pc + 3) ls (.int r :: rest))) : W p l e R s m args below meth c H locs cells slots Q (F0 m pc ls st0) := by
  subst hc1; subst hs1
  have hf := hG.free
  have hS := hG.2.2.2.1
  refine vx_calli (vx_runS (As := As) (rest := rest) hM (hC H.size) (va_cwS n hM.2.2.2.2 hgood hw rfl rfl hd hR) ⟨cG.blind, fun U hU hW => ⟨rfl, hG.call U hU hW⟩⟩ rfl hn hl hst (lv_room hcat) hdg hroom) hS (fun q _ h => hf q h) hf (fun q _ h => hf q h) (fun E ce q9 u t H1 locs1 ht hvm hp hB hz1 hk1 hS1 h1 h2 h3 => ?_) (fun r u t H1 locs1 ht hvm hp hB hz1 hk1 hS1 => ?_)
  · exact kx E ce q9 H1 locs1 hB.1 (hG.back hB.2 ht hvm hS1) h1 h2 h3
  · exact kk r u H1 locs1 hp (hG.back hB ht hvm hS1)
theorem q_xcalll {S : Type} {y : MethodName} {bytes : ByteArray} {maxL n index : Nat} {ret : Option FieldType} {wY ws' : List Cond} {rm : Room} {b : Nat} {As : List Value} {tE : String → Prop} {post : Int64 → S → Prop} {wsB : S → va_W} (hM : CallFix p m c cc nL s args Ts own) (hl : ls.size = nL) (hG : cC g ws A s H locs) (hC : Xl l y wY rm g (.ref b :: As) ws tE post wsB) (hw : wY = Cond.code y bytes maxL ret :: ws') {C : String} (hgood : GoodIn Ts (wsV own index C y wY)) (hd : y.cls = C ∧ y.cls ≠ "java/lang/invoke/MethodHandle" ∧ y.cls ≠ "java/lang/invoke/VarHandle" ∧ (parseMethodDescriptor y.desc).map (fun d => d.parameters.length) = some n) (hR : rm.frames + 1 ≤ R.frames ∧ 8 + (maxL + 11) + rm.locals ≤ R.locals) (q0 : Nat) {ci : Nat} {fs : List Value} (he : ws[q0]? = some (b, .inr (ci, fs))) {vq : vw_C} (hc : vwCl[ci]? = some vq) (hq : vq.1 = C) {st0 : List Value} (hst : st0 = As.reverse ++ .ref b :: rest) (hn : As.length = n) (hcat : (rest.map fun v => v.category).sum ≤ 8) (hdg : decode cc pc = .ok (.invokevirtual index, 3)) {c1 s1 : Nat} (hc1 : cells + rm.cells = c1) (hs1 : slots + rm.slots = s1) (hroom : c1 ≤ R.cells ∧ s1 ≤ R.slots)
    (kx : ∀ (E : String) (ce : Cell) (q9 : Addr) (H1 : Heap) (locs1 : List Loc), tE E → cC g ws A s H1 locs1 → H1[q9]? = some ce → ce.vm = .none → s.vm.findClass E = some ce.cls → vx_W p l e R s m args below meth c H1 locs1 c1 s1 Q (F0 m pc ls rest) q9)
    (kk : ∀ (r : Int64) (u : S) (H1 : Heap) (locs1 : List Loc), post r u → cC g (wsB u) A s H1 locs1 → W p l e R s m args below meth c H1 locs1 c1 s1 Q (F0 m (pc + 3) ls (.long r :: rest))) : W p l e R s m args below meth c H locs cells slots Q (F0 m pc ls st0) := by
  subst hc1; subst hs1
  have hf := hG.free
  have hS := hG.2.2.2.1
  refine vx_calll (vx_runV (As := As) (rest := rest) hM (hC H.size) (cwV n hM.2.2.2.2 hgood hw rfl rfl hd hR) ⟨cG.blind, (by have h9 := va_recv hG.2.1 hG.1 hc he; rw [hq] at h9; exact h9), fun U hU hW => ⟨rfl, hG.call U hU hW⟩⟩ rfl hn hl hst (lv_room hcat) hdg hroom) hS (fun q _ h => hf q h) hf (fun q _ h => hf q h) (fun E ce q9 u t H1 locs1 ht hvm hp hB hz1 hk1 hS1 h1 h2 h3 => ?_) (fun r u t H1 locs1 ht hvm hp hB hz1 hk1 hS1 => ?_)
  · exact kx E ce q9 H1 locs1 hB.1 (hG.back hB.2 ht hvm hS1) h1 h2 h3
  · exact kk r u H1 locs1 hp (hG.back hB ht hvm hS1)
theorem q_xcallSl {S : Type} {y : MethodName} {bytes : ByteArray} {maxL n index : Nat} {ret : Option FieldType} {wY ws' : List Cond} {rm : Room} {As : List Value} {tE : String → Prop} {post : Int64 → S → Prop} {wsB : S → va_W} (hM : CallFix p m c cc nL s args Ts own) (hl : ls.size = nL) (hG : cC g ws A s H locs) (hC : Xl l y wY rm g As ws tE post wsB) (hw : wY = Cond.code y bytes maxL ret :: ws') (hgood : GoodIn Ts (va_wsS own index y wY)) (hd : y.cls ≠ "java/lang/invoke/MethodHandle" ∧ y.cls ≠ "java/lang/invoke/VarHandle" ∧ (parseMethodDescriptor y.desc).map (fun d => d.parameters.length) = some n) (hR : rm.frames + 1 ≤ R.frames ∧ 8 + (maxL + 11) + rm.locals ≤ R.locals) {st0 : List Value} (hst : st0 = As.reverse ++ rest) (hn : As.length = n) (hcat : (rest.map fun v => v.category).sum ≤ 8) (hdg : decode cc pc = .ok (.invokestatic index, 3)) {c1 s1 : Nat} (hc1 : cells + rm.cells = c1) (hs1 : slots + rm.slots = s1) (hroom : c1 ≤ R.cells ∧ s1 ≤ R.slots)
    (kx : ∀ (E : String) (ce : Cell) (q9 : Addr) (H1 : Heap) (locs1 : List Loc), tE E → cC g ws A s H1 locs1 → H1[q9]? = some ce → ce.vm = .none → s.vm.findClass E = some ce.cls → vx_W p l e R s m args below meth c H1 locs1 c1 s1 Q (F0 m pc ls rest) q9)
    (kk : ∀ (r : Int64) (u : S) (H1 : Heap) (locs1 : List Loc), post r u → cC g (wsB u) A s H1 locs1 → W p l e R s m args below meth c H1 locs1 c1 s1 Q (F0 m (pc + 3) ls (.long r :: rest))) : W p l e R s m args below meth c H locs cells slots Q (F0 m pc ls st0) := by
  subst hc1; subst hs1
  have hf := hG.free
  have hS := hG.2.2.2.1
  refine vx_calll (vx_runS (As := As) (rest := rest) hM (hC H.size) (va_cwS n hM.2.2.2.2 hgood hw rfl rfl hd hR) ⟨cG.blind, fun U hU hW => ⟨rfl, hG.call U hU hW⟩⟩ rfl hn hl hst (lv_room hcat) hdg hroom) hS (fun q _ h => hf q h) hf (fun q _ h => hf q h) (fun E ce q9 u t H1 locs1 ht hvm hp hB hz1 hk1 hS1 h1 h2 h3 => ?_) (fun r u t H1 locs1 ht hvm hp hB hz1 hk1 hS1 => ?_)
  · exact kx E ce q9 H1 locs1 hB.1 (hG.back hB.2 ht hvm hS1) h1 h2 h3
  · exact kk r u H1 locs1 hp (hG.back hB ht hvm hS1)
theorem q_xcallv {S : Type} {y : MethodName} {bytes : ByteArray} {maxL n index : Nat} {ret : Option FieldType} {wY ws' : List Cond} {rm : Room} {b : Nat} {As : List Value} {tE : String → Prop} {post : S → Prop} {wsB : S → va_W} (hM : CallFix p m c cc nL s args Ts own) (hl : ls.size = nL) (hG : cC g ws A s H locs) (hC : Xv l y wY rm g (.ref b :: As) ws tE post wsB) (hw : wY = Cond.code y bytes maxL ret :: ws') {C : String} (hgood : GoodIn Ts (wsV own index C y wY)) (hd : y.cls = C ∧ y.cls ≠ "java/lang/invoke/MethodHandle" ∧ y.cls ≠ "java/lang/invoke/VarHandle" ∧ (parseMethodDescriptor y.desc).map (fun d => d.parameters.length) = some n) (hR : rm.frames + 1 ≤ R.frames ∧ 8 + (maxL + 11) + rm.locals ≤ R.locals) (q0 : Nat) {ci : Nat} {fs : List Value} (he : ws[q0]? = some (b, .inr (ci, fs))) {vq : vw_C} (hc : vwCl[ci]? = some vq) (hq : vq.1 = C) {st0 : List Value} (hst : st0 = As.reverse ++ .ref b :: rest) (hn : As.length = n) (hcat : (rest.map fun v => v.category).sum ≤ 8) (hdg : decode cc pc = .ok (.invokevirtual index, 3)) {c1 s1 : Nat} (hc1 : cells + rm.cells = c1) (hs1 : slots + rm.slots = s1) (hroom : c1 ≤ R.cells ∧ s1 ≤ R.slots)
    (kx : ∀ (E : String) (ce : Cell) (q9 : Addr) (H1 : Heap) (locs1 : List Loc), tE E → cC g ws A s H1 locs1 → H1[q9]? = some ce → ce.vm = .none → s.vm.findClass E = some ce.cls → vx_W p l e R s m args below meth c H1 locs1 c1 s1 Q (F0 m pc ls rest) q9)
    (kk : ∀ (u : S) (H1 : Heap) (locs1 : List Loc), post u → cC g (wsB u) A s H1 locs1 → W p l e R s m args below meth c H1 locs1 c1 s1 Q (F0 m (pc + 3) ls rest)) : W p l e R s m args below meth c H locs cells slots Q (F0 m pc ls st0) := by
  subst hc1; subst hs1
  have hf := hG.free
  have hS := hG.2.2.2.1
  refine vx_callv (vx_runV (As := As) (rest := rest) hM (hC H.size) (cwV n hM.2.2.2.2 hgood hw rfl rfl hd hR) ⟨cG.blind, (by have h9 := va_recv hG.2.1 hG.1 hc he; rw [hq] at h9; exact h9), fun U hU hW => ⟨rfl, hG.call U hU hW⟩⟩ rfl hn hl hst (lv_room hcat) hdg hroom) hS (fun q _ h => hf q h) hf (fun q _ h => hf q h) (fun E ce q9 u t H1 locs1 ht hvm hp hB hz1 hk1 hS1 h1 h2 h3 => ?_) (fun u t H1 locs1 ht hvm hp hB hz1 hk1 hS1 => ?_)
  · exact kx E ce q9 H1 locs1 hB.1 (hG.back hB.2 ht hvm hS1) h1 h2 h3
  · exact kk u H1 locs1 hp (hG.back hB ht hvm hS1)
theorem q_xcallSv {S : Type} {y : MethodName} {bytes : ByteArray} {maxL n index : Nat} {ret : Option FieldType} {wY ws' : List Cond} {rm : Room} {As : List Value} {tE : String → Prop} {post : S → Prop} {wsB : S → va_W} (hM : CallFix p m c cc nL s args Ts own) (hl : ls.size = nL) (hG : cC g ws A s H locs) (hC : Xv l y wY rm g As ws tE post wsB) (hw : wY = Cond.code y bytes maxL ret :: ws') (hgood : GoodIn Ts (va_wsS own index y wY)) (hd : y.cls ≠ "java/lang/invoke/MethodHandle" ∧ y.cls ≠ "java/lang/invoke/VarHandle" ∧ (parseMethodDescriptor y.desc).map (fun d => d.parameters.length) = some n) (hR : rm.frames + 1 ≤ R.frames ∧ 8 + (maxL + 11) + rm.locals ≤ R.locals) {st0 : List Value} (hst : st0 = As.reverse ++ rest) (hn : As.length = n) (hcat : (rest.map fun v => v.category).sum ≤ 8) (hdg : decode cc pc = .ok (.invokestatic index, 3)) {c1 s1 : Nat} (hc1 : cells + rm.cells = c1) (hs1 : slots + rm.slots = s1) (hroom : c1 ≤ R.cells ∧ s1 ≤ R.slots)
    (kx : ∀ (E : String) (ce : Cell) (q9 : Addr) (H1 : Heap) (locs1 : List Loc), tE E → cC g ws A s H1 locs1 → H1[q9]? = some ce → ce.vm = .none → s.vm.findClass E = some ce.cls → vx_W p l e R s m args below meth c H1 locs1 c1 s1 Q (F0 m pc ls rest) q9)
    (kk : ∀ (u : S) (H1 : Heap) (locs1 : List Loc), post u → cC g (wsB u) A s H1 locs1 → W p l e R s m args below meth c H1 locs1 c1 s1 Q (F0 m (pc + 3) ls rest)) : W p l e R s m args below meth c H locs cells slots Q (F0 m pc ls st0) := by
  subst hc1; subst hs1
  have hf := hG.free
  have hS := hG.2.2.2.1
  refine vx_callv (vx_runS (As := As) (rest := rest) hM (hC H.size) (va_cwS n hM.2.2.2.2 hgood hw rfl rfl hd hR) ⟨cG.blind, fun U hU hW => ⟨rfl, hG.call U hU hW⟩⟩ rfl hn hl hst (lv_room hcat) hdg hroom) hS (fun q _ h => hf q h) hf (fun q _ h => hf q h) (fun E ce q9 u t H1 locs1 ht hvm hp hB hz1 hk1 hS1 h1 h2 h3 => ?_) (fun u t H1 locs1 ht hvm hp hB hz1 hk1 hS1 => ?_)
  · exact kx E ce q9 H1 locs1 hB.1 (hG.back hB.2 ht hvm hS1) h1 h2 h3
  · exact kk u H1 locs1 hp (hG.back hB ht hvm hS1)
end QR
