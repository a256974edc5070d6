/-! ===== BEGIN words of one list among another's, by their places ===== -/
theorem goodIn_r {big : List Cond} (ws : List Cond) (ps : List Nat) (hp : ws = ps.filterMap (fun i => big[i]?)) (h : ws.all goodWord = true) : GoodIn big ws := by
  intro w hw
  have h1 := List.all_eq_true.mp h w hw
  rw [hp] at hw
  obtain ⟨i, -, hi⟩ := List.mem_filterMap.mp hw
  have hm : w ∈ big := by first | exact List.mem_of_getElem? hi | exact List.getElem?_mem hi
  exact ⟨hm, good_of_word h1⟩
theorem goodIn_app {big a b : List Cond} (ha : GoodIn big a) (hb : GoodIn big b) : GoodIn big (a ++ b) := fun w h => (List.mem_append.mp h).elim (ha w) (hb w)
theorem goodIn_ca {big a b : List Cond} {c : Cond} (ha : GoodIn big (c :: a)) (hb : GoodIn big b) : GoodIn big (c :: (a ++ b)) := fun w h => (List.mem_cons.mp h).elim (fun e => ha w (List.mem_cons.mpr (Or.inl e))) (fun h => (List.mem_append.mp h).elim (fun h => ha w (List.mem_cons.mpr (Or.inr h))) (hb w))
theorem goodIn_sub {big ws : List Cond} (hm : ∀ w ∈ ws, w ∈ big) (h : ws.all goodWord = true) : GoodIn big ws := fun w hw => ⟨hm w hw, good_of_word (List.all_eq_true.mp h w hw)⟩
/-! ===== END ===== -/

/-! ===== BEGIN exceptions that leave a method, and their catching by the caller (launches without stack traces) ===== -/
section VXA
/-! The laws vx_back, vx_callV, vx_callS, vx_callSW, vx_throw0, vx_throwS follow proofs of the library, with one case more: JvmDerived/Free/Laws.lean (Back.of_free), Shelf42/LK1.lean (callV, callS), Shelf/KitTraced.lean (throwNew0V, throwNewS). -/
/-- where a method has thrown q: the class by its name, the cell, what was written, the world -/
def vx_T (XC : String → State → State → Prop) (st : State) (q : Addr) (t : State) (mc ms : Nat) (free : Addr → Prop) : Prop :=
  ∃ (E : String) (ce : Cell) (L : List Loc), XC E st t ∧ t.heap[q]? = some ce ∧ ce.vm = .none ∧ st.vm.findClass E = some ce.cls ∧ st.WarmedH t.vm ∧ st.sameButNew ({ t with vm := st.vm } : State) L mc ms ∧ ∀ z ∈ L, free z.base
def vx_Q (Qc : Array Value → State → Outcome → State → Prop) (XC : String → State → State → Prop) (mc ms : Nat) (free : Addr → Prop) : Array Value → State → Outcome → State → Prop := fun a st o t =>
  (Qc a st o t ∧ ∃ L, FrameEnd st o t L mc ms ∧ ∀ q ∈ L, free q.base) ∨ ∃ q, o = .threw q ∧ vx_T XC st q t mc ms free
/-- a callee that returns or throws -/
def vx_Met (l : Launch) (y : MethodName) (ws : List Cond) (rm : Room) (Pc : Array Value → State → Prop) (Qc : Array Value → State → Outcome → State → Prop) (XC : String → State → State → Prop) (mc ms : Nat) (free : Addr → Prop) : Prop :=
  MetFree l y (headSpec ws rm) Pc (fun _ _ _ _ _ => True) (vx_Q Qc XC mc ms free)
def vx_Post (XC : String → State → State → Prop) (mc ms : Nat) (free : Addr → Prop) : Pt → Array Value → Addr → Pt → Prop := fun A a q B =>
  ∃ (g : JFrame) (mk : MethodId) (t : State) (L : List Loc) (E : String) (ce : Cell), B.U.heap = t.heap ∧ B.U.vm = t.vm ∧ XC E (A.U.calling g mk a) t ∧ t.heap[q]? = some ce ∧ ce.vm = .none ∧ A.U.vm.findClass E = some ce.cls ∧ B.locs = A.locs ++ L ∧ (∀ z ∈ L, free z.base) ∧ B.cells = A.cells + mc ∧ B.slots = A.slots + ms
def vx_Back (l : Launch) (R : Room) (p : Program) (e : Env) (below : List Frame) (s : State) (sargs : Array Value) (y : MethodName) (len W9 : Nat)
    (Pre : Pt → Array Value → Prop) (Post : Pt → Array Value → Option Value → Pt → Prop) (PostX : Pt → Array Value → Addr → Pt → Prop) : Prop :=
  ∀ (m : MethodId) (meth : Method) (c : Code) (A : Pt) (g : JFrame) (ig : Instr) (mk : MethodId) (a : Array Value),
    Stand p l e R s m sargs below meth c A.U A.locs A.cells A.slots → g.method = m → g.locals.size = c.maxLocals → decode c.code g.pc = .ok (ig, len) →
    2 * g.monitorRoom + (g.stack.map fun v => v.category).sum ≤ W9 → A.U.methodNamed? y = some mk → Pre A a →
    (∃ (v : Option Value) (B : Pt), Stand p l e R s m sargs below meth c B.U B.locs B.cells B.slots ∧ Post A a v B ∧
      Steps p.tables e below (doInvoke e (A.U.setTop g) [] mk a).1 (B.U.setTop { g with pc := g.pc + len, stack := v.toList ++ g.stack })) ∨
    (∃ (q : Addr) (B : Pt), Stand p l e R s m sargs below meth c B.U B.locs B.cells B.slots ∧ PostX A a q B ∧
      Steps p.tables e below (doInvoke e (A.U.setTop g) [] mk a).1 ((B.U.setTop g).pushFrame (.throwing q)))
section Payer
variable {l : Launch} {R : Room} {p : Program} {e : Env} {below : List Frame} {s : State} {sargs : Array Value} {y : MethodName} {len W9 : Nat}
theorem vx_back {ws : List Cond} {rm : Room} {Pc : Array Value → State → Prop} {Qc : Array Value → State → Outcome → State → Prop} {XC : String → State → State → Prop} {mc ms : Nat} {free : Addr → Prop} {bytes : ByteArray} {maxL : Nat} {ret : Option FieldType}
    (hM : vx_Met l y ws rm Pc Qc XC mc ms free) (hblind : FrameBlind Pc) (hrc : rm.cells = mc) (hrs : rm.slots = ms)
    (hframes : rm.frames + 1 ≤ R.frames) (hlocals : W9 + (maxL + 11) + rm.locals ≤ R.locals)
    (hws : ∀ w ∈ ws, ∀ a' U, s.WarmedH U.vm → w.before a' U = true) (hcode : Cond.code y bytes maxL ret ∈ ws) (hinit : ∀ a' U, s.WarmedH U.vm → (Cond.initialized y.cls).before a' U = true) :
    vx_Back l R p e below s sargs y len W9 (PreOf R mc ms Pc) (PostOf Qc mc ms free) (vx_Post XC mc ms free) := by
  intro m meth c A g ig mk a X hg hsize hdg hW hn hp
  have h1 : (headSpec ws rm).pre.before a A.U = true := atoms_intro fun w hw => hws w hw _ _ X.warmed
  have h2 : (Cond.code y bytes maxL ret).before a A.U = true := hws _ hcode _ _ X.warmed
  have h3 : (Cond.initialized y.cls).before a A.U = true := hinit _ _ X.warmed
  have h4 : A.cells + (headSpec ws rm).room.cells ≤ R.cells := by rw [show (headSpec ws rm).room.cells = mc from hrc]; exact hp.1
  have h5 : A.slots + (headSpec ws rm).room.slots ≤ R.slots := by rw [show (headSpec ws rm).room.slots = ms from hrs]; exact hp.2.1
  have hPc : Pc a (A.U.calling g mk a) := hblind _ _ _ _ hp.2.2
  obtain ⟨U, Ls, c0, s0⟩ := A
  dsimp only [Pt.U, Pt.locs, Pt.cells, Pt.slots] at h1 h2 h3 h4 h5 X hn hPc ⊢
  obtain ⟨methY, cY, hmY, hcY, -, hlY, -, -, -, -⟩ := Cond.code_spec hn h2
  obtain ⟨kY, hkY, -⟩ := className_of_methodNamed hn
  have hinitY : kY.init = .initialized := Cond.initialized_spec (findClass_of_methodNamed hn) hkY h3
  have h : At U g.method c below := by rw [hg]; exact X.here
  have hlocals9 : W9 + (maxL + 11) + (headSpec ws rm).room.locals ≤ R.locals := hlocals
  have happ : (headSpec ws rm).appliesLoose y e.platform (U.calling g mk a) = true :=
    Spec.appliesLoose_calling (g := g) h hdg hn hkY hinitY
      (X.room_calling (g := g) (R' := (headSpec ws rm).room) hsize hmY hcY hframes (by rw [hlY]; omega) h4 h5) h1
  obtain ⟨mid, hmid⟩ := h.above
  have hfr : (U.setTop g).frames = (.java g :: mid) ++ below := by rw [State.frames_setTop' g h.top, hmid]; rfl
  obtain ⟨o, s₂, hsteps, -, hend, hq⟩ := Steps.callFree hM p X.admits X.cas X.clock (acts := []) hfr happ hPc trivial
  have hq' : vx_Q Qc XC mc ms free a (U.calling g mk a) o s₂ := hq
  rw [State.frames_setTop' g h.top] at hend
  obtain ⟨g₀, hg0⟩ := Option.isSome_iff_exists.mp h.top
  obtain ⟨r, hr⟩ := State.topJava?_eq_some.mp hg0
  have hr' : (({ U with heap := s₂.heap, slotsUsed := s₂.slotsUsed } : State).setVm s₂.vm).frames = .java g₀ :: r := hr
  rcases hq' with ⟨hqc, L, hfe, hL⟩ | ⟨q, rfl, E, ce, L, hx, hce, hcv, hcl, hW₂, hsm, hL⟩
  · obtain ⟨⟨v, rfl⟩, hW₂, e2, q2, q3, q4, q5, q6⟩ := id hfe
    have e3 : s₂ = ({ (U.calling g mk a).setFrames s₂.frames with heap := s₂.heap, slotsUsed := s₂.slotsUsed } : State).setVm s₂.vm := by
      have : s₂ = ({ s₂ with vm := (U.calling g mk a).vm } : State).setVm s₂.vm := rfl
      rw [e2] at this
      exact this
    obtain ⟨c₂, i₂, len₂, hc₂, hd₂, hf₂⟩ := hend
    have hW' : U.WarmedH s₂.vm := hW₂
    have hcc : c₂ = c := by
      have h1 : s₂.code? g.method = U.code? g.method := by
        rw [State.code?_eq, State.code?_eq, hW'.alike.method?]
      exact Option.some.inj (hc₂.symm.trans (h1.trans h.code))
    subst hcc
    have hlen : len₂ = len := by rw [hdg] at hd₂; cases hd₂; rfl
    subst hlen
    have hs₂ : s₂ = (({ U with heap := s₂.heap, slotsUsed := s₂.slotsUsed } : State).setVm s₂.vm).setTop { g with pc := g.pc + len₂, stack := v.toList ++ g.stack } := by
      refine e3.trans ?_
      rw [hf₂, State.calling_eq h.top, State.setFrames_setFrames, State.setTop_of_frames _ hr', hr]
      rfl
    have hsame : U.sameButNew ({ U with heap := s₂.heap, slotsUsed := s₂.slotsUsed } : State) L mc ms := by
      refine ⟨?_, q2, q3, q4, q5, q6⟩
      obtain ⟨t, ht, -⟩ := State.frames_cons hr
      show ({ U with heap := s₂.heap, slotsUsed := s₂.slotsUsed } : State) = { U.setFrames U.frames with heap := s₂.heap, slotsUsed := s₂.slotsUsed }
      rw [State.setFrames_self ht]
    subst hg
    refine Or.inl ⟨v, ⟨(({ U with heap := s₂.heap, slotsUsed := s₂.slotsUsed } : State).setVm s₂.vm), Ls ++ L, c0 + mc, s0 + ms⟩,
      ⟨X.admits, X.cas, X.clock, X.frames, X.room, X.hears, X.method, X.code, (X.here.setHeapUsed s₂.heap s₂.slotsUsed).setVm hW'.alike, X.tail, State.WarmedH.trans X.warmed hW', X.limits, X.bytes, X.same.trans (hsame.setVm s.vm)⟩,
      ⟨g, mk, s₂, L, rfl, rfl, hqc, rfl, hL, rfl, rfl⟩, ?_⟩
    show Steps p.tables e below _ ((({ U with heap := s₂.heap, slotsUsed := s₂.slotsUsed } : State).setVm s₂.vm).setTop { g with pc := g.pc + len₂, stack := v.toList ++ g.stack })
    rw [← hs₂]
    exact hsteps
  · obtain ⟨e2, q2, q3, q4, q5, q6⟩ := id hsm
    have e3 : s₂ = ({ (U.calling g mk a).setFrames s₂.frames with heap := s₂.heap, slotsUsed := s₂.slotsUsed } : State).setVm s₂.vm := by
      have : s₂ = ({ s₂ with vm := (U.calling g mk a).vm } : State).setVm s₂.vm := rfl
      rw [e2] at this
      exact this
    have hf₂ : s₂.frames = .throwing q :: .java g :: U.frames.tail := hend
    have hW' : U.WarmedH s₂.vm := hW₂
    have hs₂ : s₂ = ((({ U with heap := s₂.heap, slotsUsed := s₂.slotsUsed } : State).setVm s₂.vm).setTop g).pushFrame (.throwing q) := by
      refine e3.trans ?_
      rw [hf₂, State.calling_eq h.top, State.setFrames_setFrames, State.pushFrame, State.frames_setTop _ hr', State.setTop_of_frames _ hr', State.setFrames_setFrames, hr]
      rfl
    have hsame : U.sameButNew ({ U with heap := s₂.heap, slotsUsed := s₂.slotsUsed } : State) L mc ms := by
      refine ⟨?_, q2, q3, q4, q5, q6⟩
      obtain ⟨t, ht, -⟩ := State.frames_cons hr
      show ({ U with heap := s₂.heap, slotsUsed := s₂.slotsUsed } : State) = { U.setFrames U.frames with heap := s₂.heap, slotsUsed := s₂.slotsUsed }
      rw [State.setFrames_self ht]
    subst hg
    refine Or.inr ⟨q, ⟨(({ U with heap := s₂.heap, slotsUsed := s₂.slotsUsed } : State).setVm s₂.vm), Ls ++ L, c0 + mc, s0 + ms⟩,
      ⟨X.admits, X.cas, X.clock, X.frames, X.room, X.hears, X.method, X.code, (X.here.setHeapUsed s₂.heap s₂.slotsUsed).setVm hW'.alike, X.tail, State.WarmedH.trans X.warmed hW', X.limits, X.bytes, X.same.trans (hsame.setVm s.vm)⟩,
      ⟨g, mk, s₂, L, E, ce, rfl, rfl, hx, hce, hcv, hcl, rfl, hL, rfl, rfl⟩, ?_⟩
    show Steps p.tables e below _ (((({ U with heap := s₂.heap, slotsUsed := s₂.slotsUsed } : State).setVm s₂.vm).setTop g).pushFrame (.throwing q))
    rw [← hs₂]
    exact hsteps
end Payer
section Calls
variable {p : Program} {l : Launch} {e : Env} {R : Room} {s : State} {m : MethodId} {args : Array Value} {below : List Frame} {meth : Method} {c : Code} {T : State} {locs : List Loc} {cells slots : Nat}
theorem vx_callV (X : Stand p l e R s m args below meth c T locs cells slots) (hexec : p.tables.exec = Jvm.exec) {own C : String} {index : Nat} {y : MethodName} {bytes : ByteArray} {maxL : Nat} {ret : Option FieldType}
    (hown : s.vm.findClass own = some m.cls) (hlink : (Cond.methodLink own index y).before args s = true) (hinst : (Cond.instanceMethod y).before args s = true) (hsel : (Cond.selects C y y).before args s = true)
    (hcode : (Cond.code y bytes maxL ret).before args s = true) (hy : y.cls ≠ "java/lang/invoke/MethodHandle" ∧ y.cls ≠ "java/lang/invoke/VarHandle")
    {W9 : Nat} {Pre : Pt → Array Value → Prop} {Post : Pt → Array Value → Option Value → Pt → Prop} {PostX : Pt → Array Value → Addr → Pt → Prop} (hK : vx_Back l R p e below s args y 3 W9 Pre Post PostX)
    {b : Addr} {cellB : Cell} (hcell : T.heap[b]? = some cellB) (hobj : cellB.vm.isStatics = false) (hcls : s.vm.findClass C = some cellB.cls)
    {g : JFrame} (hg : g.method = m) (hsize : g.locals.size = c.maxLocals) {argsL rest : List Value} (hlen : ∀ sig, parseMethodDescriptor y.desc = some sig → argsL.length = sig.parameters.length)
    (hstack : g.stack = argsL.reverse ++ .ref b :: rest) (hW : 2 * g.monitorRoom + (rest.map fun v => v.category).sum ≤ W9) (hdg : decode c.code g.pc = .ok (.invokevirtual index, 3))
    (hpre : ∀ vm₁, s.WarmedH vm₁ → Pre ⟨T.setVm vm₁, locs, cells, slots⟩ (Value.ref b :: argsL).toArray) :
    (∃ (v : Option Value) (vm₁ : Vm) (B : Pt), s.WarmedH vm₁ ∧ Stand p l e R s m args below meth c B.U B.locs B.cells B.slots ∧ Post ⟨T.setVm vm₁, locs, cells, slots⟩ (Value.ref b :: argsL).toArray v B ∧
      ∀ target, Steps p.tables e below (B.U.setTop { g with pc := g.pc + 3, stack := v.toList ++ rest }) target → Steps p.tables e below (T.setTop g) target) ∨
    (∃ (q : Addr) (vm₁ : Vm) (B : Pt), s.WarmedH vm₁ ∧ Stand p l e R s m args below meth c B.U B.locs B.cells B.slots ∧ PostX ⟨T.setVm vm₁, locs, cells, slots⟩ (Value.ref b :: argsL).toArray q B ∧
      Steps p.tables e below (T.setTop g) ((B.U.setTop { g with stack := rest }).pushFrame (.throwing q))) := by
  obtain ⟨mk, methM, hnamed, hmethM, hstM, habM⟩ := Cond.instanceMethod_spec hinst
  obtain ⟨methM', cM, hmethM', -, -, -, -, -, -, hsigM⟩ := Cond.code_spec hnamed hcode
  cases hmethM.symm.trans hmethM'
  obtain ⟨c2, r2, m2, q1, q2, q3, q4, kP, hkP, hkPi⟩ := Cond.selects_spec hsel
  cases hcls.symm.trans q1
  cases (State.methodFound?_of_named hnamed hy).symm.trans q2
  cases hnamed.symm.trans q3
  have hselP : selectMethod e.platform s.vm cellB.cls mk = .method mk := by rw [Launch.admits_selectMethod X.admits]; exact q4
  obtain ⟨vm₁, X₁, hstep₁⟩ := X.invokevirtual hexec hown hlink hnamed hmethM hstM hkP hkPi hy (a := b) (cell := cellB) hcell
    (fun z h => by rw [h] at hobj; cases hobj) hselP hmethM habM hkP hkPi (g := g) hg (argsL := argsL) (rest := rest) (hlen _ hsigM) hstack hdg
  rcases hK m meth c ⟨T.setVm vm₁, locs, cells, slots⟩ { g with stack := rest } (.invokevirtual index) mk (Value.ref b :: argsL).toArray X₁ hg hsize hdg hW (X₁.named hnamed) (hpre vm₁ X₁.warmed) with ⟨v, B, X', hpost, hsteps⟩ | ⟨q, B, X', hpost, hsteps⟩
  · exact Or.inl ⟨v, vm₁, B, X₁.warmed, X', hpost, fun target h => hstep₁ _ fun acts => by rw [doInvoke_state]; exact hsteps.trans h⟩
  · exact Or.inr ⟨q, vm₁, B, X₁.warmed, X', hpost, hstep₁ _ fun acts => by rw [doInvoke_state]; exact hsteps⟩
theorem vx_callS (X : Stand p l e R s m args below meth c T locs cells slots) (hexec : p.tables.exec = Jvm.exec) {own : String} {index : Nat} {y : MethodName} {bytes : ByteArray} {maxL : Nat} {ret : Option FieldType}
    (hown : s.vm.findClass own = some m.cls) (hlink : (Cond.methodLink own index y).before args s = true) (hstat : (Cond.static y).before args s = true) (hinit : (Cond.initialized y.cls).before args s = true)
    (hcode : (Cond.code y bytes maxL ret).before args s = true) (hy : y.cls ≠ "java/lang/invoke/MethodHandle" ∧ y.cls ≠ "java/lang/invoke/VarHandle")
    {W9 : Nat} {Pre : Pt → Array Value → Prop} {Post : Pt → Array Value → Option Value → Pt → Prop} {PostX : Pt → Array Value → Addr → Pt → Prop} (hK : vx_Back l R p e below s args y 3 W9 Pre Post PostX)
    {g : JFrame} (hg : g.method = m) (hsize : g.locals.size = c.maxLocals) {argsL rest : List Value} (hlen : ∀ sig, parseMethodDescriptor y.desc = some sig → argsL.length = sig.parameters.length)
    (hstack : g.stack = argsL.reverse ++ rest) (hW : 2 * g.monitorRoom + (rest.map fun v => v.category).sum ≤ W9) (hdg : decode c.code g.pc = .ok (.invokestatic index, 3))
    (hpre : ∀ vm₁, s.WarmedH vm₁ → Pre ⟨T.setVm vm₁, locs, cells, slots⟩ argsL.toArray) :
    (∃ (v : Option Value) (vm₁ : Vm) (B : Pt), s.WarmedH vm₁ ∧ Stand p l e R s m args below meth c B.U B.locs B.cells B.slots ∧ Post ⟨T.setVm vm₁, locs, cells, slots⟩ argsL.toArray v B ∧
      ∀ target, Steps p.tables e below (B.U.setTop { g with pc := g.pc + 3, stack := v.toList ++ rest }) target → Steps p.tables e below (T.setTop g) target) ∨
    (∃ (q : Addr) (vm₁ : Vm) (B : Pt), s.WarmedH vm₁ ∧ Stand p l e R s m args below meth c B.U B.locs B.cells B.slots ∧ PostX ⟨T.setVm vm₁, locs, cells, slots⟩ argsL.toArray q B ∧
      Steps p.tables e below (T.setTop g) ((B.U.setTop { g with stack := rest }).pushFrame (.throwing q))) := by
  obtain ⟨mk, hnamed⟩ := Cond.code_named hcode
  obtain ⟨methM, cM, hmethM, -, -, -, -, -, -, hsigM⟩ := Cond.code_spec hnamed hcode
  have hstatic : methM.isStatic = true := Cond.static_spec hnamed hmethM hstat
  obtain ⟨kP, hkP, -⟩ := className_of_methodNamed hnamed
  have hinitP : kP.init = .initialized := Cond.initialized_spec (findClass_of_methodNamed hnamed) hkP hinit
  obtain ⟨vm₁, X₁, hstep₁⟩ := X.invokestatic hexec hown hlink hnamed hmethM hstatic hkP hinitP hy (g := g) hg (argsL := argsL) (rest := rest) (hlen _ hsigM) hstack hdg
  rcases hK m meth c ⟨T.setVm vm₁, locs, cells, slots⟩ { g with stack := rest } (.invokestatic index) mk argsL.toArray X₁ hg hsize hdg hW (X₁.named hnamed) (hpre vm₁ X₁.warmed) with ⟨v, B, X', hpost, hsteps⟩ | ⟨q, B, X', hpost, hsteps⟩
  · exact Or.inl ⟨v, vm₁, B, X₁.warmed, X', hpost, fun target h => hstep₁ _ fun acts => by rw [doInvoke_state]; exact hsteps.trans h⟩
  · exact Or.inr ⟨q, vm₁, B, X₁.warmed, X', hpost, hstep₁ _ fun acts => by rw [doInvoke_state]; exact hsteps⟩
end Calls
theorem vx_cls {s : State} {T : State} {vm₁ : Vm} {E : String} {k : ClassId} (hW : s.WarmedH vm₁) (h : (T.setVm vm₁).vm.findClass E = some k) : s.vm.findClass E = some k := by
  have h1 : vm₁.findClass E = some k := h
  rw [hW.alike.findClass] at h1
  exact h1
/-- the method's frame g, with q thrown over it -/
def vx_W (p : Program) (l : Launch) (e : Env) (R : Room) (s : State) (m : MethodId) (args : Array Value) (below : List Frame) (meth : Method) (c : Code) (H : Heap) (locs : List Loc) (cells slots : Nat) (Q : State → Prop) (g : JFrame) (q : Addr) : Prop :=
  ∀ T : State, T.heap = H → Stand p l e R s m args below meth c T locs cells slots → ∃ t, Steps p.tables e below ((T.setTop g).pushFrame (.throwing q)) t ∧ Q t
def vx_Run (p : Program) (l : Launch) (e : Env) (R : Room) (s : State) (m : MethodId) (args : Array Value) (below : List Frame) (meth : Method) (c : Code) (H : Heap) (locs : List Loc) (cells slots mc ms : Nat) (g : JFrame) (rest : List Value) (Qa : State → Outcome → State → Prop) (XC : String → State → State → Prop) (free : Addr → Prop) : Prop :=
  ∀ T : State, T.heap = H → Stand p l e R s m args below meth c T locs cells slots →
    (∃ (v : Option Value) (st₀ t T' : State) (L : List Loc), st₀.heap = H ∧ Stand p l e R s m args below meth c T' (locs ++ L) (cells + mc) (slots + ms) ∧ (∀ q ∈ L, free q.base) ∧ T'.heap = t.heap ∧ T'.vm = t.vm ∧ Qa st₀ (.returned v) t ∧
      Goes p e below T g T' { g with pc := g.pc + 3, stack := v.toList ++ rest }) ∨
    (∃ (q : Addr) (st₀ t T' : State) (L : List Loc) (E : String) (ce : Cell), st₀.heap = H ∧ Stand p l e R s m args below meth c T' (locs ++ L) (cells + mc) (slots + ms) ∧ (∀ z ∈ L, free z.base) ∧ T'.heap = t.heap ∧ T'.vm = t.vm ∧ XC E st₀ t ∧ t.heap[q]? = some ce ∧ ce.vm = .none ∧ s.vm.findClass E = some ce.cls ∧
      Steps p.tables e below (T.setTop g) ((T'.setTop { g with stack := rest }).pushFrame (.throwing q)))
def vx_X {S : Type} (px : S → Prop) (B : String → S → State → Prop) (A : Nat → Prop) : String → State → State → Prop := fun E st t => ∃ u : S, px u ∧ B E u t ∧ va_F A st t
section Runs
variable {p : Program} {l : Launch} {e : Env} {R : Room} {s : State} {m : MethodId} {args : Array Value} {below : List Frame} {meth : Method} {c : Code} {H : Heap} {locs : List Loc} {cells slots : Nat}
variable {y : MethodName} {bytes cc : ByteArray} {maxL nL mc ms n index : Nat} {ret : Option FieldType} {ws : List Cond} {rm : Room} {Pc : Array Value → State → Prop} {Qc : Array Value → State → Outcome → State → Prop} {XC : String → State → State → Prop} {free : Addr → Prop} {Ts : List Cond} {own C : String} {b : Addr} {As rest : List Value} {g : JFrame}
theorem vx_callBack (cb : CallB R s args own index y bytes maxL ret ws rm mc ms n) (hM : vx_Met l y ws rm Pc Qc XC mc ms free) (hbl : FrameBlind Pc) : vx_Back l R p e below s args y 3 8 (PreOf R mc ms Pc) (PostOf Qc mc ms free) (vx_Post XC mc ms free) := by
  obtain ⟨hrc, hrs, hfr, hlo, hws, hcw, -, hini, -⟩ := cb
  exact vx_back (bytes := bytes) (maxL := maxL) (ret := ret) hM hbl hrc hrs hfr hlo hws hcw (fun a' U hW => word_at hW (Or.inl (by first | rfl | simp [Cond.onTables, Cond.keeps, Cond.steady])) hini)
theorem vx_runV (S : CallFix p m c cc nL s args Ts own) (hM : vx_Met l y ws rm Pc Qc XC mc ms free) (cw : CallW R s args own C index y bytes maxL ret ws rm mc ms n) (hp : PreV s H C b Pc As)
    (hg : g.method = m) (hn : As.length = n) (hsize : g.locals.size = nL) (hstack : g.stack = As.reverse ++ .ref b :: rest) (hW : 2 * g.monitorRoom + (rest.map fun v => v.category).sum ≤ 8) (hdg : decode cc g.pc = .ok (.invokevirtual index, 3)) (hf : cells + mc ≤ R.cells ∧ slots + ms ≤ R.slots) :
    vx_Run p l e R s m args below meth c H locs cells slots mc ms g rest (Qc (Value.ref b :: As).toArray) XC free := by
  have hK : vx_Back l R p e below s args y 3 8 (PreOf R mc ms Pc) (PostOf Qc mc ms free) (vx_Post XC mc ms free) := vx_callBack cw.1 hM hp.1
  obtain ⟨⟨-, -, -, -, -, -, hcode, -, hy, hlen, hl⟩, hin, hse⟩ := cw
  obtain ⟨hx, hb, hml, ho, -⟩ := S
  obtain ⟨-, ⟨cellB, hcB, hoB, hclB⟩, hPc⟩ := hp
  intro T hT X
  rcases vx_callV X hx (C := C) (bytes := bytes) (maxL := maxL) (ret := ret) ho hl hin hse hcode hy hK (by rw [hT]; exact hcB) hoB hclB hg (hsize.trans hml.symm) (argsL := As) (rest := rest) (fun sig h => hn.trans (hlen sig h)) hstack hW (by rw [hb]; exact hdg)
    (fun vm₁ hW₁ => ⟨hf.1, hf.2, hPc (T.setVm vm₁) hT hW₁⟩) with ⟨v, vm₁, ⟨U', l2, c2, s2⟩, hW₁, X', ⟨g', mk, t, L, e1, e2, hq, h1, hL, h2, h3⟩, st⟩ | ⟨q, vm₁, ⟨U', l2, c2, s2⟩, hW₁, X', ⟨g', mk, t, L, E, ce, e1, e2, hq, hce, hcv, hcl, h1, hL, h2, h3⟩, st⟩
  · dsimp only [Pt.U, Pt.locs, Pt.cells, Pt.slots] at X' e1 e2 h1 h2 h3 st
    subst h1; subst h2; subst h3
    exact Or.inl ⟨v, (T.setVm vm₁).calling g' mk (Value.ref b :: As).toArray, t, U', L, hT, X', hL, e1, e2, hq, st⟩
  · dsimp only [Pt.U, Pt.locs, Pt.cells, Pt.slots] at X' e1 e2 h1 h2 h3 st hcl
    subst h1; subst h2; subst h3
    exact Or.inr ⟨q, (T.setVm vm₁).calling g' mk (Value.ref b :: As).toArray, t, U', L, E, ce, hT, X', hL, e1, e2, hq, hce, hcv, vx_cls hW₁ hcl, st⟩
theorem vx_runS (S : CallFix p m c cc nL s args Ts own) (hM : vx_Met l y ws rm Pc Qc XC mc ms free) (cw : CallB R s args own index y bytes maxL ret ws rm mc ms n ∧ (Cond.static y).before args s = true) (hp : PreS s H Pc As)
    (hg : g.method = m) (hn : As.length = n) (hsize : g.locals.size = nL) (hstack : g.stack = As.reverse ++ rest) (hW : 2 * g.monitorRoom + (rest.map fun v => v.category).sum ≤ 8) (hdg : decode cc g.pc = .ok (.invokestatic index, 3)) (hf : cells + mc ≤ R.cells ∧ slots + ms ≤ R.slots) :
    vx_Run p l e R s m args below meth c H locs cells slots mc ms g rest (Qc As.toArray) XC free := by
  have hK : vx_Back l R p e below s args y 3 8 (PreOf R mc ms Pc) (PostOf Qc mc ms free) (vx_Post XC mc ms free) := vx_callBack cw.1 hM hp.1
  obtain ⟨⟨-, -, -, -, -, -, hcode, hini, hy, hlen, hl⟩, hstt⟩ := cw
  obtain ⟨hx, hb, hml, ho, -⟩ := S
  intro T hT X
  rcases vx_callS X hx (bytes := bytes) (maxL := maxL) (ret := ret) ho hl hstt hini hcode hy hK hg (hsize.trans hml.symm) (argsL := As) (rest := rest) (fun sig h => hn.trans (hlen sig h)) hstack hW (by rw [hb]; exact hdg)
    (fun vm₁ hW₁ => ⟨hf.1, hf.2, hp.2 (T.setVm vm₁) hT hW₁⟩) with ⟨v, vm₁, ⟨U', l2, c2, s2⟩, hW₁, X', ⟨g', mk, t, L, e1, e2, hq, h1, hL, h2, h3⟩, st⟩ | ⟨q, vm₁, ⟨U', l2, c2, s2⟩, hW₁, X', ⟨g', mk, t, L, E, ce, e1, e2, hq, hce, hcv, hcl, h1, hL, h2, h3⟩, st⟩
  · dsimp only [Pt.U, Pt.locs, Pt.cells, Pt.slots] at X' e1 e2 h1 h2 h3 st
    subst h1; subst h2; subst h3
    exact Or.inl ⟨v, (T.setVm vm₁).calling g' mk As.toArray, t, U', L, hT, X', hL, e1, e2, hq, st⟩
  · dsimp only [Pt.U, Pt.locs, Pt.cells, Pt.slots] at X' e1 e2 h1 h2 h3 st hcl
    subst h1; subst h2; subst h3
    exact Or.inr ⟨q, (T.setVm vm₁).calling g' mk As.toArray, t, U', L, E, ce, hT, X', hL, e1, e2, hq, hce, hcv, vx_cls hW₁ hcl, st⟩
end Runs
section Rows
variable {p : Program} {l : Launch} {e : Env} {R : Room} {s : State} {m : MethodId} {args : Array Value} {below : List Frame} {meth : Method} {c : Code} {H : Heap} {locs : List Loc} {cells slots : Nat} {Q : State → Prop}
variable {mc ms : Nat} {free : Addr → Prop} {A0 A1 : Nat → Prop} {H0 : Heap} {a : Array Value} {pc : Nat} {ls : Array Slot} {st0 rest : List Value}
theorem vx_keep {st₀ t T' : State} {L : List Loc} (h0 : st₀.heap = H) (e1 : T'.heap = t.heap) (hS : va_S A0 H0 H locs) (hA : ∀ q, q < H.size → A1 q → A0 q) (hf : ∀ q, free q → A0 q) (hL : ∀ q ∈ L, free q.base) (hF : va_F A1 st₀ t) :
    H.size ≤ T'.heap.size ∧ (∀ q : Nat, q < H.size → ¬ A1 q → T'.heap[q]? = H[q]?) ∧ va_S A0 H0 T'.heap (locs ++ L) := by
  obtain ⟨hz, hk⟩ := hF
  rw [h0] at hz hk
  exact ⟨by rw [e1]; exact hz, fun q h1 h2 => by rw [e1]; exact hk q h1 h2,
    ⟨Nat.le_trans hS.1 (by rw [e1]; exact hz), fun q h1 h2 => by rw [e1, hk q (Nat.lt_of_lt_of_le h1 hS.1) (fun z => h2 (hA q (Nat.lt_of_lt_of_le h1 hS.1) z))]; exact hS.2.1 q h1 h2, fun q hq => by
      rcases List.mem_append.mp hq with h | h
      · exact hS.2.2 q h
      · exact hf _ (hL q h)⟩⟩
theorem vx_calli {S SX : Type} {post : Int32 → S → Prop} {px : SX → Prop} {B : S → State → Prop} {BX : String → SX → State → Prop} {AX : Nat → Prop} (hr : vx_Run p l e R s m args below meth c H locs cells slots mc ms (F0 m pc ls st0) rest (va_Qi post B A1 a) (vx_X px BX AX) free) (hS : va_S A0 H0 H locs) (hA : ∀ q, q < H.size → A1 q → A0 q) (hf : ∀ q, free q → A0 q) (hAX : ∀ q, q < H.size → AX q → A0 q)
    (kx : ∀ (E : String) (ce : Cell) (q9 : Addr) (u : SX) (t : State) (H1 : Heap) (locs1 : List Loc), t.heap = H1 → s.vm.Alike t.vm → px u → BX E u t → H.size ≤ H1.size → (∀ q : Nat, q < H.size → ¬ AX q → H1[q]? = H[q]?) → va_S A0 H0 H1 locs1 → H1[q9]? = some ce → ce.vm = .none → s.vm.findClass E = some ce.cls → vx_W p l e R s m args below meth c H1 locs1 (cells + mc) (slots + ms) Q (F0 m pc ls rest) q9)
    (kk : ∀ (r : Int32) (u : S) (t : State) (H1 : Heap) (locs1 : List Loc), t.heap = H1 → s.vm.Alike t.vm → post r u → B u t → H.size ≤ H1.size → (∀ q : Nat, q < H.size → ¬ A1 q → H1[q]? = H[q]?) → va_S A0 H0 H1 locs1 → W p l e R s m args below meth c H1 locs1 (cells + mc) (slots + ms) Q (F0 m (pc + 3) ls (.int r :: rest))) : W p l e R s m args below meth c H locs cells slots Q (F0 m pc ls st0) := by
  intro T hT X
  rcases hr T hT X with ⟨v, st₀, t, T', L, h0, X', hL, e1, e2, ⟨⟨r, u, hv, hp, hb⟩, hF⟩, st⟩ | ⟨q, st₀, t, T', L, E, ce, h0, X', hL, e1, e2, ⟨u, hp, hb, hF⟩, hce, hcv, hcl, st⟩
  · cases hv
    obtain ⟨k1, k2, k3⟩ := vx_keep h0 e1 hS hA hf hL hF
    obtain ⟨t2, a1, b1⟩ := kk r u t T'.heap (locs ++ L) e1.symm (by rw [← e2]; exact X'.warmed.alike) hp hb k1 k2 k3 T' rfl X'
    exact ⟨t2, st t2 a1, b1⟩
  · obtain ⟨k1, k2, k3⟩ := vx_keep h0 e1 hS hAX hf hL hF
    obtain ⟨t2, a1, b1⟩ := kx E ce q u t T'.heap (locs ++ L) e1.symm (by rw [← e2]; exact X'.warmed.alike) hp hb k1 k2 k3 (by rw [e1]; exact hce) hcv hcl T' rfl X'
    exact ⟨t2, st.trans a1, b1⟩
theorem vx_calll {S SX : Type} {post : Int64 → S → Prop} {px : SX → Prop} {B : S → State → Prop} {BX : String → SX → State → Prop} {AX : Nat → Prop} (hr : vx_Run p l e R s m args below meth c H locs cells slots mc ms (F0 m pc ls st0) rest (va_Ql post B A1 a) (vx_X px BX AX) free) (hS : va_S A0 H0 H locs) (hA : ∀ q, q < H.size → A1 q → A0 q) (hf : ∀ q, free q → A0 q) (hAX : ∀ q, q < H.size → AX q → A0 q)
    (kx : ∀ (E : String) (ce : Cell) (q9 : Addr) (u : SX) (t : State) (H1 : Heap) (locs1 : List Loc), t.heap = H1 → s.vm.Alike t.vm → px u → BX E u t → H.size ≤ H1.size → (∀ q : Nat, q < H.size → ¬ AX q → H1[q]? = H[q]?) → va_S A0 H0 H1 locs1 → H1[q9]? = some ce → ce.vm = .none → s.vm.findClass E = some ce.cls → vx_W p l e R s m args below meth c H1 locs1 (cells + mc) (slots + ms) Q (F0 m pc ls rest) q9)
    (kk : ∀ (r : Int64) (u : S) (t : State) (H1 : Heap) (locs1 : List Loc), t.heap = H1 → s.vm.Alike t.vm → post r u → B u t → H.size ≤ H1.size → (∀ q : Nat, q < H.size → ¬ A1 q → H1[q]? = H[q]?) → va_S A0 H0 H1 locs1 → W p l e R s m args below meth c H1 locs1 (cells + mc) (slots + ms) Q (F0 m (pc + 3) ls (.long r :: rest))) : W p l e R s m args below meth c H locs cells slots Q (F0 m pc ls st0) := by
  intro T hT X
  rcases hr T hT X with ⟨v, st₀, t, T', L, h0, X', hL, e1, e2, ⟨⟨r, u, hv, hp, hb⟩, hF⟩, st⟩ | ⟨q, st₀, t, T', L, E, ce, h0, X', hL, e1, e2, ⟨u, hp, hb, hF⟩, hce, hcv, hcl, st⟩
  · cases hv
    obtain ⟨k1, k2, k3⟩ := vx_keep h0 e1 hS hA hf hL hF
    obtain ⟨t2, a1, b1⟩ := kk r u t T'.heap (locs ++ L) e1.symm (by rw [← e2]; exact X'.warmed.alike) hp hb k1 k2 k3 T' rfl X'
    exact ⟨t2, st t2 a1, b1⟩
  · obtain ⟨k1, k2, k3⟩ := vx_keep h0 e1 hS hAX hf hL hF
    obtain ⟨t2, a1, b1⟩ := kx E ce q u t T'.heap (locs ++ L) e1.symm (by rw [← e2]; exact X'.warmed.alike) hp hb k1 k2 k3 (by rw [e1]; exact hce) hcv hcl T' rfl X'
    exact ⟨t2, st.trans a1, b1⟩
theorem vx_callf {S SX : Type} {post : UInt32 → S → Prop} {px : SX → Prop} {B : S → State → Prop} {BX : String → SX → State → Prop} {AX : Nat → Prop} (hr : vx_Run p l e R s m args below meth c H locs cells slots mc ms (F0 m pc ls st0) rest (va_Qf post B A1 a) (vx_X px BX AX) free) (hS : va_S A0 H0 H locs) (hA : ∀ q, q < H.size → A1 q → A0 q) (hf : ∀ q, free q → A0 q) (hAX : ∀ q, q < H.size → AX q → A0 q)
    (kx : ∀ (E : String) (ce : Cell) (q9 : Addr) (u : SX) (t : State) (H1 : Heap) (locs1 : List Loc), t.heap = H1 → s.vm.Alike t.vm → px u → BX E u t → H.size ≤ H1.size → (∀ q : Nat, q < H.size → ¬ AX q → H1[q]? = H[q]?) → va_S A0 H0 H1 locs1 → H1[q9]? = some ce → ce.vm = .none → s.vm.findClass E = some ce.cls → vx_W p l e R s m args below meth c H1 locs1 (cells + mc) (slots + ms) Q (F0 m pc ls rest) q9)
    (kk : ∀ (r : UInt32) (u : S) (t : State) (H1 : Heap) (locs1 : List Loc), t.heap = H1 → s.vm.Alike t.vm → post r u → B u t → H.size ≤ H1.size → (∀ q : Nat, q < H.size → ¬ A1 q → H1[q]? = H[q]?) → va_S A0 H0 H1 locs1 → W p l e R s m args below meth c H1 locs1 (cells + mc) (slots + ms) Q (F0 m (pc + 3) ls (.float r :: rest))) : W p l e R s m args below meth c H locs cells slots Q (F0 m pc ls st0) := by
  intro T hT X
  rcases hr T hT X with ⟨v, st₀, t, T', L, h0, X', hL, e1, e2, ⟨⟨r, u, hv, hp, hb⟩, hF⟩, st⟩ | ⟨q, st₀, t, T', L, E, ce, h0, X', hL, e1, e2, ⟨u, hp, hb, hF⟩, hce, hcv, hcl, st⟩
  · cases hv
    obtain ⟨k1, k2, k3⟩ := vx_keep h0 e1 hS hA hf hL hF
    obtain ⟨t2, a1, b1⟩ := kk r u t T'.heap (locs ++ L) e1.symm (by rw [← e2]; exact X'.warmed.alike) hp hb k1 k2 k3 T' rfl X'
    exact ⟨t2, st t2 a1, b1⟩
  · obtain ⟨k1, k2, k3⟩ := vx_keep h0 e1 hS hAX hf hL hF
    obtain ⟨t2, a1, b1⟩ := kx E ce q u t T'.heap (locs ++ L) e1.symm (by rw [← e2]; exact X'.warmed.alike) hp hb k1 k2 k3 (by rw [e1]; exact hce) hcv hcl T' rfl X'
    exact ⟨t2, st.trans a1, b1⟩
theorem vx_calld {S SX : Type} {post : UInt64 → S → Prop} {px : SX → Prop} {B : S → State → Prop} {BX : String → SX → State → Prop} {AX : Nat → Prop} (hr : vx_Run p l e R s m args below meth c H locs cells slots mc ms (F0 m pc ls st0) rest (va_Qd post B A1 a) (vx_X px BX AX) free) (hS : va_S A0 H0 H locs) (hA : ∀ q, q < H.size → A1 q → A0 q) (hf : ∀ q, free q → A0 q) (hAX : ∀ q, q < H.size → AX q → A0 q)
    (kx : ∀ (E : String) (ce : Cell) (q9 : Addr) (u : SX) (t : State) (H1 : Heap) (locs1 : List Loc), t.heap = H1 → s.vm.Alike t.vm → px u → BX E u t → H.size ≤ H1.size → (∀ q : Nat, q < H.size → ¬ AX q → H1[q]? = H[q]?) → va_S A0 H0 H1 locs1 → H1[q9]? = some ce → ce.vm = .none → s.vm.findClass E = some ce.cls → vx_W p l e R s m args below meth c H1 locs1 (cells + mc) (slots + ms) Q (F0 m pc ls rest) q9)
    (kk : ∀ (r : UInt64) (u : S) (t : State) (H1 : Heap) (locs1 : List Loc), t.heap = H1 → s.vm.Alike t.vm → post r u → B u t → H.size ≤ H1.size → (∀ q : Nat, q < H.size → ¬ A1 q → H1[q]? = H[q]?) → va_S A0 H0 H1 locs1 → W p l e R s m args below meth c H1 locs1 (cells + mc) (slots + ms) Q (F0 m (pc + 3) ls (.double r :: rest))) : W p l e R s m args below meth c H locs cells slots Q (F0 m pc ls st0) := by
  intro T hT X
  rcases hr T hT X with ⟨v, st₀, t, T', L, h0, X', hL, e1, e2, ⟨⟨r, u, hv, hp, hb⟩, hF⟩, st⟩ | ⟨q, st₀, t, T', L, E, ce, h0, X', hL, e1, e2, ⟨u, hp, hb, hF⟩, hce, hcv, hcl, st⟩
  · cases hv
    obtain ⟨k1, k2, k3⟩ := vx_keep h0 e1 hS hA hf hL hF
    obtain ⟨t2, a1, b1⟩ := kk r u t T'.heap (locs ++ L) e1.symm (by rw [← e2]; exact X'.warmed.alike) hp hb k1 k2 k3 T' rfl X'
    exact ⟨t2, st t2 a1, b1⟩
  · obtain ⟨k1, k2, k3⟩ := vx_keep h0 e1 hS hAX hf hL hF
    obtain ⟨t2, a1, b1⟩ := kx E ce q u t T'.heap (locs ++ L) e1.symm (by rw [← e2]; exact X'.warmed.alike) hp hb k1 k2 k3 (by rw [e1]; exact hce) hcv hcl T' rfl X'
    exact ⟨t2, st.trans a1, b1⟩
theorem vx_callv {S SX : Type} {post : S → Prop} {px : SX → Prop} {B : S → State → Prop} {BX : String → SX → State → Prop} {AX : Nat → Prop} (hr : vx_Run p l e R s m args below meth c H locs cells slots mc ms (F0 m pc ls st0) rest (va_Qv post B A1 a) (vx_X px BX AX) free) (hS : va_S A0 H0 H locs) (hA : ∀ q, q < H.size → A1 q → A0 q) (hf : ∀ q, free q → A0 q) (hAX : ∀ q, q < H.size → AX q → A0 q)
    (kx : ∀ (E : String) (ce : Cell) (q9 : Addr) (u : SX) (t : State) (H1 : Heap) (locs1 : List Loc), t.heap = H1 → s.vm.Alike t.vm → px u → BX E u t → H.size ≤ H1.size → (∀ q : Nat, q < H.size → ¬ AX q → H1[q]? = H[q]?) → va_S A0 H0 H1 locs1 → H1[q9]? = some ce → ce.vm = .none → s.vm.findClass E = some ce.cls → vx_W p l e R s m args below meth c H1 locs1 (cells + mc) (slots + ms) Q (F0 m pc ls rest) q9)
    (kk : ∀ (u : S) (t : State) (H1 : Heap) (locs1 : List Loc), t.heap = H1 → s.vm.Alike t.vm → post u → B u t → H.size ≤ H1.size → (∀ q : Nat, q < H.size → ¬ A1 q → H1[q]? = H[q]?) → va_S A0 H0 H1 locs1 → W p l e R s m args below meth c H1 locs1 (cells + mc) (slots + ms) Q (F0 m (pc + 3) ls (rest))) : W p l e R s m args below meth c H locs cells slots Q (F0 m pc ls st0) := by
  intro T hT X
  rcases hr T hT X with ⟨v, st₀, t, T', L, h0, X', hL, e1, e2, ⟨⟨u, hv, hp, hb⟩, hF⟩, st⟩ | ⟨q, st₀, t, T', L, E, ce, h0, X', hL, e1, e2, ⟨u, hp, hb, hF⟩, hce, hcv, hcl, st⟩
  · cases hv
    obtain ⟨k1, k2, k3⟩ := vx_keep h0 e1 hS hA hf hL hF
    obtain ⟨t2, a1, b1⟩ := kk u t T'.heap (locs ++ L) e1.symm (by rw [← e2]; exact X'.warmed.alike) hp hb k1 k2 k3 T' rfl X'
    exact ⟨t2, st t2 a1, b1⟩
  · obtain ⟨k1, k2, k3⟩ := vx_keep h0 e1 hS hAX hf hL hF
    obtain ⟨t2, a1, b1⟩ := kx E ce q u t T'.heap (locs ++ L) e1.symm (by rw [← e2]; exact X'.warmed.alike) hp hb k1 k2 k3 (by rw [e1]; exact hce) hcv hcl T' rfl X'
    exact ⟨t2, st.trans a1, b1⟩
/-- caught by the row x of this method's table; the rows ahead don't take it -/
theorem vx_catch {own name : String} {E : String} {ce : Cell} {q : Addr} (hown : s.vm.findClass own = some m.cls) (pre : List ExceptionTableEntry) (x : ExceptionTableEntry) (suf : List ExceptionTableEntry) (hsplit : c.exceptionTable.toList = pre ++ x :: suf)
    (hpass : ∀ z ∈ pre, covers z pc = false ∨ (z.catchType ≠ 0 ∧ ∃ nm : String, (Cond.classLink own z.catchType nm).before args s = true ∧ va_Nc E nm s)) (hx : covers x pc = true) (h0 : x.catchType ≠ 0)
    (hlink : (Cond.classLink own x.catchType name).before args s = true) (hcast : (Cond.castable E name).before args s = true) (hcell : H[q]? = some ce) (hv : ce.vm = .none) (hcl : s.vm.findClass E = some ce.cls)
    (kk : W p l e R s m args below meth c H locs cells slots Q (F0 m x.handlerPc ls [.ref q])) : vx_W p l e R s m args below meth c H locs cells slots Q (F0 m pc ls rest) q := by
  intro T hT X
  have hpl : e.platform.magicAccessors = ({} : Platform).magicAccessors := by rw [X.admits.platform]
  obtain ⟨c3, c4, hc3, hc4, hasg⟩ := Cond.castable_spec hcast
  cases Option.some.inj (hc3.symm.trans hcl)
  obtain ⟨c5, hc5, hcl5⟩ := Cond.classLink_spec hown hlink e.platform hpl
  cases Option.some.inj (hc4.symm.trans hc5)
  obtain ⟨vm', X', st⟩ := X.thenCaughtThrough q (g := F0 m pc ls rest) rfl (Steps.refl _) (by rw [hT]; exact hcell) (by rw [hv]; rfl) (by obtain ⟨k9, h9, -⟩ := Vm.findClass_spec hcl; exact ⟨k9, h9⟩) pre x suf hsplit
    (fun z hz => by
      rcases hpass z hz with h | ⟨hz0, nm, hl1, hn1⟩
      · exact Or.inl h
      · obtain ⟨c6, hc6, hcl6⟩ := Cond.classLink_spec hown hl1 e.platform hpl
        obtain ⟨a8, b8, h1, h2, h3⟩ := hn1
        cases Option.some.inj (h1.symm.trans hcl)
        cases Option.some.inj (h2.symm.trans hc6)
        exact Or.inr ⟨hz0, _, hcl6, h3⟩) hx (Or.inr ⟨h0, c4, hcl5, hasg⟩)
  obtain ⟨t, a1, b1⟩ := kk (T.setVm vm') hT X'
  exact ⟨t, st.trans a1, b1⟩
end Rows
section Ends
variable {p : Program} {l : Launch} {e : Env} {R : Room} {s : State} {m : MethodId} {args : Array Value} {below : List Frame} {meth : Method} {c : Code} {H : Heap} {locs : List Loc} {cells slots : Nat} {Q : State → Prop}
variable {mc ms : Nat} {free : Addr → Prop} {A0 A1 : Nat → Prop} {H0 : Heap} {a : Array Value} {ls : Array Slot} {st0 rest : List Value}
variable {Qc : Array Value → State → Outcome → State → Prop} {XC : String → State → State → Prop}
/-- what a body that may throw owes at its end -/
def vx_MQ (below : List Frame) (Qc : Array Value → State → Outcome → State → Prop) (XC : String → State → State → Prop) (a : Array Value) (s : State) (mc ms : Nat) (free : Addr → Prop) : State → Prop := fun t =>
  ∃ o, t.status = .running ∧ Ended t below o ∧ vx_Q Qc XC mc ms free a s o t
theorem vx_ret {g : JFrame} {mc ms : Nat} (k : W p l e R s m args below meth c H locs cells slots (MQ below Qc args s mc ms free) g) : W p l e R s m args below meth c H locs cells slots (vx_MQ below Qc XC args s mc ms free) g := by
  intro T hT X
  obtain ⟨t, a1, o, b1, b2, b3, b4⟩ := k T hT X
  exact ⟨t, a1, o, b1, b2, Or.inl ⟨b3, b4⟩⟩
/-- not caught here: it goes on to the caller -/
theorem vx_widen {g : JFrame} {q : Addr} {k n : Nat} (h1 : cells ≤ k) (h2 : slots ≤ n) (kk : vx_W p l e R s m args below meth c H locs k n Q g q) : vx_W p l e R s m args below meth c H locs cells slots Q g q := fun T hT X => kk T hT (stand_widen X h1 h2)
theorem vx_out {pc : Nat} {E : String} {ce : Cell} {q : Addr} {mc ms : Nat} (hout : ∀ x ∈ c.exceptionTable.toList, covers x pc = false) (hlocks : meth.locks = false) (hcell : H[q]? = some ce) (hv : ce.vm = .none) (hcl : s.vm.findClass E = some ce.cls)
    (hx : ∀ t : State, t.heap = H → s.vm.Alike t.vm → XC E s t) (hf : ∀ z ∈ locs, free z.base) (hc : cells ≤ mc) (hs : slots ≤ ms) :
    vx_W p l e R s m args below meth c H locs cells slots (vx_MQ below Qc XC args s mc ms free) (F0 m pc ls rest) q := by
  intro T hT X
  obtain ⟨st1, hrun, hend, hW, hsm⟩ := X.leaveThrown q (g := F0 m pc ls rest) rfl rfl rfl hout hlocks
  have hcell9 : (T.setFrames (.throwing q :: below)).heap[q]? = some ce := by
    show T.heap[q]? = some ce
    rw [hT]; exact hcell
  exact ⟨_, st1, .threw q, hrun, hend, Or.inr ⟨q, rfl, E, ce, locs, hx _ hT hW.alike, hcell9, hv, hcl, hW, hsm.mono hc hs, hf⟩⟩
theorem vx_frame {U : State} {k n : Nat} (h : s.sameButNew ({ U with vm := s.vm } : State) locs k n) : s.heap.size ≤ U.heap.size ∧ ∀ q : Nat, q < s.heap.size → (∀ z ∈ locs, z.base ≠ q) → U.heap[q]? = s.heap[q]? := by
  obtain ⟨-, h2, -, -, -, h6⟩ := h
  refine ⟨h2, fun q hq hz => ?_⟩
  obtain ⟨c9, e1, e2, e3, e4⟩ := h6 q _ (Array.getElem?_eq_getElem hq)
  have hs : c9.slots = (s.heap[q]).slots := Array.ext_getElem? fun i => e4 i fun hm => hz _ hm rfl
  have h9 : c9 = s.heap[q] := by
    rw [hs] at e2
    exact e2
  have e5 : U.heap[q]? = some c9 := e1
  rw [e5, h9, Array.getElem?_eq_getElem hq]
/-- the words of a throw but the four that speak of the heap -/
def vx_no (w : Cond) : Bool := decide (w ≠ .isRef (.static Bundle.tN "UNASSIGNED_STACK" Bundle.steD)) && decide (w ≠ .isRef (.static Bundle.tN "SUPPRESSED_SENTINEL" Bundle.listD)) && decide (w ≠ .laysStatic Bundle.tN "UNASSIGNED_STACK" Bundle.steD) && decide (w ≠ .laysStatic Bundle.tN "SUPPRESSED_SENTINEL" Bundle.listD)
def vx_at0 (own : String) (ic : Nat) (X : String) (names : List String) : List Cond := (Bundle.ownAtoms0 own ic X names).filter vx_no
def vx_atS (own : String) (ic : Nat) (X : String) (names : List String) : List Cond := (Bundle.ownAtoms own ic X names).filter vx_no
/-- a word that the tables alone decide, or a good one -/
def vx_ot (w : Cond) : Bool := w.onTables || goodWord w
theorem vx_ot_at {args a' : Array Value} {s U : State} {w : Cond} (hW : s.WarmedH U.vm) (hvm : s.vm = U.vm) (hg : vx_ot w = true) (h : w.before args s = true) : w.before a' U = true := by
  simp only [vx_ot, Bool.or_eq_true] at hg
  rcases hg with hg | hg
  · exact va_tabs hg hvm h
  · exact word_at hW (good_of_word hg) h
/-- a list's words: the good ones out of the method's own list, the others by premises of their own -/
theorem vx_hat {args : Array Value} {s : State} {L B : List Cond} (h1 : ∀ w ∈ L.filter goodWord, w.before args s = true) (h2 : ∀ w ∈ L.filter (fun w => !goodWord w), w ∈ B) (h3 : ∀ w ∈ B, w.before args s = true) : ∀ w ∈ L, w.before args s = true := by
  intro w hw
  by_cases g : goodWord w = true
  · exact h1 w (List.mem_filter.mpr ⟨hw, g⟩)
  · refine h3 w (h2 w (List.mem_filter.mpr ⟨hw, ?_⟩))
    show (!goodWord w) = true
    cases hgw : goodWord w
    · rfl
    · exact absurd hgw g
theorem vx_c {args : Array Value} {s : State} {w : Cond} {B : List Cond} (h : w.before args s = true) (t : ∀ w ∈ B, w.before args s = true) : ∀ w' ∈ w :: B, w'.before args s = true := fun w' h' => (List.mem_cons.mp h').elim (fun e => by rw [e]; exact h) (t w')
theorem vx_n {args : Array Value} {s : State} : ∀ w ∈ ([] : List Cond), w.before args s = true := fun _ h => nomatch h
theorem vx_own {args : Array Value} {s : State} {L : List Cond} (h1 : ∀ w ∈ L.filter vx_no, w.before args s = true)
    (hU : (Cond.isRef (.static Bundle.tN "UNASSIGNED_STACK" Bundle.steD)).before args s = true) (hN : (Cond.isRef (.static Bundle.tN "SUPPRESSED_SENTINEL" Bundle.listD)).before args s = true)
    (lU : (Cond.laysStatic Bundle.tN "UNASSIGNED_STACK" Bundle.steD).before args s = true) (lN : (Cond.laysStatic Bundle.tN "SUPPRESSED_SENTINEL" Bundle.listD).before args s = true) : ∀ w ∈ L, w.before args s = true := by
  intro w hw
  by_cases e1 : w = .isRef (.static Bundle.tN "UNASSIGNED_STACK" Bundle.steD)
  · rw [e1]; exact hU
  · by_cases e2 : w = .isRef (.static Bundle.tN "SUPPRESSED_SENTINEL" Bundle.listD)
    · rw [e2]; exact hN
    · by_cases e3 : w = .laysStatic Bundle.tN "UNASSIGNED_STACK" Bundle.steD
      · rw [e3]; exact lU
      · by_cases e4 : w = .laysStatic Bundle.tN "SUPPRESSED_SENTINEL" Bundle.listD
        · rw [e4]; exact lN
        · exact h1 w (List.mem_filter.mpr ⟨hw, by unfold vx_no; rw [decide_eq_true e1, decide_eq_true e2, decide_eq_true e3, decide_eq_true e4]; rfl⟩)
/-- where a static field lies, its class's statics cell in H -/
def vx_L (C n d : String) (A : Nat → Prop) (U : State) (H : Heap) : Prop := ∃ (c : ClassId) (k : Class) (i : Nat) (f : Field) (a : Nat) (cell : Cell), U.vm.findClass C = some c ∧ U.fieldFound? C n d = some (c, k, i, f) ∧ f.isStatic = true ∧ k.statics = some a ∧ H[a]? = some cell ∧ cell.vm.isStatics = true ∧ cell.cls = c ∧ f.slot < cell.slots.size ∧ k.staticTypes[f.slot]? = some f.type ∧ ¬ A a
theorem vx_L.moved {C n d : String} {A : Nat → Prop} {u U : State} {H : Heap} (hvm : u.vm.Alike U.vm) (h : vx_L C n d A u H) : vx_L C n d A U H := by
  obtain ⟨c, k, i, f, a, cell, h1, h2, h3, h4, h5, h6, h7, h8, h9, h10⟩ := h
  obtain ⟨k', hi', he⟩ := State.fieldFound?_setVm hvm h2
  exact ⟨c, k', i, f, a, cell, by rw [hvm.findClass]; exact h1, hi', h3, by rw [he]; exact h4, h5, h6, h7, h8, by rw [he]; exact h9, h10⟩
theorem vx_L.kept {C n d : String} {A : Nat → Prop} {U : State} {H H1 : Heap} (h : vx_L C n d A U H) (hq : ∀ a : Nat, a < H.size → ¬ A a → H1[a]? = H[a]?) : vx_L C n d A U H1 := by
  obtain ⟨c, k, i, f, a, cell, h1, h2, h3, h4, h5, h6, h7, h8, h9, h10⟩ := h
  exact ⟨c, k, i, f, a, cell, h1, h2, h3, h4, by rw [hq a (Array.getElem?_eq_some_iff.mp h5).1 h10]; exact h5, h6, h7, h8, h9, h10⟩
theorem vx_L.narrow {C n d : String} {A B : Nat → Prop} {U : State} {H : Heap} (h : vx_L C n d A U H) (hAB : ∀ q, B q → A q) : vx_L C n d B U H := by
  obtain ⟨c, k, i, f, a, cell, h1, h2, h3, h4, h5, h6, h7, h8, h9, h10⟩ := h
  exact ⟨c, k, i, f, a, cell, h1, h2, h3, h4, h5, h6, h7, h8, h9, fun z => h10 (hAB _ z)⟩
theorem vx_L.word {C n d : String} {A : Nat → Prop} {s : State} {args : Array Value} (h : vx_L C n d A s s.heap) : (Cond.laysStatic C n d).before args s = true := by
  obtain ⟨c, k, i, f, a, cell, h1, h2, h3, h4, h5, h6, h7, h8, h9, -⟩ := h
  show (Cond.laysStatic C n d).holds args s none s [] = true
  exact Cond.laysStatic_of h1 h2 h3 h4 h5 h6 h7 h8 h9
/-- .. and what it holds: null or some reference -/
def vx_Zq (C n d : String) (A : Nat → Prop) (U : State) (H : Heap) : Prop := va_Zq C n d A U H ∧ vx_L C n d A U H
theorem vx_Zq.moved {C n d : String} {A : Nat → Prop} {u U : State} {H : Heap} (hvm : u.vm.Alike U.vm) (h : vx_Zq C n d A u H) : vx_Zq C n d A U H := ⟨va_Zq.moved hvm h.1, vx_L.moved hvm h.2⟩
theorem vx_Zq.kept {C n d : String} {A : Nat → Prop} {U : State} {H H1 : Heap} (h : vx_Zq C n d A U H) (hq : ∀ a : Nat, a < H.size → ¬ A a → H1[a]? = H[a]?) : vx_Zq C n d A U H1 := ⟨va_Zq.kept h.1 hq, vx_L.kept h.2 hq⟩
theorem vx_Zq.narrow {C n d : String} {A B : Nat → Prop} {U : State} {H : Heap} (h : vx_Zq C n d A U H) (hAB : ∀ q, B q → A q) : vx_Zq C n d B U H := ⟨va_Zq.narrow h.1 hAB, vx_L.narrow h.2 hAB⟩
theorem vx_Zqof {args : Array Value} {s : State} {C n d : String} {A : Nat → Prop} (hl : (Cond.laysStatic C n d).before args s = true) (hini : (Cond.initialized C).before args s = true) (h : (Cond.isRef (.static C n d)).before args s = true) (hA : ∀ a : Nat, a < s.heap.size → ¬ A a) : vx_Zq C n d A s s.heap := by
  refine ⟨va_Zqof hl hini h hA, ?_⟩
  obtain ⟨c, k, i, f, a, cell, h1, h2, h3, h4, h5, h6, h7, h8, h9⟩ := Cond.laysStatic_spec hl
  exact ⟨c, k, i, f, a, cell, h1, h2, h3, h4, h5, h6, h7, h8, h9, hA a (Array.getElem?_eq_some_iff.mp h5).1⟩
theorem vx_isRef {C n d : String} {v : Value} {A : Nat → Prop} {s : State} {args : Array Value} (h : va_Z C n d v A s s.heap) (hv : v.isRef = true) : (Cond.isRef (.static C n d)).before args s = true := by
  obtain ⟨cf, kf, fi, f, a, cell, h1, h2, h3, h4, h5, h6, h7, -⟩ := h
  have he : (Term.static C n d).eval args s none [] s = some v := by
    simp [Term.eval, State.fieldNamed?, h1, h2, h4, h5, h6, h7]
  simp only [Cond.before, Cond.holds, Cond.value, he]
  cases v <;> simp_all [Value.isRef]
theorem vx_isRefq {C n d : String} {A : Nat → Prop} {s : State} {args : Array Value} (h : va_Zq C n d A s s.heap) : (Cond.isRef (.static C n d)).before args s = true := by
  rcases h with h | ⟨t, h⟩
  · exact vx_isRef h rfl
  · exact vx_isRef h rfl
/-- the same frame, seen from here: as if the method were called anew in this heap -/
theorem vx_rebase {T : State} (X : Stand p l e R s m args below meth c T locs cells slots) {R' : Room} (hf : R'.frames ≤ R.frames) (hl : R'.locals ≤ R.locals) (hc : cells + R'.cells ≤ R.cells) (hs : slots + R'.slots ≤ R.slots) :
    Stand p l e R' ((T.setVm s.vm).setFrames (.invoking m args :: below)) m args below meth c T [] 0 0 := by
  have htop : (T.setVm s.vm).topJava?.isSome := X.here.top
  have hF : ((T.setVm s.vm).setFrames (.invoking m args :: below)).frames = .invoking m args :: below := State.frames_setFrames _ (State.cur_lt_of_top htop)
  obtain ⟨g₀, hg0⟩ := Option.isSome_iff_exists.mp htop
  obtain ⟨r, hr⟩ := State.topJava?_eq_some.mp hg0
  have hl9 : e.platform.stackLimits (T.setVm s.vm).me = e.platform.stackLimits s.me := X.limits
  have hb9 : (T.setVm s.vm).me.stackBytes = s.me.stackBytes := X.bytes
  refine ⟨X.admits, X.cas, X.clock, hF, ?_, X.hears, X.method, X.code, X.here, X.tail, X.warmed, ?_, ?_, ?_⟩
  · have h := X.room
    have hU : ((T.setVm s.vm).setFrames (.invoking m args :: below)).localsInUse = s.localsInUse := by
      rw [State.localsInUse_invoking hF (meth := meth) (c := c) X.method X.code, State.localsInUse_invoking X.frames X.method X.code]
    simp only [State.hasRoom, Bool.and_eq_true, decide_eq_true_eq] at h ⊢
    obtain ⟨⟨⟨⟨h1, h2, h3, h4, h5, h6⟩, h7⟩, h8⟩, h9⟩ := h
    rw [X.frames, List.length_cons] at h2 h3
    have q1 := X.heapSize
    have q2 := X.used
    simp only [hF, hU, List.length_cons, State.stackLimits_setFrames, State.stackBytes_setFrames, hl9, hb9]
    refine ⟨⟨⟨⟨by omega, by omega, by omega, by omega, by omega, h6⟩, ?_⟩, ?_⟩, X.book⟩
    · show T.heap.size + R'.cells ≤ e.platform.maxCells
      omega
    · show T.slotsUsed + R'.slots ≤ e.platform.maxSlots
      omega
  · rw [State.stackLimits_setFrames]; rfl
  · rw [State.stackBytes_setFrames]; rfl
  · refine ⟨?_, Nat.le_refl _, Nat.le_refl _, ?_, ?_, fun a c9 h9 => ⟨c9, h9, rfl, rfl, fun _ _ => rfl⟩⟩
    · obtain ⟨t, ht, -⟩ := State.frames_cons hr
      show T.setVm s.vm = { ((T.setVm s.vm).setFrames (.invoking m args :: below)).setFrames (T.setVm s.vm).frames with heap := T.heap, slotsUsed := T.slotsUsed }
      rw [State.setFrames_setFrames, State.setFrames_self ht]
      rfl
    · show T.slotsUsed = T.slotsUsed + ((T.heap.toList.drop T.heap.size).map (·.slots.size)).sum
      rw [List.drop_eq_nil_of_le (Nat.le_of_eq Array.length_toList)]
      rfl
    · show ((T.heap.toList.drop T.heap.size).map (·.slots.size)).sum ≤ 0
      rw [List.drop_eq_nil_of_le (Nat.le_of_eq Array.length_toList)]
      exact Nat.le_refl _
/-- 'throw new E()': new; dup; invokespecial; athrow -/
theorem vx_throw0 {cc : ByteArray} {pc : Nat} (hexec : p.tables.exec = Jvm.exec) (hb : c.code = cc) (hl : l.stackTraces = false) {own cls : String} {names : List String} {ik ic mc ms : Nat} {A : Nat → Prop}
    (hown : s.vm.findClass own = some m.cls) (hcls : Bundle.fit cls = true) (hnames : ∀ n ∈ names, Bundle.fit n = true)
    (hk : (Cond.classLink own ik cls).before args s = true) (hini : (Cond.initialized cls).before args s = true) (hat : ∀ w ∈ vx_at0 own ic cls names, w.before args s = true)
    (hgood : ∀ w ∈ Cond.classLink own ik cls :: Cond.initialized cls :: vx_at0 own ic cls names, vx_ot w = true)
    (hU : vx_Zq Bundle.tN "UNASSIGNED_STACK" Bundle.steD A s s.heap) (hN : vx_Zq Bundle.tN "SUPPRESSED_SENTINEL" Bundle.listD A s s.heap) (hS : va_S A s.heap H locs) (hsize : ls.size = c.maxLocals)
    (d0 : decode cc pc = .ok (.new ik, 3)) (d3 : decode cc (pc + 3) = .ok (.dup, 1)) (d4 : decode cc (pc + 4) = .ok (.invokespecial ic, 3)) (d7 : decode cc (pc + 7) = .ok (.athrow, 1))
    (hout : ∀ x ∈ c.exceptionTable.toList, covers x (pc + 7) = false)
    (hRframes : names.length + 3 < R.frames) (hRlocals : (rest.map fun v => v.category).sum + (13 * (names.length + 1) + 42) ≤ R.locals) (hRcells : cells + 1 ≤ R.cells) (hRslots : slots + 6 ≤ R.slots) (hlocks : meth.locks = false)
    (hx : ∀ t : State, s.vm.Alike t.vm → H.size ≤ t.heap.size → (∀ q : Nat, q < H.size → t.heap[q]? = H[q]?) → XC cls s t)
    (hf : ∀ z ∈ locs, free z.base) (hc : cells + 1 ≤ mc) (hs : slots + 6 ≤ ms) :
    W p l e R s m args below meth c H locs cells slots (vx_MQ below Qc XC args s mc ms free) (F0 m pc ls rest) := by
  intro T hT X
  have htr : e.platform.stackTraces = false := (show e.platform.stackTraces = l.stackTraces by rw [X.admits.platform]).trans hl
  have Y := vx_rebase X (R' := { frames := R.frames, locals := R.locals, cells := 1, slots := 6 }) (Nat.le_refl _) (Nat.le_refl _) hRcells hRslots
  obtain ⟨s', hA⟩ : ∃ z, z = (T.setVm s.vm).setFrames (.invoking m args :: below) := ⟨_, rfl⟩
  rw [← hA] at Y
  have hvm : s'.vm = s.vm := by rw [hA]; rfl
  have hhp : s'.heap = H := by rw [hA]; exact hT
  have hW0 : s.WarmedH s'.vm := by rw [hvm]; exact State.WarmedH.refl s
  have hat' : ∀ w ∈ vx_at0 own ic cls names, w.before args s' = true := fun w hw => vx_ot_at hW0 hvm.symm (hgood w (List.mem_cons_of_mem _ (List.mem_cons_of_mem _ hw))) (hat w hw)
  have hk' : (Cond.classLink own ik cls).before args s' = true := vx_ot_at hW0 hvm.symm (hgood _ List.mem_cons_self) hk
  have hini' : (Cond.initialized cls).before args s' = true := vx_ot_at hW0 hvm.symm (hgood _ (List.mem_cons_of_mem _ List.mem_cons_self)) hini
  have hU' : vx_Zq Bundle.tN "UNASSIGNED_STACK" Bundle.steD A s' s'.heap := by rw [hhp]; exact vx_Zq.moved hW0.alike (hU.kept hS.2.1)
  have hN' : vx_Zq Bundle.tN "SUPPRESSED_SENTINEL" Bundle.listD A s' s'.heap := by rw [hhp]; exact vx_Zq.moved hW0.alike (hN.kept hS.2.1)
  have h : ∀ w ∈ Bundle.ownAtoms0 own ic cls names, w.before args s' = true := vx_own hat' (vx_isRefq hU'.1) (vx_isRefq hN'.1) hU'.2.word hN'.2.word
  have hown' : s'.vm.findClass own = some m.cls := by rw [hvm]; exact hown
  have hins : (Cond.instantiable cls 6).before args s' = true := h _ (by simp [Bundle.ownAtoms0])
  obtain ⟨vm₁, cX, kX, hfX, hkX, -, -, X₁, st1⟩ := Y.newCold hexec (own := own) (C := cls) (index := ik) (n := 6) hown' hk' hins hini'
    (g := F0 m pc ls rest) rfl (by rw [hb]; exact d0) (Nat.le_refl _) (Nat.le_refl _)
  generalize hT1 : (T.setVm vm₁).pushCell { cls := cX, slots := kX.instanceTypes.map defaultValue, vm := .none } = T1 at X₁ st1
  have hcat : (Value.ref T.heap.size).category = 1 := rfl
  have hcellA : T1.heap[T.heap.size]? = some (freshCell cX kX) := by rw [← hT1]; exact State.heap_pushCell_size _ _
  have d3' : decode c.code (pc + 3) = .ok (.dup, 1) := by rw [hb]; exact d3
  obtain ⟨U, hsteps, hrun, hend, hW, hsame, ce, hce, hO⟩ := X₁.ctorThrow0 hexec htr (own := own) (cls := cls) (names := names) (ic := ic) hown' hcls hnames h (fun x hx => nomatch hx) hfX hkX hcellA (by rw [hhp, hT]; exact Nat.le_refl _)
    (g := { method := m, pc := pc + 4, locals := ls, stack := .ref T.heap.size :: .ref T.heap.size :: rest, locked := none }) rfl hsize rfl rfl (rest := rest) rfl
    (by rw [hb]; exact d4) (by rw [hb]; exact d7) hout hRframes (by simp only [List.map_cons, List.sum_cons, hcat]; omega) hlocks
  obtain ⟨f1, f2⟩ := vx_frame hsame
  rw [hhp] at f1 f2
  have hWs : s.WarmedH U.vm := State.WarmedH.trans hW0 hW
  have hcl : s.vm.findClass cls = some ce.cls := by
    have h9 := hO.cls
    rw [hvm] at h9
    exact h9
  have hall : s.sameButNew ({ U with vm := s.vm } : State) locs mc ms := by
    subst hA
    obtain ⟨e1, e2⟩ := hsame
    rw [State.setFrames_setFrames] at e1
    have h2 : (T.setVm s.vm).sameButNew ({ U with vm := s.vm } : State) [] (0 + 1) (0 + 6) := ⟨e1, e2⟩
    have h3 := X.same.trans h2
    rw [List.append_nil] at h3
    exact h3.mono hc hs
  refine ⟨U, ?_, .threw T.heap.size, hrun, hend, Or.inr ⟨T.heap.size, rfl, cls, ce, locs, hx U hWs.alike f1 (fun q hq => f2 q hq (fun z hz => nomatch hz)), hce, hO.vm, hcl, hWs, hall, hf⟩⟩
  refine st1 _ ?_
  show Steps p.tables e below (T1.setTop { method := m, pc := pc + 3, locals := ls, stack := .ref T.heap.size :: rest, locked := none }) _
  jvm_step X₁.here [X₁.here.top, hexec, d3', Value.category]
  exact hsteps
/-- 'throw new E("text")': new; dup; ldc; invokespecial; athrow -/
theorem vx_throwS {cc : ByteArray} {pc : Nat} (hexec : p.tables.exec = Jvm.exec) (hb : c.code = cc) (hl : l.stackTraces = false) {own cls text : String} {names : List String} {ik is ic mc ms sa : Nat} {A : Nat → Prop}
    (hown : s.vm.findClass own = some m.cls) (hcls : Bundle.fit cls = true) (hnames : ∀ n ∈ names, Bundle.fit n = true)
    (hk : (Cond.classLink own ik cls).before args s = true) (hini : (Cond.initialized cls).before args s = true) (hstr : vk_R own is text sa s) (hat : ∀ w ∈ vx_atS own ic cls names, w.before args s = true)
    (hgood : ∀ w ∈ Cond.classLink own ik cls :: Cond.initialized cls :: vx_atS own ic cls names, vx_ot w = true)
    (hU : vx_Zq Bundle.tN "UNASSIGNED_STACK" Bundle.steD A s s.heap) (hN : vx_Zq Bundle.tN "SUPPRESSED_SENTINEL" Bundle.listD A s s.heap) (hS : va_S A s.heap H locs) (hsize : ls.size = c.maxLocals)
    (d0 : decode cc pc = .ok (.new ik, 3)) (d3 : decode cc (pc + 3) = .ok (.dup, 1)) (d4 : decode cc (pc + 4) = .ok (.ldc is, 2)) (d6 : decode cc (pc + 6) = .ok (.invokespecial ic, 3)) (d9 : decode cc (pc + 9) = .ok (.athrow, 1))
    (hout : ∀ x ∈ c.exceptionTable.toList, covers x (pc + 9) = false)
    (hRframes : names.length + 3 < R.frames) (hRlocals : (rest.map fun v => v.category).sum + (13 * (names.length + 1) + 43) ≤ R.locals) (hRcells : cells + 1 ≤ R.cells) (hRslots : slots + 6 ≤ R.slots) (hlocks : meth.locks = false)
    (hx : ∀ t : State, s.vm.Alike t.vm → H.size ≤ t.heap.size → (∀ q : Nat, q < H.size → t.heap[q]? = H[q]?) → XC cls s t)
    (hf : ∀ z ∈ locs, free z.base) (hc : cells + 1 ≤ mc) (hs : slots + 6 ≤ ms) :
    W p l e R s m args below meth c H locs cells slots (vx_MQ below Qc XC args s mc ms free) (F0 m pc ls rest) := by
  intro T hT X
  have htr : e.platform.stackTraces = false := (show e.platform.stackTraces = l.stackTraces by rw [X.admits.platform]).trans hl
  have Y := vx_rebase X (R' := { frames := R.frames, locals := R.locals, cells := 1, slots := 6 }) (Nat.le_refl _) (Nat.le_refl _) hRcells hRslots
  obtain ⟨s', hA⟩ : ∃ z, z = (T.setVm s.vm).setFrames (.invoking m args :: below) := ⟨_, rfl⟩
  rw [← hA] at Y
  have hvm : s'.vm = s.vm := by rw [hA]; rfl
  have hhp : s'.heap = H := by rw [hA]; exact hT
  have hW0 : s.WarmedH s'.vm := by rw [hvm]; exact State.WarmedH.refl s
  have hat' : ∀ w ∈ vx_atS own ic cls names, w.before args s' = true := fun w hw => vx_ot_at hW0 hvm.symm (hgood w (List.mem_cons_of_mem _ (List.mem_cons_of_mem _ hw))) (hat w hw)
  have hk' : (Cond.classLink own ik cls).before args s' = true := vx_ot_at hW0 hvm.symm (hgood _ List.mem_cons_self) hk
  have hini' : (Cond.initialized cls).before args s' = true := vx_ot_at hW0 hvm.symm (hgood _ (List.mem_cons_of_mem _ List.mem_cons_self)) hini
  have hU' : vx_Zq Bundle.tN "UNASSIGNED_STACK" Bundle.steD A s' s'.heap := by rw [hhp]; exact vx_Zq.moved hW0.alike (hU.kept hS.2.1)
  have hN' : vx_Zq Bundle.tN "SUPPRESSED_SENTINEL" Bundle.listD A s' s'.heap := by rw [hhp]; exact vx_Zq.moved hW0.alike (hN.kept hS.2.1)
  have h : ∀ w ∈ Bundle.ownAtoms own ic cls names, w.before args s' = true := vx_own hat' (vx_isRefq hU'.1) (vx_isRefq hN'.1) hU'.2.word hN'.2.word
  have hown' : s'.vm.findClass own = some m.cls := by rw [hvm]; exact hown
  have hins : (Cond.instantiable cls 6).before args s' = true := h _ (by simp [Bundle.ownAtoms])
  obtain ⟨vm₁, cX, kX, hfX, hkX, -, -, X₁, st1⟩ := Y.newCold hexec (own := own) (C := cls) (index := ik) (n := 6) hown' hk' hins hini'
    (g := F0 m pc ls rest) rfl (by rw [hb]; exact d0) (Nat.le_refl _) (Nat.le_refl _)
  generalize hT1 : (T.setVm vm₁).pushCell { cls := cX, slots := kX.instanceTypes.map defaultValue, vm := .none } = T1 at X₁ st1
  have hcat : (Value.ref T.heap.size).category = 1 := rfl
  have hcellA : T1.heap[T.heap.size]? = some (freshCell cX kX) := by rw [← hT1]; exact State.heap_pushCell_size _ _
  have d3' : decode c.code (pc + 3) = .ok (.dup, 1) := by rw [hb]; exact d3
  have d4' : decode c.code (pc + 4) = .ok (.ldc is, 2) := by rw [hb]; exact d4
  have hstr' : vk_R own is text sa s' := vk_R.warm hW0 hstr
  obtain ⟨U, hsteps, hrun, hend, hW, hsame, ce, hce, hO⟩ := X₁.ctorThrowS hexec htr (own := own) (cls := cls) (names := names) (ic := ic) hown' hcls hnames h (fun x hx => nomatch hx) hfX hkX hcellA (by rw [hhp, hT]; exact Nat.le_refl _) (msg := .ref sa) rfl
    (g := { method := m, pc := pc + 6, locals := ls, stack := .ref sa :: .ref T.heap.size :: .ref T.heap.size :: rest, locked := none }) rfl hsize rfl rfl (rest := rest) rfl
    (by rw [hb]; exact d6) (by rw [hb]; exact d9) hout hRframes (by simp only [List.map_cons, List.sum_cons, hcat]; omega) hlocks
  obtain ⟨f1, f2⟩ := vx_frame hsame
  rw [hhp] at f1 f2
  have hWs : s.WarmedH U.vm := State.WarmedH.trans hW0 hW
  have hcl : s.vm.findClass cls = some ce.cls := by
    have h9 := hO.cls
    rw [hvm] at h9
    exact h9
  have hall : s.sameButNew ({ U with vm := s.vm } : State) locs mc ms := by
    subst hA
    obtain ⟨e1, e2⟩ := hsame
    rw [State.setFrames_setFrames] at e1
    have h2 : (T.setVm s.vm).sameButNew ({ U with vm := s.vm } : State) [] (0 + 1) (0 + 6) := ⟨e1, e2⟩
    have h3 := X.same.trans h2
    rw [List.append_nil] at h3
    exact h3.mono hc hs
  refine ⟨U, ?_, .threw T.heap.size, hrun, hend, Or.inr ⟨T.heap.size, rfl, cls, ce, locs, hx U hWs.alike f1 (fun q hq => f2 q hq (fun z hz => nomatch hz)), hce, hO.vm, hcl, hWs, hall, hf⟩⟩
  refine st1 _ ?_
  show Steps p.tables e below (T1.setTop { method := m, pc := pc + 3, locals := ls, stack := .ref T.heap.size :: rest, locked := none }) _
  jvm_step X₁.here [X₁.here.top, hexec, d3', Value.category]
  exact X₁.ldcString hexec (own := own) (text := text) (index := is) (a := sa) hown' hstr'.1 hstr'.2
    (g := { method := m, pc := pc + 4, locals := ls, stack := .ref T.heap.size :: .ref T.heap.size :: rest, locked := none }) rfl d4' _ hsteps
/-- 'throw new E("text")', the text by a wide index -/
theorem vx_throwSW {cc : ByteArray} {pc : Nat} (hexec : p.tables.exec = Jvm.exec) (hb : c.code = cc) (hl : l.stackTraces = false) {own cls text : String} {names : List String} {ik is ic mc ms sa : Nat} {A : Nat → Prop}
    (hown : s.vm.findClass own = some m.cls) (hcls : Bundle.fit cls = true) (hnames : ∀ n ∈ names, Bundle.fit n = true)
    (hk : (Cond.classLink own ik cls).before args s = true) (hini : (Cond.initialized cls).before args s = true) (hstr : vk_R own is text sa s) (hat : ∀ w ∈ vx_atS own ic cls names, w.before args s = true)
    (hgood : ∀ w ∈ Cond.classLink own ik cls :: Cond.initialized cls :: vx_atS own ic cls names, vx_ot w = true)
    (hU : vx_Zq Bundle.tN "UNASSIGNED_STACK" Bundle.steD A s s.heap) (hN : vx_Zq Bundle.tN "SUPPRESSED_SENTINEL" Bundle.listD A s s.heap) (hS : va_S A s.heap H locs) (hsize : ls.size = c.maxLocals)
    (d0 : decode cc pc = .ok (.new ik, 3)) (d3 : decode cc (pc + 3) = .ok (.dup, 1)) (d4 : decode cc (pc + 4) = .ok (.ldc_w is, 3)) (d7 : decode cc (pc + 7) = .ok (.invokespecial ic, 3)) (d10 : decode cc (pc + 10) = .ok (.athrow, 1))
    (hout : ∀ x ∈ c.exceptionTable.toList, covers x (pc + 10) = false)
    (hRframes : names.length + 3 < R.frames) (hRlocals : (rest.map fun v => v.category).sum + (13 * (names.length + 1) + 43) ≤ R.locals) (hRcells : cells + 1 ≤ R.cells) (hRslots : slots + 6 ≤ R.slots) (hlocks : meth.locks = false)
    (hx : ∀ t : State, s.vm.Alike t.vm → H.size ≤ t.heap.size → (∀ q : Nat, q < H.size → t.heap[q]? = H[q]?) → XC cls s t)
    (hf : ∀ z ∈ locs, free z.base) (hc : cells + 1 ≤ mc) (hs : slots + 6 ≤ ms) :
    W p l e R s m args below meth c H locs cells slots (vx_MQ below Qc XC args s mc ms free) (F0 m pc ls rest) := by
  intro T hT X
  have htr : e.platform.stackTraces = false := (show e.platform.stackTraces = l.stackTraces by rw [X.admits.platform]).trans hl
  have Y := vx_rebase X (R' := { frames := R.frames, locals := R.locals, cells := 1, slots := 6 }) (Nat.le_refl _) (Nat.le_refl _) hRcells hRslots
  obtain ⟨s', hA⟩ : ∃ z, z = (T.setVm s.vm).setFrames (.invoking m args :: below) := ⟨_, rfl⟩
  rw [← hA] at Y
  have hvm : s'.vm = s.vm := by rw [hA]; rfl
  have hhp : s'.heap = H := by rw [hA]; exact hT
  have hW0 : s.WarmedH s'.vm := by rw [hvm]; exact State.WarmedH.refl s
  have hat' : ∀ w ∈ vx_atS own ic cls names, w.before args s' = true := fun w hw => vx_ot_at hW0 hvm.symm (hgood w (List.mem_cons_of_mem _ (List.mem_cons_of_mem _ hw))) (hat w hw)
  have hk' : (Cond.classLink own ik cls).before args s' = true := vx_ot_at hW0 hvm.symm (hgood _ List.mem_cons_self) hk
  have hini' : (Cond.initialized cls).before args s' = true := vx_ot_at hW0 hvm.symm (hgood _ (List.mem_cons_of_mem _ List.mem_cons_self)) hini
  have hU' : vx_Zq Bundle.tN "UNASSIGNED_STACK" Bundle.steD A s' s'.heap := by rw [hhp]; exact vx_Zq.moved hW0.alike (hU.kept hS.2.1)
  have hN' : vx_Zq Bundle.tN "SUPPRESSED_SENTINEL" Bundle.listD A s' s'.heap := by rw [hhp]; exact vx_Zq.moved hW0.alike (hN.kept hS.2.1)
  have h : ∀ w ∈ Bundle.ownAtoms own ic cls names, w.before args s' = true := vx_own hat' (vx_isRefq hU'.1) (vx_isRefq hN'.1) hU'.2.word hN'.2.word
  have hown' : s'.vm.findClass own = some m.cls := by rw [hvm]; exact hown
  have hins : (Cond.instantiable cls 6).before args s' = true := h _ (by simp [Bundle.ownAtoms])
  obtain ⟨vm₁, cX, kX, hfX, hkX, -, -, X₁, st1⟩ := Y.newCold hexec (own := own) (C := cls) (index := ik) (n := 6) hown' hk' hins hini'
    (g := F0 m pc ls rest) rfl (by rw [hb]; exact d0) (Nat.le_refl _) (Nat.le_refl _)
  generalize hT1 : (T.setVm vm₁).pushCell { cls := cX, slots := kX.instanceTypes.map defaultValue, vm := .none } = T1 at X₁ st1
  have hcat : (Value.ref T.heap.size).category = 1 := rfl
  have hcellA : T1.heap[T.heap.size]? = some (freshCell cX kX) := by rw [← hT1]; exact State.heap_pushCell_size _ _
  have d3' : decode c.code (pc + 3) = .ok (.dup, 1) := by rw [hb]; exact d3
  have d4' : decode c.code (pc + 4) = .ok (.ldc_w is, 3) := by rw [hb]; exact d4
  have hstr' : vk_R own is text sa s' := vk_R.warm hW0 hstr
  obtain ⟨U, hsteps, hrun, hend, hW, hsame, ce, hce, hO⟩ := X₁.ctorThrowS hexec htr (own := own) (cls := cls) (names := names) (ic := ic) hown' hcls hnames h (fun x hx => nomatch hx) hfX hkX hcellA (by rw [hhp, hT]; exact Nat.le_refl _) (msg := .ref sa) rfl
    (g := { method := m, pc := pc + 7, locals := ls, stack := .ref sa :: .ref T.heap.size :: .ref T.heap.size :: rest, locked := none }) rfl hsize rfl rfl (rest := rest) rfl
    (by rw [hb]; exact d7) (by rw [hb]; exact d10) hout hRframes (by simp only [List.map_cons, List.sum_cons, hcat]; omega) hlocks
  obtain ⟨f1, f2⟩ := vx_frame hsame
  rw [hhp] at f1 f2
  have hWs : s.WarmedH U.vm := State.WarmedH.trans hW0 hW
  have hcl : s.vm.findClass cls = some ce.cls := by
    have h9 := hO.cls
    rw [hvm] at h9
    exact h9
  have hall : s.sameButNew ({ U with vm := s.vm } : State) locs mc ms := by
    subst hA
    obtain ⟨e1, e2⟩ := hsame
    rw [State.setFrames_setFrames] at e1
    have h2 : (T.setVm s.vm).sameButNew ({ U with vm := s.vm } : State) [] (0 + 1) (0 + 6) := ⟨e1, e2⟩
    have h3 := X.same.trans h2
    rw [List.append_nil] at h3
    exact h3.mono hc hs
  refine ⟨U, ?_, .threw T.heap.size, hrun, hend, Or.inr ⟨T.heap.size, rfl, cls, ce, locs, hx U hWs.alike f1 (fun q hq => f2 q hq (fun z hz => nomatch hz)), hce, hO.vm, hcl, hWs, hall, hf⟩⟩
  refine st1 _ ?_
  show Steps p.tables e below (T1.setTop { method := m, pc := pc + 3, locals := ls, stack := .ref T.heap.size :: rest, locked := none }) _
  jvm_step X₁.here [X₁.here.top, hexec, d3', Value.category]
  exact X₁.ldcStringW hexec (own := own) (text := text) (index := is) (a := sa) hown' hstr'.1 hstr'.2
    (g := { method := m, pc := pc + 4, locals := ls, stack := .ref T.heap.size :: .ref T.heap.size :: rest, locked := none }) rfl d4' _ hsteps
end Ends
section Bodies
variable {l : Launch}
theorem vx_ofW {y : MethodName} {ws ws' : List Cond} {rm : Room} {Pc : Array Value → State → Prop} {Qc : Array Value → State → Outcome → State → Prop} {XC : String → State → State → Prop} {mc ms : Nat} {free : Addr → Prop} {cc : ByteArray} {maxL : Nat} {ret : Option FieldType}
    (hy : plainName y.cls = true) (hw : ws = Cond.code y cc maxL ret :: ws')
    (body : ∀ p e s m args below meth c s₁, BodyLoose p l y (headSpec ws rm) cc maxL ret e s m args below meth c s₁ → c.maxLocals = maxL → (∀ x ∈ c.exceptionTable.toList, False) → Pc args s →
      W p l e (headSpec ws rm).room s m args below meth c s.heap [] 0 0 (vx_MQ below Qc XC args s mc ms free) (entryFrame m args maxL)) : vx_Met l y ws rm Pc Qc XC mc ms free := by
  refine MetFree.of_bodyS (code := cc) (maxLocals := maxL) (ret := ret) hy ?_ ?_
  · intro args s m h hn
    obtain ⟨meth, c, h1, h2, h3, h4, h5, h6, -, -⟩ := Cond.code_spec hn (atoms_spec (ws := ws) h _ (by rw [hw]; exact List.mem_cons_self))
    exact ⟨meth, c, h1, h2, h3, h4, h5, h6⟩
  · intro p e s m args below meth c s₁ B hml hP _
    have hh0 : s₁.heap = s.heap := by rw [B.state]; rfl
    have ht : ∀ x ∈ c.exceptionTable.toList, False := by
      obtain ⟨meth9, c9, h1, h2, -, -, -, -, h7, -⟩ := Cond.code_spec B.named (atoms_spec (ws := ws) B.pre _ (by rw [hw]; exact List.mem_cons_self))
      cases Option.some.inj (h1.symm.trans B.method)
      cases Option.some.inj (h2.symm.trans (Stand.of_body B).code)
      intro x hx
      rw [Array.isEmpty_iff.mp h7] at hx
      cases hx
    obtain ⟨t, a1, o, b1, b2, b3⟩ := body p e s m args below meth c s₁ B hml ht hP s₁ hh0 (Stand.of_body B)
    exact ⟨t, o, a1, b1, b2, b3⟩
/-- the table of a body with handlers -/
theorem vx_table {p : Program} {x y : MethodName} {S : Spec} {cc bytes : ByteArray} {maxL maxL' : Nat} {ret ret' : Option FieldType} {e : Env} {s s₁ : State} {m : MethodId} {args : Array Value} {below : List Frame} {meth : Method} {c : Code} {hh : List (Nat × Nat × Nat × Nat)}
    (B : BodyLoose p l y S cc maxL ret e s m args below meth c s₁) (h : (Cond.codeWith y bytes maxL' ret' hh).before args s = true) : c.exceptionTable.toList = tableOf hh := by
  obtain ⟨m9, meth9, c9, hn9, h1, h2, -, -, h6, -⟩ := Cond.codeWith_spec h
  cases Option.some.inj (hn9.symm.trans B.named)
  cases Option.some.inj (h1.symm.trans B.method)
  cases Option.some.inj (h2.symm.trans (Stand.of_body B).code)
  rw [← h6, table_eq]
end Bodies
end VXA
/-! ===== END ===== -/
/-! ===== BEGIN a static call of a method with an exception table ===== -/
section VXS
variable {p : Program} {l : Launch} {e : Env} {R : Room} {s : State} {m : MethodId} {args : Array Value} {below : List Frame} {meth : Method} {c : Code} {T : State} {H : Heap} {locs : List Loc} {cells slots : Nat}
abbrev vx_CSW (R : Room) (s : State) (args : Array Value) (own : String) (index : Nat) (y : MethodName) (bytes : ByteArray) (maxL : Nat) (ret : Option FieldType) (hh : List (Nat × Nat × Nat × Nat)) (ws : List Cond) (rm : Room) (mc ms n : Nat) : Prop :=
  (rm.cells = mc ∧ rm.slots = ms ∧ rm.frames + 1 ≤ R.frames ∧ 8 + (maxL + 11) + rm.locals ≤ R.locals ∧ (∀ w ∈ ws, ∀ (a' : Array Value) (U : State), s.WarmedH U.vm → w.before a' U = true) ∧ Cond.codeWith y bytes maxL ret hh ∈ ws) ∧
  (Cond.codeWith y bytes maxL ret hh).before args s = true ∧ (Cond.initialized y.cls).before args s = true ∧ (y.cls ≠ "java/lang/invoke/MethodHandle" ∧ y.cls ≠ "java/lang/invoke/VarHandle") ∧
  (∀ sig, parseMethodDescriptor y.desc = some sig → n = sig.parameters.length) ∧ (Cond.methodLink own index y).before args s = true ∧ (Cond.static y).before args s = true
theorem vx_cwSW {own : String} {index maxL mc ms : Nat} {y : MethodName} {bytes : ByteArray} {ret : Option FieldType} {hh : List (Nat × Nat × Nat × Nat)} {Ts ws ws' : List Cond} {rm : Room} (n : Nat) (ht : ∀ w ∈ Ts, w.before args s = true) (hT : GoodIn Ts (va_wsS own index y ws)) (hw : ws = Cond.codeWith y bytes maxL ret hh :: ws') (hrc : rm.cells = mc) (hrs : rm.slots = ms)
    (hd : y.cls ≠ "java/lang/invoke/MethodHandle" ∧ y.cls ≠ "java/lang/invoke/VarHandle" ∧ (parseMethodDescriptor y.desc).map (fun d => d.parameters.length) = some n) (hR : rm.frames + 1 ≤ R.frames ∧ 8 + (maxL + 11) + rm.locals ≤ R.locals) :
    vx_CSW R s args own index y bytes maxL ret hh ws rm mc ms n := by
  have ok : ∀ w ∈ va_wsS own index y ws, w.before args s = true := fun w h => ht w (hT w h).1
  have hG : GoodIn Ts ws := fun w h => hT w (by unfold va_wsS; exact List.mem_append_right _ h)
  have hc : Cond.codeWith y bytes maxL ret hh ∈ ws := by rw [hw]; exact List.mem_cons_self
  refine ⟨⟨hrc, hrs, hR.1, hR.2, pay_in ht hG, hc⟩, ht _ (hG _ hc).1, ok _ (by simp [va_wsS]), ⟨hd.1, hd.2.1⟩, fun sig h => ?_, ok _ (by simp [va_wsS]), ok _ (by simp [va_wsS])⟩
  have h2 := hd.2.2
  rw [h] at h2
  exact (Option.some.inj h2).symm
theorem vx_callSW (X : Stand p l e R s m args below meth c T locs cells slots) (hexec : p.tables.exec = Jvm.exec) {own : String} {index : Nat} {y : MethodName} {bytes : ByteArray} {maxL : Nat} {ret : Option FieldType} {hh : List (Nat × Nat × Nat × Nat)}
    (hown : s.vm.findClass own = some m.cls) (hlink : (Cond.methodLink own index y).before args s = true) (hstat : (Cond.static y).before args s = true) (hinit : (Cond.initialized y.cls).before args s = true)
    (hcode : (Cond.codeWith y bytes maxL ret hh).before args s = true) (hy : y.cls ≠ "java/lang/invoke/MethodHandle" ∧ y.cls ≠ "java/lang/invoke/VarHandle")
    {W9 : Nat} {Pre : Pt → Array Value → Prop} {Post : Pt → Array Value → Option Value → Pt → Prop} (hK : Back l R p e below s args y 3 W9 Pre Post)
    {g : JFrame} (hg : g.method = m) (hsize : g.locals.size = c.maxLocals) {argsL rest : List Value} (hlen : ∀ sig, parseMethodDescriptor y.desc = some sig → argsL.length = sig.parameters.length)
    (hstack : g.stack = argsL.reverse ++ rest) (hW : 2 * g.monitorRoom + (rest.map fun v => v.category).sum ≤ W9) (hdg : decode c.code g.pc = .ok (.invokestatic index, 3))
    (hpre : ∀ vm₁, s.WarmedH vm₁ → Pre ⟨T.setVm vm₁, locs, cells, slots⟩ argsL.toArray) :
    ∃ (v : Option Value) (vm₁ : Vm) (B : Pt), s.WarmedH vm₁ ∧ Stand p l e R s m args below meth c B.U B.locs B.cells B.slots ∧ Post ⟨T.setVm vm₁, locs, cells, slots⟩ argsL.toArray v B ∧
      ∀ target, Steps p.tables e below (B.U.setTop { g with pc := g.pc + 3, stack := v.toList ++ rest }) target → Steps p.tables e below (T.setTop g) target := by
  obtain ⟨mk, methM, cM, hnamed, hmethM, -, -, -, -, -, -, hsigM⟩ := Cond.codeWith_spec hcode
  have hstatic : methM.isStatic = true := Cond.static_spec hnamed hmethM hstat
  obtain ⟨kP, hkP, -⟩ := className_of_methodNamed hnamed
  have hinitP : kP.init = .initialized := Cond.initialized_spec (findClass_of_methodNamed hnamed) hkP hinit
  obtain ⟨vm₁, X₁, hstep₁⟩ := X.invokestatic hexec hown hlink hnamed hmethM hstatic hkP hinitP hy (g := g) hg (argsL := argsL) (rest := rest) (hlen _ hsigM) hstack hdg
  obtain ⟨v, B, X', hpost, hsteps⟩ := hK m meth c ⟨T.setVm vm₁, locs, cells, slots⟩ { g with stack := rest } (.invokestatic index) mk argsL.toArray X₁ hg hsize hdg hW (X₁.named hnamed) (hpre vm₁ X₁.warmed)
  exact ⟨v, vm₁, B, X₁.warmed, X', hpost, fun target h => hstep₁ _ fun acts => by rw [doInvoke_state]; exact hsteps.trans h⟩
theorem vx_runSW {y : MethodName} {bytes cc : ByteArray} {maxL nL mc ms n index : Nat} {ret : Option FieldType} {hh : List (Nat × Nat × Nat × Nat)} {ws : List Cond} {rm : Room} {Pc : Array Value → State → Prop} {Qc : Array Value → State → Outcome → State → Prop} {free : Addr → Prop} {Ts : List Cond} {own : String} {As rest : List Value} {g : JFrame}
    (S : CallFix p m c cc nL s args Ts own) (hM : Met l y ws rm Pc Qc mc ms free) (cw : vx_CSW R s args own index y bytes maxL ret hh ws rm mc ms n) (hp : PreS s H Pc As)
    (hg : g.method = m) (hn : As.length = n) (hsize : g.locals.size = nL) (hstack : g.stack = As.reverse ++ rest) (hW : 2 * g.monitorRoom + (rest.map fun v => v.category).sum ≤ 8) (hdg : decode cc g.pc = .ok (.invokestatic index, 3)) (hf : cells + mc ≤ R.cells ∧ slots + ms ≤ R.slots) :
    va_Run p l e R s m args below meth c H locs cells slots mc ms g rest (Qc As.toArray) (free) := by
  obtain ⟨⟨hrc, hrs, hfr, hlo, hws, hcw⟩, hcode, hini, hy, hlen, hl, hstt⟩ := cw
  have hK : Back l R p e below s args y 3 8 (PreOf R mc ms Pc) (PostOf Qc mc ms free) := va_backW (hh := hh) (bytes := bytes) (maxL := maxL) (ret := ret) hM hp.1 hrc hrs hfr hlo hws hcw (fun a' U hW => word_at hW (Or.inl (by first | rfl | simp [Cond.onTables, Cond.keeps, Cond.steady])) hini)
  obtain ⟨hx, hb, hml, ho, -⟩ := S
  intro T hT X
  obtain ⟨v, vm₁, ⟨U', l2, c2, s2⟩, hW₁, X', ⟨g', mk, t, L, e1, e2, hq, h1, hL, h2, h3⟩, st⟩ := vx_callSW X hx (hh := hh) (bytes := bytes) (maxL := maxL) (ret := ret) ho hl hstt hini hcode hy hK hg (hsize.trans hml.symm) (argsL := As) (rest := rest) (fun sig h => hn.trans (hlen sig h)) hstack hW (by rw [hb]; exact hdg)
    (fun vm₁ hW₁ => ⟨hf.1, hf.2, hp.2 (T.setVm vm₁) hT hW₁⟩)
  dsimp only [Pt.U, Pt.locs, Pt.cells, Pt.slots] at X' e1 e2 h1 h2 h3 st
  subst h1; subst h2; subst h3
  exact ⟨v, (T.setVm vm₁).calling g' mk As.toArray, t, U', L, hT, X', hL, e1, e2, hq, st⟩
/-- not caught here, past rows that name other classes: it goes on to the caller -/
theorem vx_outP {p : Program} {l : Launch} {e : Env} {R : Room} {s : State} {m : MethodId} {args : Array Value} {below : List Frame} {meth : Method} {c : Code} {H : Heap} {locs : List Loc} {cells slots : Nat} {free : Addr → Prop} {ls : Array Slot} {rest : List Value} {Qc : Array Value → State → Outcome → State → Prop} {XC : String → State → State → Prop}
    {pc : Nat} {own E : String} {ce : Cell} {q : Addr} {mc ms : Nat} (hown : s.vm.findClass own = some m.cls) (hlocks : meth.locks = false)
    (hpass : ∀ z ∈ c.exceptionTable.toList, covers z pc = false ∨ (z.catchType ≠ 0 ∧ ∃ nm : String, (Cond.classLink own z.catchType nm).before args s = true ∧ va_Nc E nm s)) (hcell : H[q]? = some ce) (hv : ce.vm = .none) (hcl : s.vm.findClass E = some ce.cls)
    (hx : ∀ t : State, t.heap = H → s.vm.Alike t.vm → XC E s t) (hf : ∀ z ∈ locs, free z.base) (hc : cells ≤ mc) (hs : slots ≤ ms) :
    vx_W p l e R s m args below meth c H locs cells slots (vx_MQ below Qc XC args s mc ms free) (F0 m pc ls rest) q := by
  intro T hT X
  have hpl : e.platform.magicAccessors = ({} : Platform).magicAccessors := by rw [X.admits.platform]
  obtain ⟨vm', hW', X', st⟩ := X.outThrough hlocks q (g := F0 m pc ls rest) rfl rfl rfl (cell := ce) (by rw [hT]; exact hcell) (by rw [hv]; rfl)
    (by obtain ⟨k9, h9, -⟩ := Vm.findClass_spec hcl; exact ⟨k9, h9⟩) (fun z hz => by
      rcases hpass z hz with h | ⟨hz0, nm, hl1, hn1⟩
      · exact Or.inl h
      · obtain ⟨c6, hc6, hcl6⟩ := Cond.classLink_spec hown hl1 e.platform hpl
        obtain ⟨a8, b8, h1, h2, h3⟩ := hn1
        cases Option.some.inj (h1.symm.trans hcl)
        cases Option.some.inj (h2.symm.trans hc6)
        exact Or.inr ⟨hz0, _, hcl6, h3⟩)
  obtain ⟨g₀, hfr⟩ := X'.frames_eq
  have hcell9 : ((T.setVm vm').setFrames (.throwing q :: below)).heap[q]? = some ce := by
    show T.heap[q]? = some ce
    rw [hT]; exact hcell
  have hend : Ended ((T.setVm vm').setFrames (.throwing q :: below)) below (.threw q) := State.frames_setFrames _ (State.cur_lt_of_frames hfr)
  refine ⟨(T.setVm vm').setFrames (.throwing q :: below), ?_, .threw q, X'.here.running, hend, Or.inr ⟨q, rfl, E, ce, locs, hx _ hT (X'.ends _).1.alike, hcell9, hv, hcl, (X'.ends _).1, (X'.ends _).2.mono hc hs, hf⟩⟩
  rw [X.pushThrowing_eq]
  exact st
/-- a thing of a world lies in the heap -/
theorem vx_lt {D : va_G} {cl : List vw_C} {ws : va_W} {H1 : Heap} (h : va_P D cl ws H1) {k : Nat} {q : Nat × va_E} (hk : ws[k]? = some q) : q.1 < H1.size := (h k q hk).lt
end VXS
/-! ===== END ===== -/
/-! ===== BEGIN methods with a table of their own: called by a name, returning or throwing ===== -/
section VXH
/-! vx_backW, vx_callVX, vx_callSX, vx_callVW, vx_runVW, vx_runVX, vx_runSX, vx_ofWH follow the same proofs as their sisters above (Free/Laws.lean, Shelf42/LK1.lean); vx_outP calls Shelf42/NT130.lean (outThrough). -/
section
variable {l : Launch} {R : Room} {p : Program} {e : Env} {below : List Frame} {s : State} {sargs : Array Value} {y : MethodName} {len W9 : Nat}
theorem vx_backW {ws : List Cond} {rm : Room} {Pc : Array Value → State → Prop} {Qc : Array Value → State → Outcome → State → Prop} {XC : String → State → State → Prop} {mc ms : Nat} {free : Addr → Prop} {bytes : ByteArray} {maxL : Nat} {ret : Option FieldType} {hh : List (Nat × Nat × Nat × Nat)}
    (hM : vx_Met l y ws rm Pc Qc XC mc ms free) (hblind : FrameBlind Pc) (hrc : rm.cells = mc) (hrs : rm.slots = ms)
    (hframes : rm.frames + 1 ≤ R.frames) (hlocals : W9 + (maxL + 11) + rm.locals ≤ R.locals)
    (hws : ∀ w ∈ ws, ∀ a' U, s.WarmedH U.vm → w.before a' U = true) (hcode : Cond.codeWith y bytes maxL ret hh ∈ ws) (hinit : ∀ a' U, s.WarmedH U.vm → (Cond.initialized y.cls).before a' U = true) :
    vx_Back l R p e below s sargs y len W9 (PreOf R mc ms Pc) (PostOf Qc mc ms free) (vx_Post XC mc ms free) := by
  intro m meth c A g ig mk a X hg hsize hdg hW hn hp
  have h1 : (headSpec ws rm).pre.before a A.U = true := atoms_intro fun w hw => hws w hw _ _ X.warmed
  have h2 : (Cond.codeWith y bytes maxL ret hh).before a A.U = true := hws _ hcode _ _ X.warmed
  have h3 : (Cond.initialized y.cls).before a A.U = true := hinit _ _ X.warmed
  have h4 : A.cells + (headSpec ws rm).room.cells ≤ R.cells := by rw [show (headSpec ws rm).room.cells = mc from hrc]; exact hp.1
  have h5 : A.slots + (headSpec ws rm).room.slots ≤ R.slots := by rw [show (headSpec ws rm).room.slots = ms from hrs]; exact hp.2.1
  have hPc : Pc a (A.U.calling g mk a) := hblind _ _ _ _ hp.2.2
  obtain ⟨U, Ls, c0, s0⟩ := A
  dsimp only [Pt.U, Pt.locs, Pt.cells, Pt.slots] at h1 h2 h3 h4 h5 X hn hPc ⊢
  obtain ⟨m9, methY, cY, hn9, hmY, hcY, -, hlY, -⟩ := Cond.codeWith_spec h2
  cases Option.some.inj (hn9.symm.trans hn)
  obtain ⟨kY, hkY, -⟩ := className_of_methodNamed hn
  have hinitY : kY.init = .initialized := Cond.initialized_spec (findClass_of_methodNamed hn) hkY h3
  have h : At U g.method c below := by rw [hg]; exact X.here
  have hlocals9 : W9 + (maxL + 11) + (headSpec ws rm).room.locals ≤ R.locals := hlocals
  have happ : (headSpec ws rm).appliesLoose y e.platform (U.calling g mk a) = true :=
    Spec.appliesLoose_calling (g := g) h hdg hn hkY hinitY
      (X.room_calling (g := g) (R' := (headSpec ws rm).room) hsize hmY hcY hframes (by rw [hlY]; omega) h4 h5) h1
  obtain ⟨mid, hmid⟩ := h.above
  have hfr : (U.setTop g).frames = (.java g :: mid) ++ below := by rw [State.frames_setTop' g h.top, hmid]; rfl
  obtain ⟨o, s₂, hsteps, -, hend, hq⟩ := Steps.callFree hM p X.admits X.cas X.clock (acts := []) hfr happ hPc trivial
  have hq' : vx_Q Qc XC mc ms free a (U.calling g mk a) o s₂ := hq
  rw [State.frames_setTop' g h.top] at hend
  obtain ⟨g₀, hg0⟩ := Option.isSome_iff_exists.mp h.top
  obtain ⟨r, hr⟩ := State.topJava?_eq_some.mp hg0
  have hr' : (({ U with heap := s₂.heap, slotsUsed := s₂.slotsUsed } : State).setVm s₂.vm).frames = .java g₀ :: r := hr
  rcases hq' with ⟨hqc, L, hfe, hL⟩ | ⟨q, rfl, E, ce, L, hx, hce, hcv, hcl, hW₂, hsm, hL⟩
  · obtain ⟨⟨v, rfl⟩, hW₂, e2, q2, q3, q4, q5, q6⟩ := id hfe
    have e3 : s₂ = ({ (U.calling g mk a).setFrames s₂.frames with heap := s₂.heap, slotsUsed := s₂.slotsUsed } : State).setVm s₂.vm := by
      have : s₂ = ({ s₂ with vm := (U.calling g mk a).vm } : State).setVm s₂.vm := rfl
      rw [e2] at this
      exact this
    obtain ⟨c₂, i₂, len₂, hc₂, hd₂, hf₂⟩ := hend
    have hW' : U.WarmedH s₂.vm := hW₂
    have hcc : c₂ = c := by
      have h1 : s₂.code? g.method = U.code? g.method := by
        rw [State.code?_eq, State.code?_eq, hW'.alike.method?]
      exact Option.some.inj (hc₂.symm.trans (h1.trans h.code))
    subst hcc
    have hlen : len₂ = len := by rw [hdg] at hd₂; cases hd₂; rfl
    subst hlen
    have hs₂ : s₂ = (({ U with heap := s₂.heap, slotsUsed := s₂.slotsUsed } : State).setVm s₂.vm).setTop { g with pc := g.pc + len₂, stack := v.toList ++ g.stack } := by
      refine e3.trans ?_
      rw [hf₂, State.calling_eq h.top, State.setFrames_setFrames, State.setTop_of_frames _ hr', hr]
      rfl
    have hsame : U.sameButNew ({ U with heap := s₂.heap, slotsUsed := s₂.slotsUsed } : State) L mc ms := by
      refine ⟨?_, q2, q3, q4, q5, q6⟩
      obtain ⟨t, ht, -⟩ := State.frames_cons hr
      show ({ U with heap := s₂.heap, slotsUsed := s₂.slotsUsed } : State) = { U.setFrames U.frames with heap := s₂.heap, slotsUsed := s₂.slotsUsed }
      rw [State.setFrames_self ht]
    subst hg
    refine Or.inl ⟨v, ⟨(({ U with heap := s₂.heap, slotsUsed := s₂.slotsUsed } : State).setVm s₂.vm), Ls ++ L, c0 + mc, s0 + ms⟩,
      ⟨X.admits, X.cas, X.clock, X.frames, X.room, X.hears, X.method, X.code, (X.here.setHeapUsed s₂.heap s₂.slotsUsed).setVm hW'.alike, X.tail, State.WarmedH.trans X.warmed hW', X.limits, X.bytes, X.same.trans (hsame.setVm s.vm)⟩,
      ⟨g, mk, s₂, L, rfl, rfl, hqc, rfl, hL, rfl, rfl⟩, ?_⟩
    show Steps p.tables e below _ ((({ U with heap := s₂.heap, slotsUsed := s₂.slotsUsed } : State).setVm s₂.vm).setTop { g with pc := g.pc + len₂, stack := v.toList ++ g.stack })
    rw [← hs₂]
    exact hsteps
  · obtain ⟨e2, q2, q3, q4, q5, q6⟩ := id hsm
    have e3 : s₂ = ({ (U.calling g mk a).setFrames s₂.frames with heap := s₂.heap, slotsUsed := s₂.slotsUsed } : State).setVm s₂.vm := by
      have : s₂ = ({ s₂ with vm := (U.calling g mk a).vm } : State).setVm s₂.vm := rfl
      rw [e2] at this
      exact this
    have hf₂ : s₂.frames = .throwing q :: .java g :: U.frames.tail := hend
    have hW' : U.WarmedH s₂.vm := hW₂
    have hs₂ : s₂ = ((({ U with heap := s₂.heap, slotsUsed := s₂.slotsUsed } : State).setVm s₂.vm).setTop g).pushFrame (.throwing q) := by
      refine e3.trans ?_
      rw [hf₂, State.calling_eq h.top, State.setFrames_setFrames, State.pushFrame, State.frames_setTop _ hr', State.setTop_of_frames _ hr', State.setFrames_setFrames, hr]
      rfl
    have hsame : U.sameButNew ({ U with heap := s₂.heap, slotsUsed := s₂.slotsUsed } : State) L mc ms := by
      refine ⟨?_, q2, q3, q4, q5, q6⟩
      obtain ⟨t, ht, -⟩ := State.frames_cons hr
      show ({ U with heap := s₂.heap, slotsUsed := s₂.slotsUsed } : State) = { U.setFrames U.frames with heap := s₂.heap, slotsUsed := s₂.slotsUsed }
      rw [State.setFrames_self ht]
    subst hg
    refine Or.inr ⟨q, ⟨(({ U with heap := s₂.heap, slotsUsed := s₂.slotsUsed } : State).setVm s₂.vm), Ls ++ L, c0 + mc, s0 + ms⟩,
      ⟨X.admits, X.cas, X.clock, X.frames, X.room, X.hears, X.method, X.code, (X.here.setHeapUsed s₂.heap s₂.slotsUsed).setVm hW'.alike, X.tail, State.WarmedH.trans X.warmed hW', X.limits, X.bytes, X.same.trans (hsame.setVm s.vm)⟩,
      ⟨g, mk, s₂, L, E, ce, rfl, rfl, hx, hce, hcv, hcl, rfl, hL, rfl, rfl⟩, ?_⟩
    show Steps p.tables e below _ (((({ U with heap := s₂.heap, slotsUsed := s₂.slotsUsed } : State).setVm s₂.vm).setTop g).pushFrame (.throwing q))
    rw [← hs₂]
    exact hsteps
end
variable {p : Program} {l : Launch} {e : Env} {R : Room} {s : State} {m : MethodId} {args : Array Value} {below : List Frame} {meth : Method} {c : Code} {T : State} {H : Heap} {locs : List Loc} {cells slots : Nat}
theorem vx_callVX (X : Stand p l e R s m args below meth c T locs cells slots) (hexec : p.tables.exec = Jvm.exec) {own C : String} {index : Nat} {y : MethodName} {bytes : ByteArray} {maxL : Nat} {ret : Option FieldType} {hh : List (Nat × Nat × Nat × Nat)}
    (hown : s.vm.findClass own = some m.cls) (hlink : (Cond.methodLink own index y).before args s = true) (hinst : (Cond.instanceMethod y).before args s = true) (hsel : (Cond.selects C y y).before args s = true)
    (hcode : (Cond.codeWith y bytes maxL ret hh).before args s = true) (hy : y.cls ≠ "java/lang/invoke/MethodHandle" ∧ y.cls ≠ "java/lang/invoke/VarHandle")
    {W9 : Nat} {Pre : Pt → Array Value → Prop} {Post : Pt → Array Value → Option Value → Pt → Prop} {PostX : Pt → Array Value → Addr → Pt → Prop} (hK : vx_Back l R p e below s args y 3 W9 Pre Post PostX)
    {b : Addr} {cellB : Cell} (hcell : T.heap[b]? = some cellB) (hobj : cellB.vm.isStatics = false) (hcls : s.vm.findClass C = some cellB.cls)
    {g : JFrame} (hg : g.method = m) (hsize : g.locals.size = c.maxLocals) {argsL rest : List Value} (hlen : ∀ sig, parseMethodDescriptor y.desc = some sig → argsL.length = sig.parameters.length)
    (hstack : g.stack = argsL.reverse ++ .ref b :: rest) (hW : 2 * g.monitorRoom + (rest.map fun v => v.category).sum ≤ W9) (hdg : decode c.code g.pc = .ok (.invokevirtual index, 3))
    (hpre : ∀ vm₁, s.WarmedH vm₁ → Pre ⟨T.setVm vm₁, locs, cells, slots⟩ (Value.ref b :: argsL).toArray) :
    (∃ (v : Option Value) (vm₁ : Vm) (B : Pt), s.WarmedH vm₁ ∧ Stand p l e R s m args below meth c B.U B.locs B.cells B.slots ∧ Post ⟨T.setVm vm₁, locs, cells, slots⟩ (Value.ref b :: argsL).toArray v B ∧
      ∀ target, Steps p.tables e below (B.U.setTop { g with pc := g.pc + 3, stack := v.toList ++ rest }) target → Steps p.tables e below (T.setTop g) target) ∨
    (∃ (q : Addr) (vm₁ : Vm) (B : Pt), s.WarmedH vm₁ ∧ Stand p l e R s m args below meth c B.U B.locs B.cells B.slots ∧ PostX ⟨T.setVm vm₁, locs, cells, slots⟩ (Value.ref b :: argsL).toArray q B ∧
      Steps p.tables e below (T.setTop g) ((B.U.setTop { g with stack := rest }).pushFrame (.throwing q))) := by
  obtain ⟨mk, methM, hnamed, hmethM, hstM, habM⟩ := Cond.instanceMethod_spec hinst
  obtain ⟨m8, methM', cM, hn8, hmethM', -, -, -, -, -, -, hsigM⟩ := Cond.codeWith_spec hcode
  cases Option.some.inj (hn8.symm.trans hnamed)
  cases hmethM.symm.trans hmethM'
  obtain ⟨c2, r2, m2, q1, q2, q3, q4, kP, hkP, hkPi⟩ := Cond.selects_spec hsel
  cases hcls.symm.trans q1
  cases (State.methodFound?_of_named hnamed hy).symm.trans q2
  cases hnamed.symm.trans q3
  have hselP : selectMethod e.platform s.vm cellB.cls mk = .method mk := by rw [Launch.admits_selectMethod X.admits]; exact q4
  obtain ⟨vm₁, X₁, hstep₁⟩ := X.invokevirtual hexec hown hlink hnamed hmethM hstM hkP hkPi hy (a := b) (cell := cellB) hcell
    (fun z h => by rw [h] at hobj; cases hobj) hselP hmethM habM hkP hkPi (g := g) hg (argsL := argsL) (rest := rest) (hlen _ hsigM) hstack hdg
  rcases hK m meth c ⟨T.setVm vm₁, locs, cells, slots⟩ { g with stack := rest } (.invokevirtual index) mk (Value.ref b :: argsL).toArray X₁ hg hsize hdg hW (X₁.named hnamed) (hpre vm₁ X₁.warmed) with ⟨v, B, X', hpost, hsteps⟩ | ⟨q, B, X', hpost, hsteps⟩
  · exact Or.inl ⟨v, vm₁, B, X₁.warmed, X', hpost, fun target h => hstep₁ _ fun acts => by rw [doInvoke_state]; exact hsteps.trans h⟩
  · exact Or.inr ⟨q, vm₁, B, X₁.warmed, X', hpost, hstep₁ _ fun acts => by rw [doInvoke_state]; exact hsteps⟩
theorem vx_callSX (X : Stand p l e R s m args below meth c T locs cells slots) (hexec : p.tables.exec = Jvm.exec) {own : String} {index : Nat} {y : MethodName} {bytes : ByteArray} {maxL : Nat} {ret : Option FieldType} {hh : List (Nat × Nat × Nat × Nat)}
    (hown : s.vm.findClass own = some m.cls) (hlink : (Cond.methodLink own index y).before args s = true) (hstat : (Cond.static y).before args s = true) (hinit : (Cond.initialized y.cls).before args s = true)
    (hcode : (Cond.codeWith y bytes maxL ret hh).before args s = true) (hy : y.cls ≠ "java/lang/invoke/MethodHandle" ∧ y.cls ≠ "java/lang/invoke/VarHandle")
    {W9 : Nat} {Pre : Pt → Array Value → Prop} {Post : Pt → Array Value → Option Value → Pt → Prop} {PostX : Pt → Array Value → Addr → Pt → Prop} (hK : vx_Back l R p e below s args y 3 W9 Pre Post PostX)
    {g : JFrame} (hg : g.method = m) (hsize : g.locals.size = c.maxLocals) {argsL rest : List Value} (hlen : ∀ sig, parseMethodDescriptor y.desc = some sig → argsL.length = sig.parameters.length)
    (hstack : g.stack = argsL.reverse ++ rest) (hW : 2 * g.monitorRoom + (rest.map fun v => v.category).sum ≤ W9) (hdg : decode c.code g.pc = .ok (.invokestatic index, 3))
    (hpre : ∀ vm₁, s.WarmedH vm₁ → Pre ⟨T.setVm vm₁, locs, cells, slots⟩ argsL.toArray) :
    (∃ (v : Option Value) (vm₁ : Vm) (B : Pt), s.WarmedH vm₁ ∧ Stand p l e R s m args below meth c B.U B.locs B.cells B.slots ∧ Post ⟨T.setVm vm₁, locs, cells, slots⟩ argsL.toArray v B ∧
      ∀ target, Steps p.tables e below (B.U.setTop { g with pc := g.pc + 3, stack := v.toList ++ rest }) target → Steps p.tables e below (T.setTop g) target) ∨
    (∃ (q : Addr) (vm₁ : Vm) (B : Pt), s.WarmedH vm₁ ∧ Stand p l e R s m args below meth c B.U B.locs B.cells B.slots ∧ PostX ⟨T.setVm vm₁, locs, cells, slots⟩ argsL.toArray q B ∧
      Steps p.tables e below (T.setTop g) ((B.U.setTop { g with stack := rest }).pushFrame (.throwing q))) := by
  obtain ⟨mk, methM, cM, hnamed, hmethM, -, -, -, -, -, -, hsigM⟩ := Cond.codeWith_spec hcode
  have hstatic : methM.isStatic = true := Cond.static_spec hnamed hmethM hstat
  obtain ⟨kP, hkP, -⟩ := className_of_methodNamed hnamed
  have hinitP : kP.init = .initialized := Cond.initialized_spec (findClass_of_methodNamed hnamed) hkP hinit
  obtain ⟨vm₁, X₁, hstep₁⟩ := X.invokestatic hexec hown hlink hnamed hmethM hstatic hkP hinitP hy (g := g) hg (argsL := argsL) (rest := rest) (hlen _ hsigM) hstack hdg
  rcases hK m meth c ⟨T.setVm vm₁, locs, cells, slots⟩ { g with stack := rest } (.invokestatic index) mk argsL.toArray X₁ hg hsize hdg hW (X₁.named hnamed) (hpre vm₁ X₁.warmed) with ⟨v, B, X', hpost, hsteps⟩ | ⟨q, B, X', hpost, hsteps⟩
  · exact Or.inl ⟨v, vm₁, B, X₁.warmed, X', hpost, fun target h => hstep₁ _ fun acts => by rw [doInvoke_state]; exact hsteps.trans h⟩
  · exact Or.inr ⟨q, vm₁, B, X₁.warmed, X', hpost, hstep₁ _ fun acts => by rw [doInvoke_state]; exact hsteps⟩
theorem vx_callVW (X : Stand p l e R s m args below meth c T locs cells slots) (hexec : p.tables.exec = Jvm.exec) {own C : String} {index : Nat} {y : MethodName} {bytes : ByteArray} {maxL : Nat} {ret : Option FieldType} {hh : List (Nat × Nat × Nat × Nat)}
    (hown : s.vm.findClass own = some m.cls) (hlink : (Cond.methodLink own index y).before args s = true) (hinst : (Cond.instanceMethod y).before args s = true) (hsel : (Cond.selects C y y).before args s = true)
    (hcode : (Cond.codeWith y bytes maxL ret hh).before args s = true) (hy : y.cls ≠ "java/lang/invoke/MethodHandle" ∧ y.cls ≠ "java/lang/invoke/VarHandle")
    {W9 : Nat} {Pre : Pt → Array Value → Prop} {Post : Pt → Array Value → Option Value → Pt → Prop} (hK : Back l R p e below s args y 3 W9 Pre Post)
    {b : Addr} {cellB : Cell} (hcell : T.heap[b]? = some cellB) (hobj : cellB.vm.isStatics = false) (hcls : s.vm.findClass C = some cellB.cls)
    {g : JFrame} (hg : g.method = m) (hsize : g.locals.size = c.maxLocals) {argsL rest : List Value} (hlen : ∀ sig, parseMethodDescriptor y.desc = some sig → argsL.length = sig.parameters.length)
    (hstack : g.stack = argsL.reverse ++ .ref b :: rest) (hW : 2 * g.monitorRoom + (rest.map fun v => v.category).sum ≤ W9) (hdg : decode c.code g.pc = .ok (.invokevirtual index, 3))
    (hpre : ∀ vm₁, s.WarmedH vm₁ → Pre ⟨T.setVm vm₁, locs, cells, slots⟩ (Value.ref b :: argsL).toArray) :
    ∃ (v : Option Value) (vm₁ : Vm) (B : Pt), s.WarmedH vm₁ ∧ Stand p l e R s m args below meth c B.U B.locs B.cells B.slots ∧ Post ⟨T.setVm vm₁, locs, cells, slots⟩ (Value.ref b :: argsL).toArray v B ∧
      ∀ target, Steps p.tables e below (B.U.setTop { g with pc := g.pc + 3, stack := v.toList ++ rest }) target → Steps p.tables e below (T.setTop g) target := by
  obtain ⟨mk, methM, hnamed, hmethM, hstM, habM⟩ := Cond.instanceMethod_spec hinst
  obtain ⟨m8, methM', cM, hn8, hmethM', -, -, -, -, -, -, hsigM⟩ := Cond.codeWith_spec hcode
  cases Option.some.inj (hn8.symm.trans hnamed)
  cases hmethM.symm.trans hmethM'
  obtain ⟨c2, r2, m2, q1, q2, q3, q4, kP, hkP, hkPi⟩ := Cond.selects_spec hsel
  cases hcls.symm.trans q1
  cases (State.methodFound?_of_named hnamed hy).symm.trans q2
  cases hnamed.symm.trans q3
  have hselP : selectMethod e.platform s.vm cellB.cls mk = .method mk := by rw [Launch.admits_selectMethod X.admits]; exact q4
  obtain ⟨vm₁, X₁, hstep₁⟩ := X.invokevirtual hexec hown hlink hnamed hmethM hstM hkP hkPi hy (a := b) (cell := cellB) hcell
    (fun z h => by rw [h] at hobj; cases hobj) hselP hmethM habM hkP hkPi (g := g) hg (argsL := argsL) (rest := rest) (hlen _ hsigM) hstack hdg
  obtain ⟨v, B, X', hpost, hsteps⟩ := hK m meth c ⟨T.setVm vm₁, locs, cells, slots⟩ { g with stack := rest } (.invokevirtual index) mk (Value.ref b :: argsL).toArray X₁ hg hsize hdg hW (X₁.named hnamed) (hpre vm₁ X₁.warmed)
  exact ⟨v, vm₁, B, X₁.warmed, X', hpost, fun target h => hstep₁ _ fun acts => by rw [doInvoke_state]; exact hsteps.trans h⟩
abbrev vx_CVW (R : Room) (s : State) (args : Array Value) (own C : String) (index : Nat) (y : MethodName) (bytes : ByteArray) (maxL : Nat) (ret : Option FieldType) (hh : List (Nat × Nat × Nat × Nat)) (ws : List Cond) (rm : Room) (mc ms n : Nat) : Prop :=
  (rm.cells = mc ∧ rm.slots = ms ∧ rm.frames + 1 ≤ R.frames ∧ 8 + (maxL + 11) + rm.locals ≤ R.locals ∧ (∀ w ∈ ws, ∀ (a' : Array Value) (U : State), s.WarmedH U.vm → w.before a' U = true) ∧ Cond.codeWith y bytes maxL ret hh ∈ ws) ∧
  (Cond.codeWith y bytes maxL ret hh).before args s = true ∧ (Cond.initialized y.cls).before args s = true ∧ (y.cls ≠ "java/lang/invoke/MethodHandle" ∧ y.cls ≠ "java/lang/invoke/VarHandle") ∧
  (∀ sig, parseMethodDescriptor y.desc = some sig → n = sig.parameters.length) ∧ (Cond.methodLink own index y).before args s = true ∧ (Cond.instanceMethod y).before args s = true ∧ (Cond.selects C y y).before args s = true
theorem vx_cwVW {own C : String} {index maxL mc ms : Nat} {y : MethodName} {bytes : ByteArray} {ret : Option FieldType} {hh : List (Nat × Nat × Nat × Nat)} {Ts ws ws' : List Cond} {rm : Room} (n : Nat) (ht : ∀ w ∈ Ts, w.before args s = true) (hT : GoodIn Ts (wsV own index C y ws)) (hw : ws = Cond.codeWith y bytes maxL ret hh :: ws') (hrc : rm.cells = mc) (hrs : rm.slots = ms)
    (hd : y.cls = C ∧ y.cls ≠ "java/lang/invoke/MethodHandle" ∧ y.cls ≠ "java/lang/invoke/VarHandle" ∧ (parseMethodDescriptor y.desc).map (fun d => d.parameters.length) = some n) (hR : rm.frames + 1 ≤ R.frames ∧ 8 + (maxL + 11) + rm.locals ≤ R.locals) :
    vx_CVW R s args own C index y bytes maxL ret hh ws rm mc ms n := by
  obtain ⟨hC, hd⟩ := hd
  subst hC
  have ok : ∀ w ∈ wsV own index y.cls y ws, w.before args s = true := fun w h => ht w (hT w h).1
  have hG : GoodIn Ts ws := fun w h => hT w (by unfold wsV; exact List.mem_append_right _ h)
  have hc : Cond.codeWith y bytes maxL ret hh ∈ ws := by rw [hw]; exact List.mem_cons_self
  refine ⟨⟨hrc, hrs, hR.1, hR.2, pay_in ht hG, hc⟩, ht _ (hG _ hc).1, ok _ (by simp [wsV]), ⟨hd.1, hd.2.1⟩, fun sig h => ?_, ok _ (by simp [wsV]), ok _ (by simp [wsV]), ok _ (by simp [wsV])⟩
  have h2 := hd.2.2
  rw [h] at h2
  exact (Option.some.inj h2).symm
theorem vx_runVW {y : MethodName} {bytes cc : ByteArray} {maxL nL mc ms n index : Nat} {ret : Option FieldType} {hh : List (Nat × Nat × Nat × Nat)} {ws : List Cond} {rm : Room} {Pc : Array Value → State → Prop} {Qc : Array Value → State → Outcome → State → Prop} {free : Addr → Prop} {Ts : List Cond} {own C : String} {b : Addr} {As rest : List Value} {g : JFrame}
    (S : CallFix p m c cc nL s args Ts own) (hM : Met l y ws rm Pc Qc mc ms free) (cw : vx_CVW R s args own C index y bytes maxL ret hh ws rm mc ms n) (hp : PreV s H C b Pc As)
    (hg : g.method = m) (hn : As.length = n) (hsize : g.locals.size = nL) (hstack : g.stack = As.reverse ++ .ref b :: rest) (hW : 2 * g.monitorRoom + (rest.map fun v => v.category).sum ≤ 8) (hdg : decode cc g.pc = .ok (.invokevirtual index, 3)) (hf : cells + mc ≤ R.cells ∧ slots + ms ≤ R.slots) :
    va_Run p l e R s m args below meth c H locs cells slots mc ms g rest (Qc (Value.ref b :: As).toArray) free := by
  obtain ⟨⟨hrc, hrs, hfr, hlo, hws, hcw⟩, hcode, hini, hy, hlen, hl, hin, hse⟩ := cw
  have hK : Back l R p e below s args y 3 8 (PreOf R mc ms Pc) (PostOf Qc mc ms free) := va_backW (hh := hh) (bytes := bytes) (maxL := maxL) (ret := ret) hM hp.1 hrc hrs hfr hlo hws hcw (fun a' U hW => word_at hW (Or.inl (by first | rfl | simp [Cond.onTables, Cond.keeps, Cond.steady])) hini)
  obtain ⟨hx, hb, hml, ho, -⟩ := S
  obtain ⟨-, ⟨cellB, hcB, hoB, hclB⟩, hPc⟩ := hp
  intro T hT X
  obtain ⟨v, vm₁, ⟨U', l2, c2, s2⟩, hW₁, X', ⟨g', mk, t, L, e1, e2, hq, h1, hL, h2, h3⟩, st⟩ := vx_callVW X hx (C := C) (hh := hh) (bytes := bytes) (maxL := maxL) (ret := ret) ho hl hin hse hcode hy hK (by rw [hT]; exact hcB) hoB hclB hg (hsize.trans hml.symm) (argsL := As) (rest := rest) (fun sig h => hn.trans (hlen sig h)) hstack hW (by rw [hb]; exact hdg)
    (fun vm₁ hW₁ => ⟨hf.1, hf.2, hPc (T.setVm vm₁) hT hW₁⟩)
  dsimp only [Pt.U, Pt.locs, Pt.cells, Pt.slots] at X' e1 e2 h1 h2 h3 st
  subst h1; subst h2; subst h3
  exact ⟨v, (T.setVm vm₁).calling g' mk (Value.ref b :: As).toArray, t, U', L, hT, X', hL, e1, e2, hq, st⟩
section
variable {y : MethodName} {bytes cc : ByteArray} {maxL nL mc ms n index : Nat} {ret : Option FieldType} {ws : List Cond} {rm : Room} {Pc : Array Value → State → Prop} {Qc : Array Value → State → Outcome → State → Prop} {XC : String → State → State → Prop} {free : Addr → Prop} {Ts : List Cond} {own C : String} {b : Addr} {As rest : List Value} {g : JFrame}
theorem vx_runVX {hh : List (Nat × Nat × Nat × Nat)} (S : CallFix p m c cc nL s args Ts own) (hM : vx_Met l y ws rm Pc Qc XC mc ms free) (cw : vx_CVW R s args own C index y bytes maxL ret hh ws rm mc ms n) (hp : PreV s H C b Pc As)
    (hg : g.method = m) (hn : As.length = n) (hsize : g.locals.size = nL) (hstack : g.stack = As.reverse ++ .ref b :: rest) (hW : 2 * g.monitorRoom + (rest.map fun v => v.category).sum ≤ 8) (hdg : decode cc g.pc = .ok (.invokevirtual index, 3)) (hf : cells + mc ≤ R.cells ∧ slots + ms ≤ R.slots) :
    vx_Run p l e R s m args below meth c H locs cells slots mc ms g rest (Qc (Value.ref b :: As).toArray) XC free := by
  obtain ⟨⟨hrc, hrs, hfr, hlo, hws, hcw⟩, hcode, hini, hy, hlen, hl, hin, hse⟩ := cw
  have hK : vx_Back l R p e below s args y 3 8 (PreOf R mc ms Pc) (PostOf Qc mc ms free) (vx_Post XC mc ms free) := vx_backW (hh := hh) (bytes := bytes) (maxL := maxL) (ret := ret) hM hp.1 hrc hrs hfr hlo hws hcw (fun a' U hW => word_at hW (Or.inl (by first | rfl | simp [Cond.onTables, Cond.keeps, Cond.steady])) hini)
  obtain ⟨hx, hb, hml, ho, -⟩ := S
  obtain ⟨-, ⟨cellB, hcB, hoB, hclB⟩, hPc⟩ := hp
  intro T hT X
  rcases vx_callVX X hx (C := C) (hh := hh) (bytes := bytes) (maxL := maxL) (ret := ret) ho hl hin hse hcode hy hK (by rw [hT]; exact hcB) hoB hclB hg (hsize.trans hml.symm) (argsL := As) (rest := rest) (fun sig h => hn.trans (hlen sig h)) hstack hW (by rw [hb]; exact hdg)
    (fun vm₁ hW₁ => ⟨hf.1, hf.2, hPc (T.setVm vm₁) hT hW₁⟩) with ⟨v, vm₁, ⟨U', l2, c2, s2⟩, hW₁, X', ⟨g', mk, t, L, e1, e2, hq, h1, hL, h2, h3⟩, st⟩ | ⟨q, vm₁, ⟨U', l2, c2, s2⟩, hW₁, X', ⟨g', mk, t, L, E, ce, e1, e2, hq, hce, hcv, hcl, h1, hL, h2, h3⟩, st⟩
  · dsimp only [Pt.U, Pt.locs, Pt.cells, Pt.slots] at X' e1 e2 h1 h2 h3 st
    subst h1; subst h2; subst h3
    exact Or.inl ⟨v, (T.setVm vm₁).calling g' mk (Value.ref b :: As).toArray, t, U', L, hT, X', hL, e1, e2, hq, st⟩
  · dsimp only [Pt.U, Pt.locs, Pt.cells, Pt.slots] at X' e1 e2 h1 h2 h3 st hcl
    subst h1; subst h2; subst h3
    exact Or.inr ⟨q, (T.setVm vm₁).calling g' mk (Value.ref b :: As).toArray, t, U', L, E, ce, hT, X', hL, e1, e2, hq, hce, hcv, vx_cls hW₁ hcl, st⟩
theorem vx_runSX {hh : List (Nat × Nat × Nat × Nat)} (S : CallFix p m c cc nL s args Ts own) (hM : vx_Met l y ws rm Pc Qc XC mc ms free) (cw : vx_CSW R s args own index y bytes maxL ret hh ws rm mc ms n) (hp : PreS s H Pc As)
    (hg : g.method = m) (hn : As.length = n) (hsize : g.locals.size = nL) (hstack : g.stack = As.reverse ++ rest) (hW : 2 * g.monitorRoom + (rest.map fun v => v.category).sum ≤ 8) (hdg : decode cc g.pc = .ok (.invokestatic index, 3)) (hf : cells + mc ≤ R.cells ∧ slots + ms ≤ R.slots) :
    vx_Run p l e R s m args below meth c H locs cells slots mc ms g rest (Qc As.toArray) XC free := by
  obtain ⟨⟨hrc, hrs, hfr, hlo, hws, hcw⟩, hcode, hini, hy, hlen, hl, hstt⟩ := cw
  have hK : vx_Back l R p e below s args y 3 8 (PreOf R mc ms Pc) (PostOf Qc mc ms free) (vx_Post XC mc ms free) := vx_backW (hh := hh) (bytes := bytes) (maxL := maxL) (ret := ret) hM hp.1 hrc hrs hfr hlo hws hcw (fun a' U hW => word_at hW (Or.inl (by first | rfl | simp [Cond.onTables, Cond.keeps, Cond.steady])) hini)
  obtain ⟨hx, hb, hml, ho, -⟩ := S
  intro T hT X
  rcases vx_callSX X hx (hh := hh) (bytes := bytes) (maxL := maxL) (ret := ret) ho hl hstt hini hcode hy hK hg (hsize.trans hml.symm) (argsL := As) (rest := rest) (fun sig h => hn.trans (hlen sig h)) hstack hW (by rw [hb]; exact hdg)
    (fun vm₁ hW₁ => ⟨hf.1, hf.2, hp.2 (T.setVm vm₁) hT hW₁⟩) with ⟨v, vm₁, ⟨U', l2, c2, s2⟩, hW₁, X', ⟨g', mk, t, L, e1, e2, hq, h1, hL, h2, h3⟩, st⟩ | ⟨q, vm₁, ⟨U', l2, c2, s2⟩, hW₁, X', ⟨g', mk, t, L, E, ce, e1, e2, hq, hce, hcv, hcl, h1, hL, h2, h3⟩, st⟩
  · dsimp only [Pt.U, Pt.locs, Pt.cells, Pt.slots] at X' e1 e2 h1 h2 h3 st
    subst h1; subst h2; subst h3
    exact Or.inl ⟨v, (T.setVm vm₁).calling g' mk As.toArray, t, U', L, hT, X', hL, e1, e2, hq, st⟩
  · dsimp only [Pt.U, Pt.locs, Pt.cells, Pt.slots] at X' e1 e2 h1 h2 h3 st hcl
    subst h1; subst h2; subst h3
    exact Or.inr ⟨q, (T.setVm vm₁).calling g' mk As.toArray, t, U', L, E, ce, hT, X', hL, e1, e2, hq, hce, hcv, vx_cls hW₁ hcl, st⟩
end
end VXH
theorem vx_ofWH {l : Launch} {y : MethodName} {ws ws' : List Cond} {rm : Room} {Pc : Array Value → State → Prop} {Qc : Array Value → State → Outcome → State → Prop} {XC : String → State → State → Prop} {mc ms : Nat} {free : Addr → Prop} {cc : ByteArray} {maxL : Nat} {ret : Option FieldType} {hh : List (Nat × Nat × Nat × Nat)}
    (hy : plainName y.cls = true) (hw : ws = Cond.codeWith y cc maxL ret hh :: ws')
    (body : ∀ p e s m args below meth c s₁, BodyLoose p l y (headSpec ws rm) cc maxL ret e s m args below meth c s₁ → c.maxLocals = maxL → Pc args s →
      W p l e (headSpec ws rm).room s m args below meth c s.heap [] 0 0 (vx_MQ below Qc XC args s mc ms free) (entryFrame m args maxL)) : vx_Met l y ws rm Pc Qc XC mc ms free := by
  refine MetFree.of_bodyS (code := cc) (maxLocals := maxL) (ret := ret) hy ?_ ?_
  · intro args s m h hn
    obtain ⟨m9, meth, c, hn9, h1, h2, h3, h4, -, h5, h6, -⟩ := Cond.codeWith_spec (atoms_spec (ws := ws) h _ (by rw [hw]; exact List.mem_cons_self))
    cases hn.symm.trans hn9
    exact ⟨meth, c, h1, h2, h3, h4, h5, h6⟩
  · intro p e s m args below meth c s₁ B hml hP _
    have hh0 : s₁.heap = s.heap := by rw [B.state]; rfl
    obtain ⟨t, a1, o, b1, b2, b3⟩ := body p e s m args below meth c s₁ B hml hP s₁ hh0 (Stand.of_body B)
    exact ⟨t, o, a1, b1, b2, b3⟩
/-! ===== END ===== -/

/-! ===== BEGIN printed: names, fields, word lists, decode rows ===== -/
def RX0 : String := "TimeNet$Knowledge"
def TX0 : u_T := fun k => match k with
  | 0 => ("TimeNet$Knowledge", "clockNode", "[I", true)
  | 1 => ("TimeNet$Knowledge", "clockRank", "[I", true)
  | 2 => ("TimeNet$Knowledge", "stepsAway", "[I", true)
  | _ => ("TimeNet$Knowledge", "knownFrom", "[I", true)
def tyX0 : Nat → FieldType := fun k => match k with
  | 0 => .array .int
  | 1 => .array .int
  | 2 => .array .int
  | _ => .array .int
abbrev wsX00 : List Cond := u_ws RX0 TX0 4
theorem nmX0 : ∀ a, a < 4 → ∀ b, b < 4 → a ≠ b → (TX0 a).2.1 ≠ (TX0 b).2.1 := by decide +kernel
theorem tyX0_ok : ∀ k, k < 4 → parseFieldDescriptor (TX0 k).2.2.1 = some (tyX0 k) := by decide +kernel
abbrev cX0_init : ByteArray := prog_2_method_1_code
def yX0_init : MethodName := ⟨RX0, "<init>", "()V"⟩
abbrev cX0_start : ByteArray := prog_2_method_2_code
def yX0_start : MethodName := ⟨RX0, "start", "(II)V"⟩
abbrev cX0_copyFrom : ByteArray := prog_2_method_3_code
def yX0_copyFrom : MethodName := ⟨RX0, "copyFrom", "(LTimeNet$Knowledge;)V"⟩
abbrev cX0_reaches : ByteArray := prog_2_method_4_code
def yX0_reaches : MethodName := ⟨RX0, "reaches", "(II)Z"⟩
abbrev cX0_takeIfBetter : ByteArray := prog_2_method_5_code
def yX0_takeIfBetter : MethodName := ⟨RX0, "takeIfBetter", "(IILTimeNet$Knowledge;)V"⟩
def RX1 : String := "TimeNet$Wires"
def TX1 : u_T := fun k => match k with
  | 0 => ("TimeNet$Wires", "laid", "[Z", true)
  | 1 => ("TimeNet$Wires", "delay", "[I", true)
  | 2 => ("TimeNet$Wires", "told", "[I", true)
  | _ => ("TimeNet$Wires", "count", "I", false)
def tyX1 : Nat → FieldType := fun k => match k with
  | 0 => .array .boolean
  | 1 => .array .int
  | 2 => .array .int
  | _ => .int
abbrev wsX10 : List Cond := u_ws RX1 TX1 4
theorem nmX1 : ∀ a, a < 4 → ∀ b, b < 4 → a ≠ b → (TX1 a).2.1 ≠ (TX1 b).2.1 := by decide +kernel
theorem tyX1_ok : ∀ k, k < 4 → parseFieldDescriptor (TX1 k).2.2.1 = some (tyX1 k) := by decide +kernel
abbrev cX1_init : ByteArray := prog_3_method_1_code
def yX1_init : MethodName := ⟨RX1, "<init>", "()V"⟩
abbrev cX1_place : ByteArray := prog_3_method_2_code
def yX1_place : MethodName := ⟨RX1, "place", "(II)I"⟩
abbrev cX1_areLinked : ByteArray := prog_3_method_3_code
def yX1_areLinked : MethodName := ⟨RX1, "areLinked", "(II)Z"⟩
abbrev cX1_lay : ByteArray := prog_3_method_4_code
def yX1_lay : MethodName := ⟨RX1, "lay", "(IIII)V"⟩
abbrev cX1_remove : ByteArray := prog_3_method_5_code
def yX1_remove : MethodName := ⟨RX1, "remove", "(II)V"⟩
abbrev cX1_noteDifference : ByteArray := prog_3_method_6_code
def yX1_noteDifference : MethodName := ⟨RX1, "noteDifference", "(III)I"⟩
abbrev cX1_errorFrom : ByteArray := prog_3_method_7_code
def yX1_errorFrom : MethodName := ⟨RX1, "errorFrom", "(II)I"⟩
def RX2 : String := "TimeNet"
def TX2 : u_T := fun k => match k with
  | 0 => ("TimeNet", "domainOf", "[I", true)
  | 1 => ("TimeNet", "gradeOf", "[I", true)
  | 2 => ("TimeNet", "varianceOf", "[I", true)
  | 3 => ("TimeNet", "driftOf", "[I", true)
  | 4 => ("TimeNet", "offsetOf", "[J", true)
  | 5 => ("TimeNet", "rateOf", "[J", true)
  | 6 => ("TimeNet", "wires", "LTimeNet$Wires;", true)
  | 7 => ("TimeNet", "known", "LTimeNet$Knowledge;", true)
  | 8 => ("TimeNet", "heard", "LTimeNet$Knowledge;", true)
  | 9 => ("TimeNet", "distanceTo", "[I", true)
  | 10 => ("TimeNet", "nodeCount", "I", false)
  | _ => ("TimeNet", "tickCount", "I", false)
def tyX2 : Nat → FieldType := fun k => match k with
  | 0 => .array .int
  | 1 => .array .int
  | 2 => .array .int
  | 3 => .array .int
  | 4 => .array .long
  | 5 => .array .long
  | 6 => .object "TimeNet$Wires"
  | 7 => .object "TimeNet$Knowledge"
  | 8 => .object "TimeNet$Knowledge"
  | 9 => .array .int
  | 10 => .int
  | _ => .int
abbrev wsX20 : List Cond := u_ws RX2 TX2 12
theorem nmX2 : ∀ a, a < 12 → ∀ b, b < 12 → a ≠ b → (TX2 a).2.1 ≠ (TX2 b).2.1 := by decide +kernel
theorem tyX2_ok : ∀ k, k < 12 → parseFieldDescriptor (TX2 k).2.2.1 = some (tyX2 k) := by decide +kernel
abbrev cX2_init : ByteArray := prog_1_method_1_code
def yX2_init : MethodName := ⟨RX2, "<init>", "()V"⟩
abbrev cX2_add : ByteArray := prog_1_method_2_code
def yX2_add : MethodName := ⟨RX2, "add", "(IIII)I"⟩
abbrev cX2_setClock : ByteArray := prog_1_method_3_code
def yX2_setClock : MethodName := ⟨RX2, "setClock", "(III)I"⟩
abbrev cX2_setDrift : ByteArray := prog_1_method_4_code
def yX2_setDrift : MethodName := ⟨RX2, "setDrift", "(II)I"⟩
abbrev cX2_setOffset : ByteArray := prog_1_method_5_code
def yX2_setOffset : MethodName := ⟨RX2, "setOffset", "(II)J"⟩
abbrev cX2_link : ByteArray := prog_1_method_6_code
def yX2_link : MethodName := ⟨RX2, "link", "(IIII)I"⟩
abbrev cX2_cut : ByteArray := prog_1_method_7_code
def yX2_cut : MethodName := ⟨RX2, "cut", "(II)I"⟩
abbrev cX2_tell : ByteArray := prog_1_method_8_code
def yX2_tell : MethodName := ⟨RX2, "tell", "(III)I"⟩
abbrev cX2_tick : ByteArray := prog_1_method_9_code
def yX2_tick : MethodName := ⟨RX2, "tick", "(I)I"⟩
abbrev cX2_nodes : ByteArray := prog_1_method_10_code
def yX2_nodes : MethodName := ⟨RX2, "nodes", "()I"⟩
abbrev cX2_links : ByteArray := prog_1_method_11_code
def yX2_links : MethodName := ⟨RX2, "links", "()I"⟩
abbrev cX2_best : ByteArray := prog_1_method_12_code
def yX2_best : MethodName := ⟨RX2, "best", "(I)I"⟩
abbrev cX2_steps : ByteArray := prog_1_method_13_code
def yX2_steps : MethodName := ⟨RX2, "steps", "(I)I"⟩
abbrev cX2_parent : ByteArray := prog_1_method_14_code
def yX2_parent : MethodName := ⟨RX2, "parent", "(I)I"⟩
abbrev cX2_port : ByteArray := prog_1_method_15_code
def yX2_port : MethodName := ⟨RX2, "port", "(II)I"⟩
abbrev cX2_bestByGraph : ByteArray := prog_1_method_16_code
def yX2_bestByGraph : MethodName := ⟨RX2, "bestByGraph", "(I)I"⟩
abbrev cX2_stepsByGraph : ByteArray := prog_1_method_17_code
def yX2_stepsByGraph : MethodName := ⟨RX2, "stepsByGraph", "(I)I"⟩
abbrev cX2_isSettled : ByteArray := prog_1_method_18_code
def yX2_isSettled : MethodName := ⟨RX2, "isSettled", "()Z"⟩
abbrev cX2_offset : ByteArray := prog_1_method_19_code
def yX2_offset : MethodName := ⟨RX2, "offset", "(I)J"⟩
abbrev cX2_rate : ByteArray := prog_1_method_20_code
def yX2_rate : MethodName := ⟨RX2, "rate", "(I)J"⟩
abbrev cX2_spread : ByteArray := prog_1_method_21_code
def yX2_spread : MethodName := ⟨RX2, "spread", "(I)J"⟩
abbrev cX2_isNode : ByteArray := prog_1_method_22_code
def yX2_isNode : MethodName := ⟨RX2, "isNode", "(I)Z"⟩
abbrev cX2_requireNode : ByteArray := prog_1_method_23_code
def yX2_requireNode : MethodName := ⟨RX2, "requireNode", "(I)V"⟩
abbrev cX2_requireWithin : ByteArray := prog_1_method_24_code
def yX2_requireWithin : MethodName := ⟨RX2, "requireWithin", "(III)V"⟩
abbrev cX2_requireLinked : ByteArray := prog_1_method_25_code
def yX2_requireLinked : MethodName := ⟨RX2, "requireLinked", "(II)V"⟩
abbrev cX2_areNeighbours : ByteArray := prog_1_method_26_code
def yX2_areNeighbours : MethodName := ⟨RX2, "areNeighbours", "(II)Z"⟩
abbrev cX2_rankOf : ByteArray := prog_1_method_27_code
def yX2_rankOf : MethodName := ⟨RX2, "rankOf", "(I)I"⟩
abbrev cX2_knowOnlyItself : ByteArray := prog_1_method_28_code
def yX2_knowOnlyItself : MethodName := ⟨RX2, "knowOnlyItself", "(I)V"⟩
abbrev cX2_forgetParent : ByteArray := prog_1_method_29_code
def yX2_forgetParent : MethodName := ⟨RX2, "forgetParent", "(II)V"⟩
abbrev cX2_announce : ByteArray := prog_1_method_30_code
def yX2_announce : MethodName := ⟨RX2, "announce", "()V"⟩
abbrev cX2_listen : ByteArray := prog_1_method_31_code
def yX2_listen : MethodName := ⟨RX2, "listen", "(I)V"⟩
abbrev cX2_isNearer : ByteArray := prog_1_method_32_code
def yX2_isNearer : MethodName := ⟨RX2, "isNearer", "(II)Z"⟩
abbrev cX2_measureDistances : ByteArray := prog_1_method_33_code
def yX2_measureDistances : MethodName := ⟨RX2, "measureDistances", "(I)V"⟩
abbrev cX2_reachNeighbours : ByteArray := prog_1_method_34_code
def yX2_reachNeighbours : MethodName := ⟨RX2, "reachNeighbours", "(II)V"⟩
abbrev cX2_bestInReach : ByteArray := prog_1_method_35_code
def yX2_bestInReach : MethodName := ⟨RX2, "bestInReach", "(I)I"⟩
abbrev cX2_passOneTick : ByteArray := prog_1_method_36_code
def yX2_passOneTick : MethodName := ⟨RX2, "passOneTick", "()V"⟩
abbrev cX2_steer : ByteArray := prog_1_method_37_code
def yX2_steer : MethodName := ⟨RX2, "steer", "(I)V"⟩
def RX3 : String := "TimeNetModel"
def TX3 : u_T := fun k => match k with
  | 0 => ("TimeNetModel", "nodeMany", "I", false)
  | 1 => ("TimeNetModel", "linkMany", "I", false)
  | 2 => ("TimeNetModel", "domains", "[I", true)
  | 3 => ("TimeNetModel", "grades", "[I", true)
  | 4 => ("TimeNetModel", "variances", "[I", true)
  | 5 => ("TimeNetModel", "drifts", "[I", true)
  | 6 => ("TimeNetModel", "offsets", "[J", true)
  | 7 => ("TimeNetModel", "rates", "[J", true)
  | 8 => ("TimeNetModel", "isLinked", "[Z", true)
  | 9 => ("TimeNetModel", "delays", "[I", true)
  | 10 => ("TimeNetModel", "differences", "[I", true)
  | 11 => ("TimeNetModel", "knownNode", "[I", true)
  | 12 => ("TimeNetModel", "knownGrade", "[I", true)
  | 13 => ("TimeNetModel", "knownVariance", "[I", true)
  | 14 => ("TimeNetModel", "knownSteps", "[I", true)
  | 15 => ("TimeNetModel", "parents", "[I", true)
  | 16 => ("TimeNetModel", "tickMany", "I", false)
  | 17 => ("TimeNetModel", "thrown", "I", false)
  | 18 => ("TimeNetModel", "nextNode", "[I", true)
  | 19 => ("TimeNetModel", "nextGrade", "[I", true)
  | 20 => ("TimeNetModel", "nextVariance", "[I", true)
  | 21 => ("TimeNetModel", "nextSteps", "[I", true)
  | 22 => ("TimeNetModel", "nextParents", "[I", true)
  | _ => ("TimeNetModel", "distances", "[I", true)
def tyX3 : Nat → FieldType := fun k => match k with
  | 0 => .int
  | 1 => .int
  | 2 => .array .int
  | 3 => .array .int
  | 4 => .array .int
  | 5 => .array .int
  | 6 => .array .long
  | 7 => .array .long
  | 8 => .array .boolean
  | 9 => .array .int
  | 10 => .array .int
  | 11 => .array .int
  | 12 => .array .int
  | 13 => .array .int
  | 14 => .array .int
  | 15 => .array .int
  | 16 => .int
  | 17 => .int
  | 18 => .array .int
  | 19 => .array .int
  | 20 => .array .int
  | 21 => .array .int
  | 22 => .array .int
  | _ => .array .int
abbrev wsX30 : List Cond := u_ws RX3 TX3 24
theorem nmX3 : ∀ a, a < 24 → ∀ b, b < 24 → a ≠ b → (TX3 a).2.1 ≠ (TX3 b).2.1 := by decide +kernel
theorem tyX3_ok : ∀ k, k < 24 → parseFieldDescriptor (TX3 k).2.2.1 = some (tyX3 k) := by decide +kernel
abbrev cX3_init : ByteArray := prog_5_method_1_code
def yX3_init : MethodName := ⟨RX3, "<init>", "()V"⟩
abbrev cX3_thrown : ByteArray := prog_5_method_2_code
def yX3_thrown : MethodName := ⟨RX3, "thrown", "()I"⟩
abbrev cX3_in : ByteArray := prog_5_method_3_code
def yX3_in : MethodName := ⟨RX3, "in", "(III)Z"⟩
abbrev cX3_isNode : ByteArray := prog_5_method_4_code
def yX3_isNode : MethodName := ⟨RX3, "isNode", "(I)Z"⟩
abbrev cX3_knowItself : ByteArray := prog_5_method_5_code
def yX3_knowItself : MethodName := ⟨RX3, "knowItself", "(I)V"⟩
abbrev cX3_add : ByteArray := prog_5_method_6_code
def yX3_add : MethodName := ⟨RX3, "add", "(IIII)I"⟩
abbrev cX3_setClock : ByteArray := prog_5_method_7_code
def yX3_setClock : MethodName := ⟨RX3, "setClock", "(III)I"⟩
abbrev cX3_setDrift : ByteArray := prog_5_method_8_code
def yX3_setDrift : MethodName := ⟨RX3, "setDrift", "(II)I"⟩
abbrev cX3_setOffset : ByteArray := prog_5_method_9_code
def yX3_setOffset : MethodName := ⟨RX3, "setOffset", "(II)J"⟩
abbrev cX3_link : ByteArray := prog_5_method_10_code
def yX3_link : MethodName := ⟨RX3, "link", "(IIII)I"⟩
abbrev cX3_cut : ByteArray := prog_5_method_11_code
def yX3_cut : MethodName := ⟨RX3, "cut", "(II)I"⟩
abbrev cX3_tell : ByteArray := prog_5_method_12_code
def yX3_tell : MethodName := ⟨RX3, "tell", "(III)I"⟩
abbrev cX3_areNeighbours : ByteArray := prog_5_method_13_code
def yX3_areNeighbours : MethodName := ⟨RX3, "areNeighbours", "(II)Z"⟩
abbrev cX3_isBetter : ByteArray := prog_5_method_14_code
def yX3_isBetter : MethodName := ⟨RX3, "isBetter", "(II)Z"⟩
abbrev cX3_listen : ByteArray := prog_5_method_15_code
def yX3_listen : MethodName := ⟨RX3, "listen", "(I)V"⟩
abbrev cX3_announce : ByteArray := prog_5_method_16_code
def yX3_announce : MethodName := ⟨RX3, "announce", "()V"⟩
abbrev cX3_steer : ByteArray := prog_5_method_17_code
def yX3_steer : MethodName := ⟨RX3, "steer", "(I)V"⟩
abbrev cX3_tick : ByteArray := prog_5_method_18_code
def yX3_tick : MethodName := ⟨RX3, "tick", "(I)I"⟩
abbrev cX3_nodes : ByteArray := prog_5_method_19_code
def yX3_nodes : MethodName := ⟨RX3, "nodes", "()I"⟩
abbrev cX3_links : ByteArray := prog_5_method_20_code
def yX3_links : MethodName := ⟨RX3, "links", "()I"⟩
abbrev cX3_asksFor : ByteArray := prog_5_method_21_code
def yX3_asksFor : MethodName := ⟨RX3, "asksFor", "(I)Z"⟩
abbrev cX3_best : ByteArray := prog_5_method_22_code
def yX3_best : MethodName := ⟨RX3, "best", "(I)I"⟩
abbrev cX3_steps : ByteArray := prog_5_method_23_code
def yX3_steps : MethodName := ⟨RX3, "steps", "(I)I"⟩
abbrev cX3_parent : ByteArray := prog_5_method_24_code
def yX3_parent : MethodName := ⟨RX3, "parent", "(I)I"⟩
abbrev cX3_port : ByteArray := prog_5_method_25_code
def yX3_port : MethodName := ⟨RX3, "port", "(II)I"⟩
abbrev cX3_layDistances : ByteArray := prog_5_method_26_code
def yX3_layDistances : MethodName := ⟨RX3, "layDistances", "(I)V"⟩
abbrev cX3_bestReached : ByteArray := prog_5_method_27_code
def yX3_bestReached : MethodName := ⟨RX3, "bestReached", "(I)I"⟩
abbrev cX3_bestByGraph : ByteArray := prog_5_method_28_code
def yX3_bestByGraph : MethodName := ⟨RX3, "bestByGraph", "(I)I"⟩
abbrev cX3_stepsByGraph : ByteArray := prog_5_method_29_code
def yX3_stepsByGraph : MethodName := ⟨RX3, "stepsByGraph", "(I)I"⟩
abbrev cX3_isSettled : ByteArray := prog_5_method_30_code
def yX3_isSettled : MethodName := ⟨RX3, "isSettled", "()Z"⟩
abbrev cX3_offset : ByteArray := prog_5_method_31_code
def yX3_offset : MethodName := ⟨RX3, "offset", "(I)J"⟩
abbrev cX3_rate : ByteArray := prog_5_method_32_code
def yX3_rate : MethodName := ⟨RX3, "rate", "(I)J"⟩
abbrev cX3_spread : ByteArray := prog_5_method_33_code
def yX3_spread : MethodName := ⟨RX3, "spread", "(I)J"⟩
def RJ9 : String := "java/lang/Math"
def TJ9 : u_T := fun k => match k with
  | _ => ("", "", "", false)
def tyJ9 : Nat → FieldType := fun k => match k with
  | _ => .int
abbrev wsJ90 : List Cond := u_ws RJ9 TJ9 0
theorem nmJ9 : ∀ a, a < 0 → ∀ b, b < 0 → a ≠ b → (TJ9 a).2.1 ≠ (TJ9 b).2.1 := by decide +kernel
theorem tyJ9_ok : ∀ k, k < 0 → parseFieldDescriptor (TJ9 k).2.2.1 = some (tyJ9 k) := by decide +kernel
abbrev cJ9_max_f86c9 : ByteArray := prog_10_method_66_code
def yJ9_max_f86c9 : MethodName := ⟨RJ9, "max", "(JJ)J"⟩
abbrev cJ9_min_f86c9 : ByteArray := prog_10_method_70_code
def yJ9_min_f86c9 : MethodName := ⟨RJ9, "min", "(JJ)J"⟩
def RJ0 : String := "java/lang/String"
def TJ0 : u_T := fun k => match k with
  | _ => ("", "", "", false)
def tyJ0 : Nat → FieldType := fun k => match k with
  | _ => .int
abbrev wsJ00 : List Cond := u_ws RJ0 TJ0 0
theorem nmJ0 : ∀ a, a < 0 → ∀ b, b < 0 → a ≠ b → (TJ0 a).2.1 ≠ (TJ0 b).2.1 := by decide +kernel
theorem tyJ0_ok : ∀ k, k < 0 → parseFieldDescriptor (TJ0 k).2.2.1 = some (tyJ0 k) := by decide +kernel
def wsX0_init : List Cond := .code yX0_init cX0_init 1 none :: ([.methodLink RX0 3 objectInit, .instanceMethod objectInit, .code objectInit ⟨#[0xb1]⟩ 1 none, .arrayClass .int, .fieldLink RX0 9 "TimeNet$Knowledge" "clockNode" "[I", .fieldLink RX0 15 "TimeNet$Knowledge" "clockRank" "[I", .fieldLink RX0 18 "TimeNet$Knowledge" "stepsAway" "[I", .fieldLink RX0 21 "TimeNet$Knowledge" "knownFrom" "[I"] ++ wsX00)
def wsX0_start : List Cond := .code yX0_start cX0_start 3 none :: ([.fieldLink RX0 9 "TimeNet$Knowledge" "clockNode" "[I", .fieldLink RX0 15 "TimeNet$Knowledge" "clockRank" "[I", .fieldLink RX0 18 "TimeNet$Knowledge" "stepsAway" "[I", .fieldLink RX0 21 "TimeNet$Knowledge" "knownFrom" "[I"] ++ wsX00)
def wsX0_copyFrom : List Cond := .code yX0_copyFrom cX0_copyFrom 3 none :: ([.fieldLink RX0 9 "TimeNet$Knowledge" "clockNode" "[I", .fieldLink RX0 15 "TimeNet$Knowledge" "clockRank" "[I", .fieldLink RX0 18 "TimeNet$Knowledge" "stepsAway" "[I", .fieldLink RX0 21 "TimeNet$Knowledge" "knownFrom" "[I"] ++ wsX00)
def wsX0_reaches : List Cond := .code yX0_reaches cX0_reaches 3 (some .boolean) :: ([.fieldLink RX0 18 "TimeNet$Knowledge" "stepsAway" "[I", .fieldLink RX0 21 "TimeNet$Knowledge" "knownFrom" "[I"] ++ wsX00)
def wsX0_takeIfBetter : List Cond := .code yX0_takeIfBetter cX0_takeIfBetter 6 none :: ([.fieldLink RX0 15 "TimeNet$Knowledge" "clockRank" "[I", .fieldLink RX0 18 "TimeNet$Knowledge" "stepsAway" "[I", .fieldLink RX0 9 "TimeNet$Knowledge" "clockNode" "[I", .fieldLink RX0 21 "TimeNet$Knowledge" "knownFrom" "[I"] ++ wsX00)
def wsX1_init : List Cond := .code yX1_init cX1_init 1 none :: ([.methodLink RX1 3 objectInit, .instanceMethod objectInit, .code objectInit ⟨#[0xb1]⟩ 1 none, .arrayClass .boolean, .fieldLink RX1 9 "TimeNet$Wires" "laid" "[Z", .arrayClass .int, .fieldLink RX1 15 "TimeNet$Wires" "delay" "[I", .fieldLink RX1 19 "TimeNet$Wires" "told" "[I", .fieldLink RX1 22 "TimeNet$Wires" "count" "I"] ++ wsX10)
def wsX1_place : List Cond := .code yX1_place cX1_place 2 (some .int) :: ([])
def wsX1_areLinked : List Cond := .code yX1_areLinked cX1_areLinked 3 (some .boolean) :: ([.fieldLink RX1 9 "TimeNet$Wires" "laid" "[Z", .methodLink RX1 26 yX1_place, .static yX1_place, .initialized RX1, .code yX1_place cX1_place 2 (some .int)] ++ wsX10)
def wsX1_noteDifference : List Cond := .code yX1_noteDifference cX1_noteDifference 5 (some .int) :: ([.fieldLink RX1 19 "TimeNet$Wires" "told" "[I", .methodLink RX1 26 yX1_place, .static yX1_place, .initialized RX1, .code yX1_place cX1_place 2 (some .int)] ++ wsX10)
def wsX1_lay : List Cond := .code yX1_lay cX1_lay 5 none :: ([.fieldLink RX1 9 "TimeNet$Wires" "laid" "[Z", .fieldLink RX1 15 "TimeNet$Wires" "delay" "[I", .fieldLink RX1 22 "TimeNet$Wires" "count" "I", .methodLink RX1 26 yX1_place, .static yX1_place, .initialized RX1, .code yX1_place cX1_place 2 (some .int), .methodLink RX1 30 yX1_noteDifference, .instanceMethod yX1_noteDifference, .selects RX1 yX1_noteDifference yX1_noteDifference, .code yX1_noteDifference cX1_noteDifference 5 (some .int), .fieldLink RX1 19 "TimeNet$Wires" "told" "[I"] ++ wsX10)
def wsX1_remove : List Cond := .code yX1_remove cX1_remove 3 none :: ([.fieldLink RX1 9 "TimeNet$Wires" "laid" "[Z", .fieldLink RX1 22 "TimeNet$Wires" "count" "I", .methodLink RX1 26 yX1_place, .static yX1_place, .initialized RX1, .code yX1_place cX1_place 2 (some .int)] ++ wsX10)
def wsX1_errorFrom : List Cond := .code yX1_errorFrom cX1_errorFrom 5 (some .int) :: ([.fieldLink RX1 15 "TimeNet$Wires" "delay" "[I", .fieldLink RX1 19 "TimeNet$Wires" "told" "[I", .methodLink RX1 26 yX1_place, .static yX1_place, .initialized RX1, .code yX1_place cX1_place 2 (some .int)] ++ wsX10)
def wsX2_init_r1 : List Cond := [Cond.methodLink RX2 1 objectInit, Cond.instanceMethod objectInit, Cond.code objectInit ⟨#[0xb1]⟩ 1 none, Cond.arrayClass .int, Cond.fieldLink RX2 9 "TimeNet" "domainOf" "[I", Cond.fieldLink RX2 13 "TimeNet" "gradeOf" "[I", Cond.fieldLink RX2 16 "TimeNet" "varianceOf" "[I", Cond.fieldLink RX2 19 "TimeNet" "driftOf" "[I", Cond.arrayClass .long, Cond.fieldLink RX2 22 "TimeNet" "offsetOf" "[J", Cond.fieldLink RX2 26 "TimeNet" "rateOf" "[J", Cond.classLink RX2 29 RX1, Cond.instantiable RX1 4, Cond.initialized RX1, Cond.fieldLink RX2 32 "TimeNet" "wires" "LTimeNet$Wires;", Cond.classLink RX2 36 RX0, Cond.instantiable RX0 4, Cond.initialized RX0, Cond.fieldLink RX2 39 "TimeNet" "known" "LTimeNet$Knowledge;", Cond.fieldLink RX2 43 "TimeNet" "heard" "LTimeNet$Knowledge;", Cond.fieldLink RX2 46 "TimeNet" "distanceTo" "[I", Cond.fieldLink RX2 49 "TimeNet" "nodeCount" "I", Cond.fieldLink RX2 53 "TimeNet" "tickCount" "I", Cond.instanceMethod yX1_init]
def wsX2_init_r2 : List Cond := [Cond.code yX1_init cX1_init 1 none, Cond.methodLink RX1 3 objectInit, Cond.arrayClass .boolean, Cond.fieldLink RX1 9 "TimeNet$Wires" "laid" "[Z", Cond.fieldLink RX1 15 "TimeNet$Wires" "delay" "[I", Cond.fieldLink RX1 19 "TimeNet$Wires" "told" "[I", Cond.fieldLink RX1 22 "TimeNet$Wires" "count" "I", Cond.instanceMethod yX0_init, Cond.code yX0_init cX0_init 1 none, Cond.methodLink RX0 3 objectInit, Cond.fieldLink RX0 9 "TimeNet$Knowledge" "clockNode" "[I", Cond.fieldLink RX0 15 "TimeNet$Knowledge" "clockRank" "[I", Cond.fieldLink RX0 18 "TimeNet$Knowledge" "stepsAway" "[I", Cond.fieldLink RX0 21 "TimeNet$Knowledge" "knownFrom" "[I"]
def wsX2_init : List Cond := .code yX2_init cX2_init 1 none :: ((wsX2_init_r1 ++ wsX2_init_r2) ++ wsX20 ++ wsX10 ++ wsX00)
def wsX2_requireWithin : List Cond := .code yX2_requireWithin cX2_requireWithin 3 none :: ([.classLink RX2 76 "java/lang/IllegalArgumentException", .initialized "java/lang/IllegalArgumentException"] ++ (vx_atS RX2 80 "java/lang/IllegalArgumentException" ["java/lang/RuntimeException", "java/lang/Exception"]).filter goodWord)
def wsX2_rankOf : List Cond := .code yX2_rankOf cX2_rankOf 2 (some .int) :: ([.fieldLink RX2 13 "TimeNet" "gradeOf" "[I", .fieldLink RX2 16 "TimeNet" "varianceOf" "[I"] ++ wsX20)
def wsX2_knowOnlyItself : List Cond := .code yX2_knowOnlyItself cX2_knowOnlyItself 2 none :: ([.fieldLink RX2 39 "TimeNet" "known" "LTimeNet$Knowledge;", .methodLink RX2 157 yX2_rankOf, .instanceMethod yX2_rankOf, .selects RX2 yX2_rankOf yX2_rankOf, .initialized RX2, .code yX2_rankOf cX2_rankOf 2 (some .int), .fieldLink RX2 13 "TimeNet" "gradeOf" "[I", .fieldLink RX2 16 "TimeNet" "varianceOf" "[I", .instanceMethod yX0_start, .initialized RX0, .selects RX0 yX0_start yX0_start, .code yX0_start cX0_start 3 none, .fieldLink RX0 9 "TimeNet$Knowledge" "clockNode" "[I", .fieldLink RX0 15 "TimeNet$Knowledge" "clockRank" "[I", .fieldLink RX0 18 "TimeNet$Knowledge" "stepsAway" "[I", .fieldLink RX0 21 "TimeNet$Knowledge" "knownFrom" "[I"] ++ wsX20 ++ wsX00)
def wsX2_add_r1 : List Cond := [Cond.classLink RX2 60 "java/lang/IllegalStateException", Cond.initialized "java/lang/IllegalStateException", Cond.fieldLink RX2 49 "TimeNet" "nodeCount" "I", Cond.fieldLink RX2 9 "TimeNet" "domainOf" "[I", Cond.fieldLink RX2 13 "TimeNet" "gradeOf" "[I", Cond.fieldLink RX2 16 "TimeNet" "varianceOf" "[I", Cond.fieldLink RX2 19 "TimeNet" "driftOf" "[I", Cond.methodLink RX2 56 yX2_requireWithin, Cond.static yX2_requireWithin, Cond.initialized RX2, Cond.code yX2_requireWithin cX2_requireWithin 3 none, Cond.classLink RX2 76 "java/lang/IllegalArgumentException", Cond.initialized "java/lang/IllegalArgumentException", Cond.methodLink RX2 67 yX2_knowOnlyItself, Cond.instanceMethod yX2_knowOnlyItself, Cond.selects RX2 yX2_knowOnlyItself yX2_knowOnlyItself, Cond.code yX2_knowOnlyItself cX2_knowOnlyItself 2 none, Cond.fieldLink RX2 39 "TimeNet" "known" "LTimeNet$Knowledge;", Cond.methodLink RX2 157 yX2_rankOf, Cond.instanceMethod yX2_rankOf, Cond.selects RX2 yX2_rankOf yX2_rankOf, Cond.code yX2_rankOf cX2_rankOf 2 (some .int), Cond.instanceMethod yX0_start, Cond.initialized RX0]
def wsX2_add_r2 : List Cond := [Cond.selects RX0 yX0_start yX0_start, Cond.code yX0_start cX0_start 3 none, Cond.fieldLink RX0 9 "TimeNet$Knowledge" "clockNode" "[I", Cond.fieldLink RX0 15 "TimeNet$Knowledge" "clockRank" "[I", Cond.fieldLink RX0 18 "TimeNet$Knowledge" "stepsAway" "[I", Cond.fieldLink RX0 21 "TimeNet$Knowledge" "knownFrom" "[I"]
def wsX2_add : List Cond := .code yX2_add cX2_add 6 (some .int) :: ((wsX2_add_r1 ++ wsX2_add_r2) ++ wsX20 ++ wsX00 ++ (vx_atS RX2 64 "java/lang/IllegalStateException" ["java/lang/RuntimeException", "java/lang/Exception"]).filter goodWord ++ (vx_atS RX2 80 "java/lang/IllegalArgumentException" ["java/lang/RuntimeException", "java/lang/Exception"]).filter goodWord)
def wsX2_isNode : List Cond := .code yX2_isNode cX2_isNode 2 (some .boolean) :: ([.fieldLink RX2 49 "TimeNet" "nodeCount" "I"] ++ wsX20)
def wsX2_requireNode : List Cond := .code yX2_requireNode cX2_requireNode 2 none :: ([.classLink RX2 148 "java/lang/IndexOutOfBoundsException", .initialized "java/lang/IndexOutOfBoundsException", .methodLink RX2 144 yX2_isNode, .instanceMethod yX2_isNode, .selects RX2 yX2_isNode yX2_isNode, .initialized RX2, .code yX2_isNode cX2_isNode 2 (some .boolean), .fieldLink RX2 49 "TimeNet" "nodeCount" "I"] ++ wsX20 ++ (vx_atS RX2 152 "java/lang/IndexOutOfBoundsException" ["java/lang/RuntimeException", "java/lang/Exception"]).filter goodWord)
def wsX2_setClock : List Cond := .code yX2_setClock cX2_setClock 5 (some .int) :: ([.fieldLink RX2 13 "TimeNet" "gradeOf" "[I", .fieldLink RX2 16 "TimeNet" "varianceOf" "[I", .methodLink RX2 71 yX2_requireNode, .instanceMethod yX2_requireNode, .selects RX2 yX2_requireNode yX2_requireNode, .initialized RX2, .code yX2_requireNode cX2_requireNode 2 none, .classLink RX2 148 "java/lang/IndexOutOfBoundsException", .initialized "java/lang/IndexOutOfBoundsException", .methodLink RX2 144 yX2_isNode, .instanceMethod yX2_isNode, .selects RX2 yX2_isNode yX2_isNode, .code yX2_isNode cX2_isNode 2 (some .boolean), .fieldLink RX2 49 "TimeNet" "nodeCount" "I", .methodLink RX2 56 yX2_requireWithin, .static yX2_requireWithin, .code yX2_requireWithin cX2_requireWithin 3 none, .classLink RX2 76 "java/lang/IllegalArgumentException", .initialized "java/lang/IllegalArgumentException"] ++ wsX20 ++ (vx_atS RX2 152 "java/lang/IndexOutOfBoundsException" ["java/lang/RuntimeException", "java/lang/Exception"]).filter goodWord ++ (vx_atS RX2 80 "java/lang/IllegalArgumentException" ["java/lang/RuntimeException", "java/lang/Exception"]).filter goodWord)
def wsX2_setDrift : List Cond := .code yX2_setDrift cX2_setDrift 4 (some .int) :: ([.fieldLink RX2 19 "TimeNet" "driftOf" "[I", .methodLink RX2 71 yX2_requireNode, .instanceMethod yX2_requireNode, .selects RX2 yX2_requireNode yX2_requireNode, .initialized RX2, .code yX2_requireNode cX2_requireNode 2 none, .classLink RX2 148 "java/lang/IndexOutOfBoundsException", .initialized "java/lang/IndexOutOfBoundsException", .methodLink RX2 144 yX2_isNode, .instanceMethod yX2_isNode, .selects RX2 yX2_isNode yX2_isNode, .code yX2_isNode cX2_isNode 2 (some .boolean), .fieldLink RX2 49 "TimeNet" "nodeCount" "I", .methodLink RX2 56 yX2_requireWithin, .static yX2_requireWithin, .code yX2_requireWithin cX2_requireWithin 3 none, .classLink RX2 76 "java/lang/IllegalArgumentException", .initialized "java/lang/IllegalArgumentException"] ++ wsX20 ++ (vx_atS RX2 152 "java/lang/IndexOutOfBoundsException" ["java/lang/RuntimeException", "java/lang/Exception"]).filter goodWord ++ (vx_atS RX2 80 "java/lang/IllegalArgumentException" ["java/lang/RuntimeException", "java/lang/Exception"]).filter goodWord)
def wsX2_setOffset : List Cond := .code yX2_setOffset cX2_setOffset 5 (some .long) :: ([.constant RX2 74 (-1000000), .constant RX2 75 (1000000), .fieldLink RX2 22 "TimeNet" "offsetOf" "[J", .methodLink RX2 71 yX2_requireNode, .instanceMethod yX2_requireNode, .selects RX2 yX2_requireNode yX2_requireNode, .initialized RX2, .code yX2_requireNode cX2_requireNode 2 none, .classLink RX2 148 "java/lang/IndexOutOfBoundsException", .initialized "java/lang/IndexOutOfBoundsException", .methodLink RX2 144 yX2_isNode, .instanceMethod yX2_isNode, .selects RX2 yX2_isNode yX2_isNode, .code yX2_isNode cX2_isNode 2 (some .boolean), .fieldLink RX2 49 "TimeNet" "nodeCount" "I", .methodLink RX2 56 yX2_requireWithin, .static yX2_requireWithin, .code yX2_requireWithin cX2_requireWithin 3 none, .classLink RX2 76 "java/lang/IllegalArgumentException", .initialized "java/lang/IllegalArgumentException"] ++ wsX20 ++ (vx_atS RX2 152 "java/lang/IndexOutOfBoundsException" ["java/lang/RuntimeException", "java/lang/Exception"]).filter goodWord ++ (vx_atS RX2 80 "java/lang/IllegalArgumentException" ["java/lang/RuntimeException", "java/lang/Exception"]).filter goodWord)
def wsX2_link_r1 : List Cond := [Cond.classLink RX2 76 "java/lang/IllegalArgumentException", Cond.initialized "java/lang/IllegalArgumentException", Cond.classLink RX2 60 "java/lang/IllegalStateException", Cond.initialized "java/lang/IllegalStateException", Cond.constant RX2 81 (100000), Cond.fieldLink RX2 32 "TimeNet" "wires" "LTimeNet$Wires;", Cond.methodLink RX2 71 yX2_requireNode, Cond.instanceMethod yX2_requireNode, Cond.selects RX2 yX2_requireNode yX2_requireNode, Cond.initialized RX2, Cond.code yX2_requireNode cX2_requireNode 2 none, Cond.classLink RX2 148 "java/lang/IndexOutOfBoundsException", Cond.initialized "java/lang/IndexOutOfBoundsException", Cond.methodLink RX2 144 yX2_isNode, Cond.instanceMethod yX2_isNode, Cond.selects RX2 yX2_isNode yX2_isNode, Cond.code yX2_isNode cX2_isNode 2 (some .boolean), Cond.fieldLink RX2 49 "TimeNet" "nodeCount" "I", Cond.methodLink RX2 56 yX2_requireWithin, Cond.static yX2_requireWithin, Cond.code yX2_requireWithin cX2_requireWithin 3 none, Cond.instanceMethod yX1_areLinked, Cond.initialized RX1, Cond.selects RX1 yX1_areLinked yX1_areLinked]
def wsX2_link_r2 : List Cond := [Cond.code yX1_areLinked cX1_areLinked 3 (some .boolean), Cond.fieldLink RX1 9 "TimeNet$Wires" "laid" "[Z", Cond.methodLink RX1 26 yX1_place, Cond.static yX1_place, Cond.code yX1_place cX1_place 2 (some .int), Cond.instanceMethod yX1_lay, Cond.selects RX1 yX1_lay yX1_lay, Cond.code yX1_lay cX1_lay 5 none, Cond.fieldLink RX1 15 "TimeNet$Wires" "delay" "[I", Cond.fieldLink RX1 22 "TimeNet$Wires" "count" "I", Cond.methodLink RX1 30 yX1_noteDifference, Cond.instanceMethod yX1_noteDifference, Cond.selects RX1 yX1_noteDifference yX1_noteDifference, Cond.code yX1_noteDifference cX1_noteDifference 5 (some .int), Cond.fieldLink RX1 19 "TimeNet$Wires" "told" "[I"]
def wsX2_link : List Cond := .code yX2_link cX2_link 5 (some .int) :: ((wsX2_link_r1 ++ wsX2_link_r2) ++ wsX20 ++ wsX10 ++ (vx_atS RX2 80 "java/lang/IllegalArgumentException" ["java/lang/RuntimeException", "java/lang/Exception"]).filter goodWord ++ (vx_atS RX2 64 "java/lang/IllegalStateException" ["java/lang/RuntimeException", "java/lang/Exception"]).filter goodWord ++ (vx_atS RX2 152 "java/lang/IndexOutOfBoundsException" ["java/lang/RuntimeException", "java/lang/Exception"]).filter goodWord)
def wsX2_requireLinked : List Cond := .code yX2_requireLinked cX2_requireLinked 3 none :: ([.classLink RX2 60 "java/lang/IllegalStateException", .initialized "java/lang/IllegalStateException", .fieldLink RX2 32 "TimeNet" "wires" "LTimeNet$Wires;", .instanceMethod yX1_areLinked, .initialized RX1, .selects RX1 yX1_areLinked yX1_areLinked, .code yX1_areLinked cX1_areLinked 3 (some .boolean), .fieldLink RX1 9 "TimeNet$Wires" "laid" "[Z", .methodLink RX1 26 yX1_place, .static yX1_place, .code yX1_place cX1_place 2 (some .int)] ++ wsX20 ++ wsX10 ++ (vx_atS RX2 64 "java/lang/IllegalStateException" ["java/lang/RuntimeException", "java/lang/Exception"]).filter goodWord)
def wsX2_forgetParent : List Cond := .code yX2_forgetParent cX2_forgetParent 3 none :: ([.fieldLink RX2 39 "TimeNet" "known" "LTimeNet$Knowledge;", .methodLink RX2 67 yX2_knowOnlyItself, .instanceMethod yX2_knowOnlyItself, .selects RX2 yX2_knowOnlyItself yX2_knowOnlyItself, .initialized RX2, .code yX2_knowOnlyItself cX2_knowOnlyItself 2 none, .methodLink RX2 157 yX2_rankOf, .instanceMethod yX2_rankOf, .selects RX2 yX2_rankOf yX2_rankOf, .code yX2_rankOf cX2_rankOf 2 (some .int), .fieldLink RX2 13 "TimeNet" "gradeOf" "[I", .fieldLink RX2 16 "TimeNet" "varianceOf" "[I", .instanceMethod yX0_start, .initialized RX0, .selects RX0 yX0_start yX0_start, .code yX0_start cX0_start 3 none, .fieldLink RX0 9 "TimeNet$Knowledge" "clockNode" "[I", .fieldLink RX0 15 "TimeNet$Knowledge" "clockRank" "[I", .fieldLink RX0 18 "TimeNet$Knowledge" "stepsAway" "[I", .fieldLink RX0 21 "TimeNet$Knowledge" "knownFrom" "[I"] ++ wsX20 ++ wsX00)
def wsX2_cut_r1 : List Cond := [Cond.fieldLink RX2 32 "TimeNet" "wires" "LTimeNet$Wires;", Cond.methodLink RX2 71 yX2_requireNode, Cond.instanceMethod yX2_requireNode, Cond.selects RX2 yX2_requireNode yX2_requireNode, Cond.initialized RX2, Cond.code yX2_requireNode cX2_requireNode 2 none, Cond.classLink RX2 148 "java/lang/IndexOutOfBoundsException", Cond.initialized "java/lang/IndexOutOfBoundsException", Cond.methodLink RX2 144 yX2_isNode, Cond.instanceMethod yX2_isNode, Cond.selects RX2 yX2_isNode yX2_isNode, Cond.code yX2_isNode cX2_isNode 2 (some .boolean), Cond.fieldLink RX2 49 "TimeNet" "nodeCount" "I", Cond.methodLink RX2 95 yX2_requireLinked, Cond.instanceMethod yX2_requireLinked, Cond.selects RX2 yX2_requireLinked yX2_requireLinked, Cond.code yX2_requireLinked cX2_requireLinked 3 none, Cond.classLink RX2 60 "java/lang/IllegalStateException", Cond.initialized "java/lang/IllegalStateException", Cond.instanceMethod yX1_areLinked, Cond.initialized RX1, Cond.selects RX1 yX1_areLinked yX1_areLinked, Cond.code yX1_areLinked cX1_areLinked 3 (some .boolean), Cond.fieldLink RX1 9 "TimeNet$Wires" "laid" "[Z"]
def wsX2_cut_r2 : List Cond := [Cond.methodLink RX1 26 yX1_place, Cond.static yX1_place, Cond.code yX1_place cX1_place 2 (some .int), Cond.instanceMethod yX1_remove, Cond.selects RX1 yX1_remove yX1_remove, Cond.code yX1_remove cX1_remove 3 none, Cond.fieldLink RX1 22 "TimeNet$Wires" "count" "I", Cond.methodLink RX2 102 yX2_forgetParent, Cond.instanceMethod yX2_forgetParent, Cond.selects RX2 yX2_forgetParent yX2_forgetParent, Cond.code yX2_forgetParent cX2_forgetParent 3 none, Cond.fieldLink RX2 39 "TimeNet" "known" "LTimeNet$Knowledge;", Cond.methodLink RX2 67 yX2_knowOnlyItself, Cond.instanceMethod yX2_knowOnlyItself, Cond.selects RX2 yX2_knowOnlyItself yX2_knowOnlyItself, Cond.code yX2_knowOnlyItself cX2_knowOnlyItself 2 none, Cond.methodLink RX2 157 yX2_rankOf, Cond.instanceMethod yX2_rankOf, Cond.selects RX2 yX2_rankOf yX2_rankOf, Cond.code yX2_rankOf cX2_rankOf 2 (some .int), Cond.fieldLink RX2 13 "TimeNet" "gradeOf" "[I", Cond.fieldLink RX2 16 "TimeNet" "varianceOf" "[I", Cond.instanceMethod yX0_start, Cond.initialized RX0]
def wsX2_cut_r3 : List Cond := [Cond.selects RX0 yX0_start yX0_start, Cond.code yX0_start cX0_start 3 none, Cond.fieldLink RX0 9 "TimeNet$Knowledge" "clockNode" "[I", Cond.fieldLink RX0 15 "TimeNet$Knowledge" "clockRank" "[I", Cond.fieldLink RX0 18 "TimeNet$Knowledge" "stepsAway" "[I", Cond.fieldLink RX0 21 "TimeNet$Knowledge" "knownFrom" "[I"]
def wsX2_cut : List Cond := .code yX2_cut cX2_cut 3 (some .int) :: ((wsX2_cut_r1 ++ (wsX2_cut_r2 ++ wsX2_cut_r3)) ++ wsX20 ++ wsX10 ++ wsX00 ++ (vx_atS RX2 152 "java/lang/IndexOutOfBoundsException" ["java/lang/RuntimeException", "java/lang/Exception"]).filter goodWord ++ (vx_atS RX2 64 "java/lang/IllegalStateException" ["java/lang/RuntimeException", "java/lang/Exception"]).filter goodWord)
def wsX2_tell_r1 : List Cond := [Cond.constant RX2 105 (-100000), Cond.constant RX2 81 (100000), Cond.fieldLink RX2 32 "TimeNet" "wires" "LTimeNet$Wires;", Cond.methodLink RX2 71 yX2_requireNode, Cond.instanceMethod yX2_requireNode, Cond.selects RX2 yX2_requireNode yX2_requireNode, Cond.initialized RX2, Cond.code yX2_requireNode cX2_requireNode 2 none, Cond.classLink RX2 148 "java/lang/IndexOutOfBoundsException", Cond.initialized "java/lang/IndexOutOfBoundsException", Cond.methodLink RX2 144 yX2_isNode, Cond.instanceMethod yX2_isNode, Cond.selects RX2 yX2_isNode yX2_isNode, Cond.code yX2_isNode cX2_isNode 2 (some .boolean), Cond.fieldLink RX2 49 "TimeNet" "nodeCount" "I", Cond.methodLink RX2 56 yX2_requireWithin, Cond.static yX2_requireWithin, Cond.code yX2_requireWithin cX2_requireWithin 3 none, Cond.classLink RX2 76 "java/lang/IllegalArgumentException", Cond.initialized "java/lang/IllegalArgumentException", Cond.methodLink RX2 95 yX2_requireLinked, Cond.instanceMethod yX2_requireLinked, Cond.selects RX2 yX2_requireLinked yX2_requireLinked, Cond.code yX2_requireLinked cX2_requireLinked 3 none]
def wsX2_tell_r2 : List Cond := [Cond.classLink RX2 60 "java/lang/IllegalStateException", Cond.initialized "java/lang/IllegalStateException", Cond.instanceMethod yX1_areLinked, Cond.initialized RX1, Cond.selects RX1 yX1_areLinked yX1_areLinked, Cond.code yX1_areLinked cX1_areLinked 3 (some .boolean), Cond.fieldLink RX1 9 "TimeNet$Wires" "laid" "[Z", Cond.methodLink RX1 26 yX1_place, Cond.static yX1_place, Cond.code yX1_place cX1_place 2 (some .int), Cond.instanceMethod yX1_noteDifference, Cond.selects RX1 yX1_noteDifference yX1_noteDifference, Cond.code yX1_noteDifference cX1_noteDifference 5 (some .int), Cond.fieldLink RX1 19 "TimeNet$Wires" "told" "[I"]
def wsX2_tell : List Cond := .code yX2_tell cX2_tell 4 (some .int) :: ((wsX2_tell_r1 ++ wsX2_tell_r2) ++ wsX20 ++ wsX10 ++ (vx_atS RX2 152 "java/lang/IndexOutOfBoundsException" ["java/lang/RuntimeException", "java/lang/Exception"]).filter goodWord ++ (vx_atS RX2 80 "java/lang/IllegalArgumentException" ["java/lang/RuntimeException", "java/lang/Exception"]).filter goodWord ++ (vx_atS RX2 64 "java/lang/IllegalStateException" ["java/lang/RuntimeException", "java/lang/Exception"]).filter goodWord)
def wsX2_areNeighbours : List Cond := .code yX2_areNeighbours cX2_areNeighbours 3 (some .boolean) :: ([.fieldLink RX2 9 "TimeNet" "domainOf" "[I", .fieldLink RX2 32 "TimeNet" "wires" "LTimeNet$Wires;", .instanceMethod yX1_areLinked, .initialized RX1, .selects RX1 yX1_areLinked yX1_areLinked, .code yX1_areLinked cX1_areLinked 3 (some .boolean), .fieldLink RX1 9 "TimeNet$Wires" "laid" "[Z", .methodLink RX1 26 yX1_place, .static yX1_place, .code yX1_place cX1_place 2 (some .int)] ++ wsX20 ++ wsX10)
def wsX2_listen_r1 : List Cond := [Cond.fieldLink RX2 49 "TimeNet" "nodeCount" "I", Cond.fieldLink RX2 43 "TimeNet" "heard" "LTimeNet$Knowledge;", Cond.fieldLink RX2 39 "TimeNet" "known" "LTimeNet$Knowledge;", Cond.methodLink RX2 67 yX2_knowOnlyItself, Cond.instanceMethod yX2_knowOnlyItself, Cond.selects RX2 yX2_knowOnlyItself yX2_knowOnlyItself, Cond.initialized RX2, Cond.code yX2_knowOnlyItself cX2_knowOnlyItself 2 none, Cond.methodLink RX2 157 yX2_rankOf, Cond.instanceMethod yX2_rankOf, Cond.selects RX2 yX2_rankOf yX2_rankOf, Cond.code yX2_rankOf cX2_rankOf 2 (some .int), Cond.fieldLink RX2 13 "TimeNet" "gradeOf" "[I", Cond.fieldLink RX2 16 "TimeNet" "varianceOf" "[I", Cond.instanceMethod yX0_start, Cond.initialized RX0, Cond.selects RX0 yX0_start yX0_start, Cond.code yX0_start cX0_start 3 none, Cond.fieldLink RX0 9 "TimeNet$Knowledge" "clockNode" "[I", Cond.fieldLink RX0 15 "TimeNet$Knowledge" "clockRank" "[I", Cond.fieldLink RX0 18 "TimeNet$Knowledge" "stepsAway" "[I", Cond.fieldLink RX0 21 "TimeNet$Knowledge" "knownFrom" "[I", Cond.methodLink RX2 122 yX2_areNeighbours, Cond.instanceMethod yX2_areNeighbours]
def wsX2_listen_r2 : List Cond := [Cond.selects RX2 yX2_areNeighbours yX2_areNeighbours, Cond.code yX2_areNeighbours cX2_areNeighbours 3 (some .boolean), Cond.fieldLink RX2 9 "TimeNet" "domainOf" "[I", Cond.fieldLink RX2 32 "TimeNet" "wires" "LTimeNet$Wires;", Cond.instanceMethod yX1_areLinked, Cond.initialized RX1, Cond.selects RX1 yX1_areLinked yX1_areLinked, Cond.code yX1_areLinked cX1_areLinked 3 (some .boolean), Cond.fieldLink RX1 9 "TimeNet$Wires" "laid" "[Z", Cond.methodLink RX1 26 yX1_place, Cond.static yX1_place, Cond.code yX1_place cX1_place 2 (some .int), Cond.instanceMethod yX0_reaches, Cond.selects RX0 yX0_reaches yX0_reaches, Cond.code yX0_reaches cX0_reaches 3 (some .boolean), Cond.instanceMethod yX0_takeIfBetter, Cond.selects RX0 yX0_takeIfBetter yX0_takeIfBetter, Cond.code yX0_takeIfBetter cX0_takeIfBetter 6 none]
def wsX2_listen : List Cond := .code yX2_listen cX2_listen 3 none :: ((wsX2_listen_r1 ++ wsX2_listen_r2) ++ wsX20 ++ wsX00 ++ wsX10)
def wsX2_announce_r1 : List Cond := [Cond.fieldLink RX2 43 "TimeNet" "heard" "LTimeNet$Knowledge;", Cond.fieldLink RX2 39 "TimeNet" "known" "LTimeNet$Knowledge;", Cond.fieldLink RX2 49 "TimeNet" "nodeCount" "I", Cond.instanceMethod yX0_copyFrom, Cond.initialized RX0, Cond.selects RX0 yX0_copyFrom yX0_copyFrom, Cond.code yX0_copyFrom cX0_copyFrom 3 none, Cond.fieldLink RX0 9 "TimeNet$Knowledge" "clockNode" "[I", Cond.fieldLink RX0 15 "TimeNet$Knowledge" "clockRank" "[I", Cond.fieldLink RX0 18 "TimeNet$Knowledge" "stepsAway" "[I", Cond.fieldLink RX0 21 "TimeNet$Knowledge" "knownFrom" "[I", Cond.methodLink RX2 167 yX2_listen, Cond.instanceMethod yX2_listen, Cond.selects RX2 yX2_listen yX2_listen, Cond.initialized RX2, Cond.code yX2_listen cX2_listen 3 none, Cond.methodLink RX2 67 yX2_knowOnlyItself, Cond.instanceMethod yX2_knowOnlyItself, Cond.selects RX2 yX2_knowOnlyItself yX2_knowOnlyItself, Cond.code yX2_knowOnlyItself cX2_knowOnlyItself 2 none, Cond.methodLink RX2 157 yX2_rankOf, Cond.instanceMethod yX2_rankOf, Cond.selects RX2 yX2_rankOf yX2_rankOf, Cond.code yX2_rankOf cX2_rankOf 2 (some .int)]
def wsX2_announce_r2 : List Cond := [Cond.fieldLink RX2 13 "TimeNet" "gradeOf" "[I", Cond.fieldLink RX2 16 "TimeNet" "varianceOf" "[I", Cond.instanceMethod yX0_start, Cond.selects RX0 yX0_start yX0_start, Cond.code yX0_start cX0_start 3 none, Cond.methodLink RX2 122 yX2_areNeighbours, Cond.instanceMethod yX2_areNeighbours, Cond.selects RX2 yX2_areNeighbours yX2_areNeighbours, Cond.code yX2_areNeighbours cX2_areNeighbours 3 (some .boolean), Cond.fieldLink RX2 9 "TimeNet" "domainOf" "[I", Cond.fieldLink RX2 32 "TimeNet" "wires" "LTimeNet$Wires;", Cond.instanceMethod yX1_areLinked, Cond.initialized RX1, Cond.selects RX1 yX1_areLinked yX1_areLinked, Cond.code yX1_areLinked cX1_areLinked 3 (some .boolean), Cond.fieldLink RX1 9 "TimeNet$Wires" "laid" "[Z", Cond.methodLink RX1 26 yX1_place, Cond.static yX1_place, Cond.code yX1_place cX1_place 2 (some .int), Cond.instanceMethod yX0_reaches, Cond.selects RX0 yX0_reaches yX0_reaches, Cond.code yX0_reaches cX0_reaches 3 (some .boolean), Cond.instanceMethod yX0_takeIfBetter, Cond.selects RX0 yX0_takeIfBetter yX0_takeIfBetter]
def wsX2_announce_r3 : List Cond := [Cond.code yX0_takeIfBetter cX0_takeIfBetter 6 none]
def wsX2_announce : List Cond := .code yX2_announce cX2_announce 2 none :: ((wsX2_announce_r1 ++ (wsX2_announce_r2 ++ wsX2_announce_r3)) ++ wsX20 ++ wsX00 ++ wsX10)
def wsX2_steer : List Cond := .code yX2_steer cX2_steer 5 none :: ([.fieldLink RX2 39 "TimeNet" "known" "LTimeNet$Knowledge;", .fieldLink RX2 22 "TimeNet" "offsetOf" "[J", .fieldLink RX2 32 "TimeNet" "wires" "LTimeNet$Wires;", .constantLong RX2 190 (2), .fieldLink RX2 26 "TimeNet" "rateOf" "[J", .constantLong RX2 192 (16), .methodLink RX2 144 yX2_isNode, .instanceMethod yX2_isNode, .selects RX2 yX2_isNode yX2_isNode, .initialized RX2, .code yX2_isNode cX2_isNode 2 (some .boolean), .fieldLink RX2 49 "TimeNet" "nodeCount" "I", .instanceMethod yX1_errorFrom, .initialized RX1, .selects RX1 yX1_errorFrom yX1_errorFrom, .code yX1_errorFrom cX1_errorFrom 5 (some .int), .fieldLink RX1 15 "TimeNet$Wires" "delay" "[I", .fieldLink RX1 19 "TimeNet$Wires" "told" "[I", .methodLink RX1 26 yX1_place, .static yX1_place, .code yX1_place cX1_place 2 (some .int)] ++ wsX20 ++ wsX00 ++ wsX10)
def wsX2_passOneTick_r1 : List Cond := [Cond.fieldLink RX2 49 "TimeNet" "nodeCount" "I", Cond.fieldLink RX2 22 "TimeNet" "offsetOf" "[J", Cond.fieldLink RX2 19 "TimeNet" "driftOf" "[I", Cond.fieldLink RX2 26 "TimeNet" "rateOf" "[J", Cond.fieldLink RX2 39 "TimeNet" "known" "LTimeNet$Knowledge;", Cond.methodLink RX2 180 yX2_announce, Cond.instanceMethod yX2_announce, Cond.selects RX2 yX2_announce yX2_announce, Cond.initialized RX2, Cond.code yX2_announce cX2_announce 2 none, Cond.fieldLink RX2 43 "TimeNet" "heard" "LTimeNet$Knowledge;", Cond.instanceMethod yX0_copyFrom, Cond.initialized RX0, Cond.selects RX0 yX0_copyFrom yX0_copyFrom, Cond.code yX0_copyFrom cX0_copyFrom 3 none, Cond.fieldLink RX0 9 "TimeNet$Knowledge" "clockNode" "[I", Cond.fieldLink RX0 15 "TimeNet$Knowledge" "clockRank" "[I", Cond.fieldLink RX0 18 "TimeNet$Knowledge" "stepsAway" "[I", Cond.fieldLink RX0 21 "TimeNet$Knowledge" "knownFrom" "[I", Cond.methodLink RX2 167 yX2_listen, Cond.instanceMethod yX2_listen, Cond.selects RX2 yX2_listen yX2_listen, Cond.code yX2_listen cX2_listen 3 none, Cond.methodLink RX2 67 yX2_knowOnlyItself]
def wsX2_passOneTick_r2 : List Cond := [Cond.instanceMethod yX2_knowOnlyItself, Cond.selects RX2 yX2_knowOnlyItself yX2_knowOnlyItself, Cond.code yX2_knowOnlyItself cX2_knowOnlyItself 2 none, Cond.methodLink RX2 157 yX2_rankOf, Cond.instanceMethod yX2_rankOf, Cond.selects RX2 yX2_rankOf yX2_rankOf, Cond.code yX2_rankOf cX2_rankOf 2 (some .int), Cond.fieldLink RX2 13 "TimeNet" "gradeOf" "[I", Cond.fieldLink RX2 16 "TimeNet" "varianceOf" "[I", Cond.instanceMethod yX0_start, Cond.selects RX0 yX0_start yX0_start, Cond.code yX0_start cX0_start 3 none, Cond.methodLink RX2 122 yX2_areNeighbours, Cond.instanceMethod yX2_areNeighbours, Cond.selects RX2 yX2_areNeighbours yX2_areNeighbours, Cond.code yX2_areNeighbours cX2_areNeighbours 3 (some .boolean), Cond.fieldLink RX2 9 "TimeNet" "domainOf" "[I", Cond.fieldLink RX2 32 "TimeNet" "wires" "LTimeNet$Wires;", Cond.instanceMethod yX1_areLinked, Cond.initialized RX1, Cond.selects RX1 yX1_areLinked yX1_areLinked, Cond.code yX1_areLinked cX1_areLinked 3 (some .boolean), Cond.fieldLink RX1 9 "TimeNet$Wires" "laid" "[Z", Cond.methodLink RX1 26 yX1_place]
def wsX2_passOneTick_r3 : List Cond := [Cond.static yX1_place, Cond.code yX1_place cX1_place 2 (some .int), Cond.instanceMethod yX0_reaches, Cond.selects RX0 yX0_reaches yX0_reaches, Cond.code yX0_reaches cX0_reaches 3 (some .boolean), Cond.instanceMethod yX0_takeIfBetter, Cond.selects RX0 yX0_takeIfBetter yX0_takeIfBetter, Cond.code yX0_takeIfBetter cX0_takeIfBetter 6 none, Cond.methodLink RX2 183 yX2_steer, Cond.instanceMethod yX2_steer, Cond.selects RX2 yX2_steer yX2_steer, Cond.code yX2_steer cX2_steer 5 none, Cond.constantLong RX2 190 (2), Cond.constantLong RX2 192 (16), Cond.methodLink RX2 144 yX2_isNode, Cond.instanceMethod yX2_isNode, Cond.selects RX2 yX2_isNode yX2_isNode, Cond.code yX2_isNode cX2_isNode 2 (some .boolean), Cond.instanceMethod yX1_errorFrom, Cond.selects RX1 yX1_errorFrom yX1_errorFrom, Cond.code yX1_errorFrom cX1_errorFrom 5 (some .int), Cond.fieldLink RX1 15 "TimeNet$Wires" "delay" "[I", Cond.fieldLink RX1 19 "TimeNet$Wires" "told" "[I"]
def wsX2_passOneTick : List Cond := .code yX2_passOneTick cX2_passOneTick 3 none :: ((wsX2_passOneTick_r1 ++ (wsX2_passOneTick_r2 ++ wsX2_passOneTick_r3)) ++ wsX20 ++ wsX00 ++ wsX10)
def wsX2_tick_r1 : List Cond := [Cond.fieldLink RX2 53 "TimeNet" "tickCount" "I", Cond.methodLink RX2 56 yX2_requireWithin, Cond.static yX2_requireWithin, Cond.initialized RX2, Cond.code yX2_requireWithin cX2_requireWithin 3 none, Cond.classLink RX2 76 "java/lang/IllegalArgumentException", Cond.initialized "java/lang/IllegalArgumentException", Cond.methodLink RX2 110 yX2_passOneTick, Cond.instanceMethod yX2_passOneTick, Cond.selects RX2 yX2_passOneTick yX2_passOneTick, Cond.code yX2_passOneTick cX2_passOneTick 3 none, Cond.fieldLink RX2 49 "TimeNet" "nodeCount" "I", Cond.fieldLink RX2 22 "TimeNet" "offsetOf" "[J", Cond.fieldLink RX2 19 "TimeNet" "driftOf" "[I", Cond.fieldLink RX2 26 "TimeNet" "rateOf" "[J", Cond.fieldLink RX2 39 "TimeNet" "known" "LTimeNet$Knowledge;", Cond.methodLink RX2 180 yX2_announce, Cond.instanceMethod yX2_announce, Cond.selects RX2 yX2_announce yX2_announce, Cond.code yX2_announce cX2_announce 2 none, Cond.fieldLink RX2 43 "TimeNet" "heard" "LTimeNet$Knowledge;", Cond.instanceMethod yX0_copyFrom, Cond.initialized RX0, Cond.selects RX0 yX0_copyFrom yX0_copyFrom]
def wsX2_tick_r2 : List Cond := [Cond.code yX0_copyFrom cX0_copyFrom 3 none, Cond.fieldLink RX0 9 "TimeNet$Knowledge" "clockNode" "[I", Cond.fieldLink RX0 15 "TimeNet$Knowledge" "clockRank" "[I", Cond.fieldLink RX0 18 "TimeNet$Knowledge" "stepsAway" "[I", Cond.fieldLink RX0 21 "TimeNet$Knowledge" "knownFrom" "[I", Cond.methodLink RX2 167 yX2_listen, Cond.instanceMethod yX2_listen, Cond.selects RX2 yX2_listen yX2_listen, Cond.code yX2_listen cX2_listen 3 none, Cond.methodLink RX2 67 yX2_knowOnlyItself, Cond.instanceMethod yX2_knowOnlyItself, Cond.selects RX2 yX2_knowOnlyItself yX2_knowOnlyItself, Cond.code yX2_knowOnlyItself cX2_knowOnlyItself 2 none, Cond.methodLink RX2 157 yX2_rankOf, Cond.instanceMethod yX2_rankOf, Cond.selects RX2 yX2_rankOf yX2_rankOf, Cond.code yX2_rankOf cX2_rankOf 2 (some .int), Cond.fieldLink RX2 13 "TimeNet" "gradeOf" "[I", Cond.fieldLink RX2 16 "TimeNet" "varianceOf" "[I", Cond.instanceMethod yX0_start, Cond.selects RX0 yX0_start yX0_start, Cond.code yX0_start cX0_start 3 none, Cond.methodLink RX2 122 yX2_areNeighbours, Cond.instanceMethod yX2_areNeighbours]
def wsX2_tick_r3 : List Cond := [Cond.selects RX2 yX2_areNeighbours yX2_areNeighbours, Cond.code yX2_areNeighbours cX2_areNeighbours 3 (some .boolean), Cond.fieldLink RX2 9 "TimeNet" "domainOf" "[I", Cond.fieldLink RX2 32 "TimeNet" "wires" "LTimeNet$Wires;", Cond.instanceMethod yX1_areLinked, Cond.initialized RX1, Cond.selects RX1 yX1_areLinked yX1_areLinked, Cond.code yX1_areLinked cX1_areLinked 3 (some .boolean), Cond.fieldLink RX1 9 "TimeNet$Wires" "laid" "[Z", Cond.methodLink RX1 26 yX1_place, Cond.static yX1_place, Cond.code yX1_place cX1_place 2 (some .int), Cond.instanceMethod yX0_reaches, Cond.selects RX0 yX0_reaches yX0_reaches, Cond.code yX0_reaches cX0_reaches 3 (some .boolean), Cond.instanceMethod yX0_takeIfBetter, Cond.selects RX0 yX0_takeIfBetter yX0_takeIfBetter, Cond.code yX0_takeIfBetter cX0_takeIfBetter 6 none, Cond.methodLink RX2 183 yX2_steer, Cond.instanceMethod yX2_steer, Cond.selects RX2 yX2_steer yX2_steer, Cond.code yX2_steer cX2_steer 5 none, Cond.constantLong RX2 190 (2), Cond.constantLong RX2 192 (16)]
def wsX2_tick_r4 : List Cond := [Cond.methodLink RX2 144 yX2_isNode, Cond.instanceMethod yX2_isNode, Cond.selects RX2 yX2_isNode yX2_isNode, Cond.code yX2_isNode cX2_isNode 2 (some .boolean), Cond.instanceMethod yX1_errorFrom, Cond.selects RX1 yX1_errorFrom yX1_errorFrom, Cond.code yX1_errorFrom cX1_errorFrom 5 (some .int), Cond.fieldLink RX1 15 "TimeNet$Wires" "delay" "[I", Cond.fieldLink RX1 19 "TimeNet$Wires" "told" "[I"]
def wsX2_tick : List Cond := .code yX2_tick cX2_tick 3 (some .int) :: ((wsX2_tick_r1 ++ (wsX2_tick_r2 ++ (wsX2_tick_r3 ++ wsX2_tick_r4))) ++ wsX20 ++ wsX00 ++ wsX10 ++ (vx_atS RX2 80 "java/lang/IllegalArgumentException" ["java/lang/RuntimeException", "java/lang/Exception"]).filter goodWord)
def wsX2_nodes : List Cond := .code yX2_nodes cX2_nodes 1 (some .int) :: ([.fieldLink RX2 49 "TimeNet" "nodeCount" "I"] ++ wsX20)
def wsX2_links : List Cond := .code yX2_links cX2_links 1 (some .int) :: ([.fieldLink RX2 32 "TimeNet" "wires" "LTimeNet$Wires;"] ++ wsX20 ++ wsX10)
def wsX2_best : List Cond := .code yX2_best cX2_best 2 (some .int) :: ([.fieldLink RX2 39 "TimeNet" "known" "LTimeNet$Knowledge;", .methodLink RX2 71 yX2_requireNode, .instanceMethod yX2_requireNode, .selects RX2 yX2_requireNode yX2_requireNode, .initialized RX2, .code yX2_requireNode cX2_requireNode 2 none, .classLink RX2 148 "java/lang/IndexOutOfBoundsException", .initialized "java/lang/IndexOutOfBoundsException", .methodLink RX2 144 yX2_isNode, .instanceMethod yX2_isNode, .selects RX2 yX2_isNode yX2_isNode, .code yX2_isNode cX2_isNode 2 (some .boolean), .fieldLink RX2 49 "TimeNet" "nodeCount" "I"] ++ wsX20 ++ wsX00 ++ (vx_atS RX2 152 "java/lang/IndexOutOfBoundsException" ["java/lang/RuntimeException", "java/lang/Exception"]).filter goodWord)
def wsX2_steps : List Cond := .code yX2_steps cX2_steps 2 (some .int) :: ([.fieldLink RX2 39 "TimeNet" "known" "LTimeNet$Knowledge;", .methodLink RX2 71 yX2_requireNode, .instanceMethod yX2_requireNode, .selects RX2 yX2_requireNode yX2_requireNode, .initialized RX2, .code yX2_requireNode cX2_requireNode 2 none, .classLink RX2 148 "java/lang/IndexOutOfBoundsException", .initialized "java/lang/IndexOutOfBoundsException", .methodLink RX2 144 yX2_isNode, .instanceMethod yX2_isNode, .selects RX2 yX2_isNode yX2_isNode, .code yX2_isNode cX2_isNode 2 (some .boolean), .fieldLink RX2 49 "TimeNet" "nodeCount" "I"] ++ wsX20 ++ wsX00 ++ (vx_atS RX2 152 "java/lang/IndexOutOfBoundsException" ["java/lang/RuntimeException", "java/lang/Exception"]).filter goodWord)
def wsX2_parent : List Cond := .code yX2_parent cX2_parent 2 (some .int) :: ([.fieldLink RX2 39 "TimeNet" "known" "LTimeNet$Knowledge;", .methodLink RX2 71 yX2_requireNode, .instanceMethod yX2_requireNode, .selects RX2 yX2_requireNode yX2_requireNode, .initialized RX2, .code yX2_requireNode cX2_requireNode 2 none, .classLink RX2 148 "java/lang/IndexOutOfBoundsException", .initialized "java/lang/IndexOutOfBoundsException", .methodLink RX2 144 yX2_isNode, .instanceMethod yX2_isNode, .selects RX2 yX2_isNode yX2_isNode, .code yX2_isNode cX2_isNode 2 (some .boolean), .fieldLink RX2 49 "TimeNet" "nodeCount" "I"] ++ wsX20 ++ wsX00 ++ (vx_atS RX2 152 "java/lang/IndexOutOfBoundsException" ["java/lang/RuntimeException", "java/lang/Exception"]).filter goodWord)
def wsX2_isNearer : List Cond := .code yX2_isNearer cX2_isNearer 5 (some .boolean) :: ([.fieldLink RX2 39 "TimeNet" "known" "LTimeNet$Knowledge;"] ++ wsX20 ++ wsX00)
def wsX2_port_r1 : List Cond := [Cond.fieldLink RX2 39 "TimeNet" "known" "LTimeNet$Knowledge;", Cond.methodLink RX2 71 yX2_requireNode, Cond.instanceMethod yX2_requireNode, Cond.selects RX2 yX2_requireNode yX2_requireNode, Cond.initialized RX2, Cond.code yX2_requireNode cX2_requireNode 2 none, Cond.classLink RX2 148 "java/lang/IndexOutOfBoundsException", Cond.initialized "java/lang/IndexOutOfBoundsException", Cond.methodLink RX2 144 yX2_isNode, Cond.instanceMethod yX2_isNode, Cond.selects RX2 yX2_isNode yX2_isNode, Cond.code yX2_isNode cX2_isNode 2 (some .boolean), Cond.fieldLink RX2 49 "TimeNet" "nodeCount" "I", Cond.methodLink RX2 122 yX2_areNeighbours, Cond.instanceMethod yX2_areNeighbours, Cond.selects RX2 yX2_areNeighbours yX2_areNeighbours, Cond.code yX2_areNeighbours cX2_areNeighbours 3 (some .boolean), Cond.fieldLink RX2 9 "TimeNet" "domainOf" "[I", Cond.fieldLink RX2 32 "TimeNet" "wires" "LTimeNet$Wires;", Cond.instanceMethod yX1_areLinked, Cond.initialized RX1, Cond.selects RX1 yX1_areLinked yX1_areLinked, Cond.code yX1_areLinked cX1_areLinked 3 (some .boolean), Cond.fieldLink RX1 9 "TimeNet$Wires" "laid" "[Z"]
def wsX2_port_r2 : List Cond := [Cond.methodLink RX1 26 yX1_place, Cond.static yX1_place, Cond.code yX1_place cX1_place 2 (some .int), Cond.methodLink RX2 125 yX2_isNearer, Cond.instanceMethod yX2_isNearer, Cond.selects RX2 yX2_isNearer yX2_isNearer, Cond.code yX2_isNearer cX2_isNearer 5 (some .boolean)]
def wsX2_port : List Cond := .code yX2_port cX2_port 3 (some .int) :: ((wsX2_port_r1 ++ wsX2_port_r2) ++ wsX20 ++ wsX00 ++ wsX10 ++ (vx_atS RX2 152 "java/lang/IndexOutOfBoundsException" ["java/lang/RuntimeException", "java/lang/Exception"]).filter goodWord)
def wsX2_reachNeighbours : List Cond := .code yX2_reachNeighbours cX2_reachNeighbours 4 none :: ([.fieldLink RX2 49 "TimeNet" "nodeCount" "I", .fieldLink RX2 46 "TimeNet" "distanceTo" "[I", .methodLink RX2 122 yX2_areNeighbours, .instanceMethod yX2_areNeighbours, .selects RX2 yX2_areNeighbours yX2_areNeighbours, .initialized RX2, .code yX2_areNeighbours cX2_areNeighbours 3 (some .boolean), .fieldLink RX2 9 "TimeNet" "domainOf" "[I", .fieldLink RX2 32 "TimeNet" "wires" "LTimeNet$Wires;", .instanceMethod yX1_areLinked, .initialized RX1, .selects RX1 yX1_areLinked yX1_areLinked, .code yX1_areLinked cX1_areLinked 3 (some .boolean), .fieldLink RX1 9 "TimeNet$Wires" "laid" "[Z", .methodLink RX1 26 yX1_place, .static yX1_place, .code yX1_place cX1_place 2 (some .int)] ++ wsX20 ++ wsX10)
def wsX2_measureDistances : List Cond := .code yX2_measureDistances cX2_measureDistances 4 none :: ([.fieldLink RX2 49 "TimeNet" "nodeCount" "I", .fieldLink RX2 46 "TimeNet" "distanceTo" "[I", .methodLink RX2 177 yX2_reachNeighbours, .instanceMethod yX2_reachNeighbours, .selects RX2 yX2_reachNeighbours yX2_reachNeighbours, .initialized RX2, .code yX2_reachNeighbours cX2_reachNeighbours 4 none, .methodLink RX2 122 yX2_areNeighbours, .instanceMethod yX2_areNeighbours, .selects RX2 yX2_areNeighbours yX2_areNeighbours, .code yX2_areNeighbours cX2_areNeighbours 3 (some .boolean), .fieldLink RX2 9 "TimeNet" "domainOf" "[I", .fieldLink RX2 32 "TimeNet" "wires" "LTimeNet$Wires;", .instanceMethod yX1_areLinked, .initialized RX1, .selects RX1 yX1_areLinked yX1_areLinked, .code yX1_areLinked cX1_areLinked 3 (some .boolean), .fieldLink RX1 9 "TimeNet$Wires" "laid" "[Z", .methodLink RX1 26 yX1_place, .static yX1_place, .code yX1_place cX1_place 2 (some .int)] ++ wsX20 ++ wsX10)
def wsX2_bestInReach : List Cond := .code yX2_bestInReach cX2_bestInReach 4 (some .int) :: ([.fieldLink RX2 49 "TimeNet" "nodeCount" "I", .fieldLink RX2 46 "TimeNet" "distanceTo" "[I", .methodLink RX2 157 yX2_rankOf, .instanceMethod yX2_rankOf, .selects RX2 yX2_rankOf yX2_rankOf, .initialized RX2, .code yX2_rankOf cX2_rankOf 2 (some .int), .fieldLink RX2 13 "TimeNet" "gradeOf" "[I", .fieldLink RX2 16 "TimeNet" "varianceOf" "[I"] ++ wsX20)
def wsX2_bestByGraph_r1 : List Cond := [Cond.methodLink RX2 71 yX2_requireNode, Cond.instanceMethod yX2_requireNode, Cond.selects RX2 yX2_requireNode yX2_requireNode, Cond.initialized RX2, Cond.code yX2_requireNode cX2_requireNode 2 none, Cond.classLink RX2 148 "java/lang/IndexOutOfBoundsException", Cond.initialized "java/lang/IndexOutOfBoundsException", Cond.methodLink RX2 144 yX2_isNode, Cond.instanceMethod yX2_isNode, Cond.selects RX2 yX2_isNode yX2_isNode, Cond.code yX2_isNode cX2_isNode 2 (some .boolean), Cond.fieldLink RX2 49 "TimeNet" "nodeCount" "I", Cond.methodLink RX2 128 yX2_measureDistances, Cond.instanceMethod yX2_measureDistances, Cond.selects RX2 yX2_measureDistances yX2_measureDistances, Cond.code yX2_measureDistances cX2_measureDistances 4 none, Cond.fieldLink RX2 46 "TimeNet" "distanceTo" "[I", Cond.methodLink RX2 177 yX2_reachNeighbours, Cond.instanceMethod yX2_reachNeighbours, Cond.selects RX2 yX2_reachNeighbours yX2_reachNeighbours, Cond.code yX2_reachNeighbours cX2_reachNeighbours 4 none, Cond.methodLink RX2 122 yX2_areNeighbours, Cond.instanceMethod yX2_areNeighbours, Cond.selects RX2 yX2_areNeighbours yX2_areNeighbours]
def wsX2_bestByGraph_r2 : List Cond := [Cond.code yX2_areNeighbours cX2_areNeighbours 3 (some .boolean), Cond.fieldLink RX2 9 "TimeNet" "domainOf" "[I", Cond.fieldLink RX2 32 "TimeNet" "wires" "LTimeNet$Wires;", Cond.instanceMethod yX1_areLinked, Cond.initialized RX1, Cond.selects RX1 yX1_areLinked yX1_areLinked, Cond.code yX1_areLinked cX1_areLinked 3 (some .boolean), Cond.fieldLink RX1 9 "TimeNet$Wires" "laid" "[Z", Cond.methodLink RX1 26 yX1_place, Cond.static yX1_place, Cond.code yX1_place cX1_place 2 (some .int), Cond.methodLink RX2 131 yX2_bestInReach, Cond.instanceMethod yX2_bestInReach, Cond.selects RX2 yX2_bestInReach yX2_bestInReach, Cond.code yX2_bestInReach cX2_bestInReach 4 (some .int), Cond.methodLink RX2 157 yX2_rankOf, Cond.instanceMethod yX2_rankOf, Cond.selects RX2 yX2_rankOf yX2_rankOf, Cond.code yX2_rankOf cX2_rankOf 2 (some .int), Cond.fieldLink RX2 13 "TimeNet" "gradeOf" "[I", Cond.fieldLink RX2 16 "TimeNet" "varianceOf" "[I"]
def wsX2_bestByGraph : List Cond := .code yX2_bestByGraph cX2_bestByGraph 2 (some .int) :: ((wsX2_bestByGraph_r1 ++ wsX2_bestByGraph_r2) ++ wsX20 ++ wsX10 ++ (vx_atS RX2 152 "java/lang/IndexOutOfBoundsException" ["java/lang/RuntimeException", "java/lang/Exception"]).filter goodWord)
def wsX2_stepsByGraph_r1 : List Cond := [Cond.fieldLink RX2 46 "TimeNet" "distanceTo" "[I", Cond.methodLink RX2 71 yX2_requireNode, Cond.instanceMethod yX2_requireNode, Cond.selects RX2 yX2_requireNode yX2_requireNode, Cond.initialized RX2, Cond.code yX2_requireNode cX2_requireNode 2 none, Cond.classLink RX2 148 "java/lang/IndexOutOfBoundsException", Cond.initialized "java/lang/IndexOutOfBoundsException", Cond.methodLink RX2 144 yX2_isNode, Cond.instanceMethod yX2_isNode, Cond.selects RX2 yX2_isNode yX2_isNode, Cond.code yX2_isNode cX2_isNode 2 (some .boolean), Cond.fieldLink RX2 49 "TimeNet" "nodeCount" "I", Cond.methodLink RX2 128 yX2_measureDistances, Cond.instanceMethod yX2_measureDistances, Cond.selects RX2 yX2_measureDistances yX2_measureDistances, Cond.code yX2_measureDistances cX2_measureDistances 4 none, Cond.methodLink RX2 177 yX2_reachNeighbours, Cond.instanceMethod yX2_reachNeighbours, Cond.selects RX2 yX2_reachNeighbours yX2_reachNeighbours, Cond.code yX2_reachNeighbours cX2_reachNeighbours 4 none, Cond.methodLink RX2 122 yX2_areNeighbours, Cond.instanceMethod yX2_areNeighbours, Cond.selects RX2 yX2_areNeighbours yX2_areNeighbours]
def wsX2_stepsByGraph_r2 : List Cond := [Cond.code yX2_areNeighbours cX2_areNeighbours 3 (some .boolean), Cond.fieldLink RX2 9 "TimeNet" "domainOf" "[I", Cond.fieldLink RX2 32 "TimeNet" "wires" "LTimeNet$Wires;", Cond.instanceMethod yX1_areLinked, Cond.initialized RX1, Cond.selects RX1 yX1_areLinked yX1_areLinked, Cond.code yX1_areLinked cX1_areLinked 3 (some .boolean), Cond.fieldLink RX1 9 "TimeNet$Wires" "laid" "[Z", Cond.methodLink RX1 26 yX1_place, Cond.static yX1_place, Cond.code yX1_place cX1_place 2 (some .int), Cond.methodLink RX2 131 yX2_bestInReach, Cond.instanceMethod yX2_bestInReach, Cond.selects RX2 yX2_bestInReach yX2_bestInReach, Cond.code yX2_bestInReach cX2_bestInReach 4 (some .int), Cond.methodLink RX2 157 yX2_rankOf, Cond.instanceMethod yX2_rankOf, Cond.selects RX2 yX2_rankOf yX2_rankOf, Cond.code yX2_rankOf cX2_rankOf 2 (some .int), Cond.fieldLink RX2 13 "TimeNet" "gradeOf" "[I", Cond.fieldLink RX2 16 "TimeNet" "varianceOf" "[I"]
def wsX2_stepsByGraph : List Cond := .code yX2_stepsByGraph cX2_stepsByGraph 2 (some .int) :: ((wsX2_stepsByGraph_r1 ++ wsX2_stepsByGraph_r2) ++ wsX20 ++ wsX10 ++ (vx_atS RX2 152 "java/lang/IndexOutOfBoundsException" ["java/lang/RuntimeException", "java/lang/Exception"]).filter goodWord)
def wsX2_isSettled_r1 : List Cond := [Cond.fieldLink RX2 49 "TimeNet" "nodeCount" "I", Cond.fieldLink RX2 39 "TimeNet" "known" "LTimeNet$Knowledge;", Cond.fieldLink RX2 46 "TimeNet" "distanceTo" "[I", Cond.methodLink RX2 128 yX2_measureDistances, Cond.instanceMethod yX2_measureDistances, Cond.selects RX2 yX2_measureDistances yX2_measureDistances, Cond.initialized RX2, Cond.code yX2_measureDistances cX2_measureDistances 4 none, Cond.methodLink RX2 177 yX2_reachNeighbours, Cond.instanceMethod yX2_reachNeighbours, Cond.selects RX2 yX2_reachNeighbours yX2_reachNeighbours, Cond.code yX2_reachNeighbours cX2_reachNeighbours 4 none, Cond.methodLink RX2 122 yX2_areNeighbours, Cond.instanceMethod yX2_areNeighbours, Cond.selects RX2 yX2_areNeighbours yX2_areNeighbours, Cond.code yX2_areNeighbours cX2_areNeighbours 3 (some .boolean), Cond.fieldLink RX2 9 "TimeNet" "domainOf" "[I", Cond.fieldLink RX2 32 "TimeNet" "wires" "LTimeNet$Wires;", Cond.instanceMethod yX1_areLinked, Cond.initialized RX1, Cond.selects RX1 yX1_areLinked yX1_areLinked, Cond.code yX1_areLinked cX1_areLinked 3 (some .boolean), Cond.fieldLink RX1 9 "TimeNet$Wires" "laid" "[Z", Cond.methodLink RX1 26 yX1_place]
def wsX2_isSettled_r2 : List Cond := [Cond.static yX1_place, Cond.code yX1_place cX1_place 2 (some .int), Cond.methodLink RX2 131 yX2_bestInReach, Cond.instanceMethod yX2_bestInReach, Cond.selects RX2 yX2_bestInReach yX2_bestInReach, Cond.code yX2_bestInReach cX2_bestInReach 4 (some .int), Cond.methodLink RX2 157 yX2_rankOf, Cond.instanceMethod yX2_rankOf, Cond.selects RX2 yX2_rankOf yX2_rankOf, Cond.code yX2_rankOf cX2_rankOf 2 (some .int), Cond.fieldLink RX2 13 "TimeNet" "gradeOf" "[I", Cond.fieldLink RX2 16 "TimeNet" "varianceOf" "[I"]
def wsX2_isSettled : List Cond := .code yX2_isSettled cX2_isSettled 3 (some .boolean) :: ((wsX2_isSettled_r1 ++ wsX2_isSettled_r2) ++ wsX20 ++ wsX00 ++ wsX10)
def wsX2_offset : List Cond := .code yX2_offset cX2_offset 2 (some .long) :: ([.fieldLink RX2 22 "TimeNet" "offsetOf" "[J", .methodLink RX2 71 yX2_requireNode, .instanceMethod yX2_requireNode, .selects RX2 yX2_requireNode yX2_requireNode, .initialized RX2, .code yX2_requireNode cX2_requireNode 2 none, .classLink RX2 148 "java/lang/IndexOutOfBoundsException", .initialized "java/lang/IndexOutOfBoundsException", .methodLink RX2 144 yX2_isNode, .instanceMethod yX2_isNode, .selects RX2 yX2_isNode yX2_isNode, .code yX2_isNode cX2_isNode 2 (some .boolean), .fieldLink RX2 49 "TimeNet" "nodeCount" "I"] ++ wsX20 ++ (vx_atS RX2 152 "java/lang/IndexOutOfBoundsException" ["java/lang/RuntimeException", "java/lang/Exception"]).filter goodWord)
def wsX2_rate : List Cond := .code yX2_rate cX2_rate 2 (some .long) :: ([.fieldLink RX2 26 "TimeNet" "rateOf" "[J", .methodLink RX2 71 yX2_requireNode, .instanceMethod yX2_requireNode, .selects RX2 yX2_requireNode yX2_requireNode, .initialized RX2, .code yX2_requireNode cX2_requireNode 2 none, .classLink RX2 148 "java/lang/IndexOutOfBoundsException", .initialized "java/lang/IndexOutOfBoundsException", .methodLink RX2 144 yX2_isNode, .instanceMethod yX2_isNode, .selects RX2 yX2_isNode yX2_isNode, .code yX2_isNode cX2_isNode 2 (some .boolean), .fieldLink RX2 49 "TimeNet" "nodeCount" "I"] ++ wsX20 ++ (vx_atS RX2 152 "java/lang/IndexOutOfBoundsException" ["java/lang/RuntimeException", "java/lang/Exception"]).filter goodWord)
def wsX2_spread : List Cond := .code yX2_spread cX2_spread 8 (some .long) :: ([.fieldLink RX2 49 "TimeNet" "nodeCount" "I", .fieldLink RX2 9 "TimeNet" "domainOf" "[I", .fieldLink RX2 22 "TimeNet" "offsetOf" "[J", .methodLink RX2 135 Lib.MathLoose.min_long.x, .static Lib.MathLoose.min_long.x, .initialized "java/lang/Math", .code Lib.MathLoose.min_long.x Lib.MathLoose.min_long.code 4 (some .long), .methodLink RX2 141 Lib.MathLoose.max_long.x, .static Lib.MathLoose.max_long.x, .code Lib.MathLoose.max_long.x Lib.MathLoose.max_long.code 4 (some .long), .methodLink RX2 56 yX2_requireWithin, .static yX2_requireWithin, .initialized RX2, .code yX2_requireWithin cX2_requireWithin 3 none, .classLink RX2 76 "java/lang/IllegalArgumentException", .initialized "java/lang/IllegalArgumentException"] ++ wsX20 ++ (vx_atS RX2 80 "java/lang/IllegalArgumentException" ["java/lang/RuntimeException", "java/lang/Exception"]).filter goodWord)
def wsX3_init_r1 : List Cond := [Cond.methodLink RX3 1 objectInit, Cond.instanceMethod objectInit, Cond.code objectInit ⟨#[0xb1]⟩ 1 none, Cond.arrayClass .int, Cond.fieldLink RX3 7 "TimeNetModel" "domains" "[I", Cond.fieldLink RX3 13 "TimeNetModel" "grades" "[I", Cond.fieldLink RX3 16 "TimeNetModel" "variances" "[I", Cond.fieldLink RX3 19 "TimeNetModel" "drifts" "[I", Cond.arrayClass .long, Cond.fieldLink RX3 22 "TimeNetModel" "offsets" "[J", Cond.fieldLink RX3 26 "TimeNetModel" "rates" "[J", Cond.arrayClass .boolean, Cond.fieldLink RX3 29 "TimeNetModel" "isLinked" "[Z", Cond.fieldLink RX3 33 "TimeNetModel" "delays" "[I", Cond.fieldLink RX3 36 "TimeNetModel" "differences" "[I", Cond.fieldLink RX3 39 "TimeNetModel" "knownNode" "[I", Cond.fieldLink RX3 42 "TimeNetModel" "knownGrade" "[I", Cond.fieldLink RX3 45 "TimeNetModel" "knownVariance" "[I", Cond.fieldLink RX3 48 "TimeNetModel" "knownSteps" "[I", Cond.fieldLink RX3 51 "TimeNetModel" "parents" "[I", Cond.fieldLink RX3 54 "TimeNetModel" "nextNode" "[I", Cond.fieldLink RX3 57 "TimeNetModel" "nextGrade" "[I", Cond.fieldLink RX3 60 "TimeNetModel" "nextVariance" "[I", Cond.fieldLink RX3 63 "TimeNetModel" "nextSteps" "[I"]
def wsX3_init_r2 : List Cond := [Cond.fieldLink RX3 66 "TimeNetModel" "nextParents" "[I", Cond.fieldLink RX3 69 "TimeNetModel" "distances" "[I", Cond.fieldLink RX3 72 "TimeNetModel" "nodeMany" "I"]
def wsX3_init : List Cond := .code yX3_init cX3_init 1 none :: ((wsX3_init_r1 ++ wsX3_init_r2) ++ wsX30)
def wsX3_thrown : List Cond := .code yX3_thrown cX3_thrown 1 (some .int) :: ([.fieldLink RX3 76 "TimeNetModel" "thrown" "I"] ++ wsX30)
def wsX3_in : List Cond := .code yX3_in cX3_in 3 (some .boolean) :: ([])
def wsX3_isNode : List Cond := .code yX3_isNode cX3_isNode 2 (some .boolean) :: ([.fieldLink RX3 72 "TimeNetModel" "nodeMany" "I", .methodLink RX3 79 yX3_in, .static yX3_in, .initialized RX3, .code yX3_in cX3_in 3 (some .boolean)] ++ wsX30)
def wsX3_knowItself : List Cond := .code yX3_knowItself cX3_knowItself 2 none :: ([.fieldLink RX3 39 "TimeNetModel" "knownNode" "[I", .fieldLink RX3 42 "TimeNetModel" "knownGrade" "[I", .fieldLink RX3 13 "TimeNetModel" "grades" "[I", .fieldLink RX3 45 "TimeNetModel" "knownVariance" "[I", .fieldLink RX3 16 "TimeNetModel" "variances" "[I", .fieldLink RX3 48 "TimeNetModel" "knownSteps" "[I", .fieldLink RX3 51 "TimeNetModel" "parents" "[I"] ++ wsX30)
def wsX3_add : List Cond := .code yX3_add cX3_add 5 (some .int) :: ([.fieldLink RX3 72 "TimeNetModel" "nodeMany" "I", .fieldLink RX3 76 "TimeNetModel" "thrown" "I", .fieldLink RX3 7 "TimeNetModel" "domains" "[I", .fieldLink RX3 13 "TimeNetModel" "grades" "[I", .fieldLink RX3 16 "TimeNetModel" "variances" "[I", .fieldLink RX3 19 "TimeNetModel" "drifts" "[I", .methodLink RX3 79 yX3_in, .static yX3_in, .initialized RX3, .code yX3_in cX3_in 3 (some .boolean), .methodLink RX3 83 yX3_knowItself, .instanceMethod yX3_knowItself, .selects RX3 yX3_knowItself yX3_knowItself, .code yX3_knowItself cX3_knowItself 2 none, .fieldLink RX3 39 "TimeNetModel" "knownNode" "[I", .fieldLink RX3 42 "TimeNetModel" "knownGrade" "[I", .fieldLink RX3 45 "TimeNetModel" "knownVariance" "[I", .fieldLink RX3 48 "TimeNetModel" "knownSteps" "[I", .fieldLink RX3 51 "TimeNetModel" "parents" "[I"] ++ wsX30)
def wsX3_setClock : List Cond := .code yX3_setClock cX3_setClock 5 (some .int) :: ([.fieldLink RX3 76 "TimeNetModel" "thrown" "I", .fieldLink RX3 13 "TimeNetModel" "grades" "[I", .fieldLink RX3 16 "TimeNetModel" "variances" "[I", .methodLink RX3 87 yX3_isNode, .instanceMethod yX3_isNode, .selects RX3 yX3_isNode yX3_isNode, .initialized RX3, .code yX3_isNode cX3_isNode 2 (some .boolean), .fieldLink RX3 72 "TimeNetModel" "nodeMany" "I", .methodLink RX3 79 yX3_in, .static yX3_in, .code yX3_in cX3_in 3 (some .boolean)] ++ wsX30)
def wsX3_setDrift : List Cond := .code yX3_setDrift cX3_setDrift 4 (some .int) :: ([.fieldLink RX3 76 "TimeNetModel" "thrown" "I", .fieldLink RX3 19 "TimeNetModel" "drifts" "[I", .methodLink RX3 87 yX3_isNode, .instanceMethod yX3_isNode, .selects RX3 yX3_isNode yX3_isNode, .initialized RX3, .code yX3_isNode cX3_isNode 2 (some .boolean), .fieldLink RX3 72 "TimeNetModel" "nodeMany" "I", .methodLink RX3 79 yX3_in, .static yX3_in, .code yX3_in cX3_in 3 (some .boolean)] ++ wsX30)
def wsX3_setOffset : List Cond := .code yX3_setOffset cX3_setOffset 5 (some .long) :: ([.constant RX3 91 (-1000000), .constant RX3 92 (1000000), .fieldLink RX3 76 "TimeNetModel" "thrown" "I", .fieldLink RX3 22 "TimeNetModel" "offsets" "[J", .methodLink RX3 87 yX3_isNode, .instanceMethod yX3_isNode, .selects RX3 yX3_isNode yX3_isNode, .initialized RX3, .code yX3_isNode cX3_isNode 2 (some .boolean), .fieldLink RX3 72 "TimeNetModel" "nodeMany" "I", .methodLink RX3 79 yX3_in, .static yX3_in, .code yX3_in cX3_in 3 (some .boolean)] ++ wsX30)
def wsX3_link : List Cond := .code yX3_link cX3_link 5 (some .int) :: ([.constant RX3 93 (100000), .fieldLink RX3 29 "TimeNetModel" "isLinked" "[Z", .fieldLink RX3 76 "TimeNetModel" "thrown" "I", .fieldLink RX3 33 "TimeNetModel" "delays" "[I", .fieldLink RX3 36 "TimeNetModel" "differences" "[I", .fieldLink RX3 94 "TimeNetModel" "linkMany" "I", .methodLink RX3 87 yX3_isNode, .instanceMethod yX3_isNode, .selects RX3 yX3_isNode yX3_isNode, .initialized RX3, .code yX3_isNode cX3_isNode 2 (some .boolean), .fieldLink RX3 72 "TimeNetModel" "nodeMany" "I", .methodLink RX3 79 yX3_in, .static yX3_in, .code yX3_in cX3_in 3 (some .boolean)] ++ wsX30)
def wsX3_cut : List Cond := .code yX3_cut cX3_cut 3 (some .int) :: ([.fieldLink RX3 29 "TimeNetModel" "isLinked" "[Z", .fieldLink RX3 76 "TimeNetModel" "thrown" "I", .fieldLink RX3 51 "TimeNetModel" "parents" "[I", .fieldLink RX3 94 "TimeNetModel" "linkMany" "I", .methodLink RX3 87 yX3_isNode, .instanceMethod yX3_isNode, .selects RX3 yX3_isNode yX3_isNode, .initialized RX3, .code yX3_isNode cX3_isNode 2 (some .boolean), .fieldLink RX3 72 "TimeNetModel" "nodeMany" "I", .methodLink RX3 79 yX3_in, .static yX3_in, .code yX3_in cX3_in 3 (some .boolean), .methodLink RX3 83 yX3_knowItself, .instanceMethod yX3_knowItself, .selects RX3 yX3_knowItself yX3_knowItself, .code yX3_knowItself cX3_knowItself 2 none, .fieldLink RX3 39 "TimeNetModel" "knownNode" "[I", .fieldLink RX3 42 "TimeNetModel" "knownGrade" "[I", .fieldLink RX3 13 "TimeNetModel" "grades" "[I", .fieldLink RX3 45 "TimeNetModel" "knownVariance" "[I", .fieldLink RX3 16 "TimeNetModel" "variances" "[I", .fieldLink RX3 48 "TimeNetModel" "knownSteps" "[I"] ++ wsX30)
def wsX3_tell : List Cond := .code yX3_tell cX3_tell 5 (some .int) :: ([.constant RX3 97 (-100000), .constant RX3 93 (100000), .fieldLink RX3 29 "TimeNetModel" "isLinked" "[Z", .fieldLink RX3 76 "TimeNetModel" "thrown" "I", .fieldLink RX3 36 "TimeNetModel" "differences" "[I", .methodLink RX3 87 yX3_isNode, .instanceMethod yX3_isNode, .selects RX3 yX3_isNode yX3_isNode, .initialized RX3, .code yX3_isNode cX3_isNode 2 (some .boolean), .fieldLink RX3 72 "TimeNetModel" "nodeMany" "I", .methodLink RX3 79 yX3_in, .static yX3_in, .code yX3_in cX3_in 3 (some .boolean)] ++ wsX30)
def wsX3_areNeighbours : List Cond := .code yX3_areNeighbours cX3_areNeighbours 3 (some .boolean) :: ([.fieldLink RX3 29 "TimeNetModel" "isLinked" "[Z", .fieldLink RX3 7 "TimeNetModel" "domains" "[I"] ++ wsX30)
def wsX3_isBetter : List Cond := .code yX3_isBetter cX3_isBetter 3 (some .boolean) :: ([.fieldLink RX3 42 "TimeNetModel" "knownGrade" "[I", .fieldLink RX3 57 "TimeNetModel" "nextGrade" "[I", .fieldLink RX3 45 "TimeNetModel" "knownVariance" "[I", .fieldLink RX3 60 "TimeNetModel" "nextVariance" "[I", .fieldLink RX3 39 "TimeNetModel" "knownNode" "[I", .fieldLink RX3 54 "TimeNetModel" "nextNode" "[I", .fieldLink RX3 48 "TimeNetModel" "knownSteps" "[I", .fieldLink RX3 63 "TimeNetModel" "nextSteps" "[I"] ++ wsX30)
def wsX3_listen : List Cond := .code yX3_listen cX3_listen 4 none :: ([.fieldLink RX3 54 "TimeNetModel" "nextNode" "[I", .fieldLink RX3 57 "TimeNetModel" "nextGrade" "[I", .fieldLink RX3 13 "TimeNetModel" "grades" "[I", .fieldLink RX3 60 "TimeNetModel" "nextVariance" "[I", .fieldLink RX3 16 "TimeNetModel" "variances" "[I", .fieldLink RX3 63 "TimeNetModel" "nextSteps" "[I", .fieldLink RX3 66 "TimeNetModel" "nextParents" "[I", .fieldLink RX3 72 "TimeNetModel" "nodeMany" "I", .fieldLink RX3 48 "TimeNetModel" "knownSteps" "[I", .fieldLink RX3 51 "TimeNetModel" "parents" "[I", .fieldLink RX3 39 "TimeNetModel" "knownNode" "[I", .fieldLink RX3 42 "TimeNetModel" "knownGrade" "[I", .fieldLink RX3 45 "TimeNetModel" "knownVariance" "[I", .methodLink RX3 98 yX3_areNeighbours, .instanceMethod yX3_areNeighbours, .selects RX3 yX3_areNeighbours yX3_areNeighbours, .initialized RX3, .code yX3_areNeighbours cX3_areNeighbours 3 (some .boolean), .fieldLink RX3 29 "TimeNetModel" "isLinked" "[Z", .fieldLink RX3 7 "TimeNetModel" "domains" "[I", .methodLink RX3 102 yX3_isBetter, .instanceMethod yX3_isBetter, .selects RX3 yX3_isBetter yX3_isBetter, .code yX3_isBetter cX3_isBetter 3 (some .boolean)] ++ wsX30)
def wsX3_announce_r1 : List Cond := [Cond.fieldLink RX3 72 "TimeNetModel" "nodeMany" "I", Cond.fieldLink RX3 39 "TimeNetModel" "knownNode" "[I", Cond.fieldLink RX3 54 "TimeNetModel" "nextNode" "[I", Cond.fieldLink RX3 42 "TimeNetModel" "knownGrade" "[I", Cond.fieldLink RX3 57 "TimeNetModel" "nextGrade" "[I", Cond.fieldLink RX3 45 "TimeNetModel" "knownVariance" "[I", Cond.fieldLink RX3 60 "TimeNetModel" "nextVariance" "[I", Cond.fieldLink RX3 48 "TimeNetModel" "knownSteps" "[I", Cond.fieldLink RX3 63 "TimeNetModel" "nextSteps" "[I", Cond.fieldLink RX3 51 "TimeNetModel" "parents" "[I", Cond.fieldLink RX3 66 "TimeNetModel" "nextParents" "[I", Cond.methodLink RX3 105 yX3_listen, Cond.instanceMethod yX3_listen, Cond.selects RX3 yX3_listen yX3_listen, Cond.initialized RX3, Cond.code yX3_listen cX3_listen 4 none, Cond.fieldLink RX3 13 "TimeNetModel" "grades" "[I", Cond.fieldLink RX3 16 "TimeNetModel" "variances" "[I", Cond.methodLink RX3 98 yX3_areNeighbours, Cond.instanceMethod yX3_areNeighbours, Cond.selects RX3 yX3_areNeighbours yX3_areNeighbours, Cond.code yX3_areNeighbours cX3_areNeighbours 3 (some .boolean), Cond.fieldLink RX3 29 "TimeNetModel" "isLinked" "[Z", Cond.fieldLink RX3 7 "TimeNetModel" "domains" "[I"]
def wsX3_announce_r2 : List Cond := [Cond.methodLink RX3 102 yX3_isBetter, Cond.instanceMethod yX3_isBetter, Cond.selects RX3 yX3_isBetter yX3_isBetter, Cond.code yX3_isBetter cX3_isBetter 3 (some .boolean)]
def wsX3_announce : List Cond := .code yX3_announce cX3_announce 2 none :: ((wsX3_announce_r1 ++ wsX3_announce_r2) ++ wsX30)
def wsX3_steer : List Cond := .code yX3_steer cX3_steer 8 none :: ([.fieldLink RX3 51 "TimeNetModel" "parents" "[I", .fieldLink RX3 33 "TimeNetModel" "delays" "[I", .fieldLink RX3 36 "TimeNetModel" "differences" "[I", .fieldLink RX3 22 "TimeNetModel" "offsets" "[J", .constantLong RX3 108 (2), .fieldLink RX3 26 "TimeNetModel" "rates" "[J", .constantLong RX3 110 (16)] ++ wsX30)
def wsX3_tick_r1 : List Cond := [Cond.fieldLink RX3 76 "TimeNetModel" "thrown" "I", Cond.fieldLink RX3 72 "TimeNetModel" "nodeMany" "I", Cond.fieldLink RX3 22 "TimeNetModel" "offsets" "[J", Cond.fieldLink RX3 19 "TimeNetModel" "drifts" "[I", Cond.fieldLink RX3 26 "TimeNetModel" "rates" "[J", Cond.fieldLink RX3 51 "TimeNetModel" "parents" "[I", Cond.fieldLink RX3 48 "TimeNetModel" "knownSteps" "[I", Cond.fieldLink RX3 118 "TimeNetModel" "tickMany" "I", Cond.methodLink RX3 79 yX3_in, Cond.static yX3_in, Cond.initialized RX3, Cond.code yX3_in cX3_in 3 (some .boolean), Cond.methodLink RX3 112 yX3_announce, Cond.instanceMethod yX3_announce, Cond.selects RX3 yX3_announce yX3_announce, Cond.code yX3_announce cX3_announce 2 none, Cond.fieldLink RX3 39 "TimeNetModel" "knownNode" "[I", Cond.fieldLink RX3 54 "TimeNetModel" "nextNode" "[I", Cond.fieldLink RX3 42 "TimeNetModel" "knownGrade" "[I", Cond.fieldLink RX3 57 "TimeNetModel" "nextGrade" "[I", Cond.fieldLink RX3 45 "TimeNetModel" "knownVariance" "[I", Cond.fieldLink RX3 60 "TimeNetModel" "nextVariance" "[I", Cond.fieldLink RX3 63 "TimeNetModel" "nextSteps" "[I", Cond.fieldLink RX3 66 "TimeNetModel" "nextParents" "[I"]
def wsX3_tick_r2 : List Cond := [Cond.methodLink RX3 105 yX3_listen, Cond.instanceMethod yX3_listen, Cond.selects RX3 yX3_listen yX3_listen, Cond.code yX3_listen cX3_listen 4 none, Cond.fieldLink RX3 13 "TimeNetModel" "grades" "[I", Cond.fieldLink RX3 16 "TimeNetModel" "variances" "[I", Cond.methodLink RX3 98 yX3_areNeighbours, Cond.instanceMethod yX3_areNeighbours, Cond.selects RX3 yX3_areNeighbours yX3_areNeighbours, Cond.code yX3_areNeighbours cX3_areNeighbours 3 (some .boolean), Cond.fieldLink RX3 29 "TimeNetModel" "isLinked" "[Z", Cond.fieldLink RX3 7 "TimeNetModel" "domains" "[I", Cond.methodLink RX3 102 yX3_isBetter, Cond.instanceMethod yX3_isBetter, Cond.selects RX3 yX3_isBetter yX3_isBetter, Cond.code yX3_isBetter cX3_isBetter 3 (some .boolean), Cond.methodLink RX3 115 yX3_steer, Cond.instanceMethod yX3_steer, Cond.selects RX3 yX3_steer yX3_steer, Cond.code yX3_steer cX3_steer 8 none, Cond.fieldLink RX3 33 "TimeNetModel" "delays" "[I", Cond.fieldLink RX3 36 "TimeNetModel" "differences" "[I", Cond.constantLong RX3 108 (2), Cond.constantLong RX3 110 (16)]
def wsX3_tick : List Cond := .code yX3_tick cX3_tick 5 (some .int) :: ((wsX3_tick_r1 ++ wsX3_tick_r2) ++ wsX30)
def wsX3_nodes : List Cond := .code yX3_nodes cX3_nodes 1 (some .int) :: ([.fieldLink RX3 76 "TimeNetModel" "thrown" "I", .fieldLink RX3 72 "TimeNetModel" "nodeMany" "I"] ++ wsX30)
def wsX3_links : List Cond := .code yX3_links cX3_links 1 (some .int) :: ([.fieldLink RX3 76 "TimeNetModel" "thrown" "I", .fieldLink RX3 94 "TimeNetModel" "linkMany" "I"] ++ wsX30)
def wsX3_asksFor : List Cond := .code yX3_asksFor cX3_asksFor 2 (some .boolean) :: ([.fieldLink RX3 76 "TimeNetModel" "thrown" "I", .methodLink RX3 87 yX3_isNode, .instanceMethod yX3_isNode, .selects RX3 yX3_isNode yX3_isNode, .initialized RX3, .code yX3_isNode cX3_isNode 2 (some .boolean), .fieldLink RX3 72 "TimeNetModel" "nodeMany" "I", .methodLink RX3 79 yX3_in, .static yX3_in, .code yX3_in cX3_in 3 (some .boolean)] ++ wsX30)
def wsX3_best : List Cond := .code yX3_best cX3_best 2 (some .int) :: ([.fieldLink RX3 39 "TimeNetModel" "knownNode" "[I", .methodLink RX3 121 yX3_asksFor, .instanceMethod yX3_asksFor, .selects RX3 yX3_asksFor yX3_asksFor, .initialized RX3, .code yX3_asksFor cX3_asksFor 2 (some .boolean), .fieldLink RX3 76 "TimeNetModel" "thrown" "I", .methodLink RX3 87 yX3_isNode, .instanceMethod yX3_isNode, .selects RX3 yX3_isNode yX3_isNode, .code yX3_isNode cX3_isNode 2 (some .boolean), .fieldLink RX3 72 "TimeNetModel" "nodeMany" "I", .methodLink RX3 79 yX3_in, .static yX3_in, .code yX3_in cX3_in 3 (some .boolean)] ++ wsX30)
def wsX3_steps : List Cond := .code yX3_steps cX3_steps 2 (some .int) :: ([.fieldLink RX3 48 "TimeNetModel" "knownSteps" "[I", .methodLink RX3 121 yX3_asksFor, .instanceMethod yX3_asksFor, .selects RX3 yX3_asksFor yX3_asksFor, .initialized RX3, .code yX3_asksFor cX3_asksFor 2 (some .boolean), .fieldLink RX3 76 "TimeNetModel" "thrown" "I", .methodLink RX3 87 yX3_isNode, .instanceMethod yX3_isNode, .selects RX3 yX3_isNode yX3_isNode, .code yX3_isNode cX3_isNode 2 (some .boolean), .fieldLink RX3 72 "TimeNetModel" "nodeMany" "I", .methodLink RX3 79 yX3_in, .static yX3_in, .code yX3_in cX3_in 3 (some .boolean)] ++ wsX30)
def wsX3_parent : List Cond := .code yX3_parent cX3_parent 2 (some .int) :: ([.fieldLink RX3 51 "TimeNetModel" "parents" "[I", .methodLink RX3 121 yX3_asksFor, .instanceMethod yX3_asksFor, .selects RX3 yX3_asksFor yX3_asksFor, .initialized RX3, .code yX3_asksFor cX3_asksFor 2 (some .boolean), .fieldLink RX3 76 "TimeNetModel" "thrown" "I", .methodLink RX3 87 yX3_isNode, .instanceMethod yX3_isNode, .selects RX3 yX3_isNode yX3_isNode, .code yX3_isNode cX3_isNode 2 (some .boolean), .fieldLink RX3 72 "TimeNetModel" "nodeMany" "I", .methodLink RX3 79 yX3_in, .static yX3_in, .code yX3_in cX3_in 3 (some .boolean)] ++ wsX30)
def wsX3_port : List Cond := .code yX3_port cX3_port 4 (some .int) :: ([.fieldLink RX3 76 "TimeNetModel" "thrown" "I", .fieldLink RX3 51 "TimeNetModel" "parents" "[I", .fieldLink RX3 48 "TimeNetModel" "knownSteps" "[I", .methodLink RX3 87 yX3_isNode, .instanceMethod yX3_isNode, .selects RX3 yX3_isNode yX3_isNode, .initialized RX3, .code yX3_isNode cX3_isNode 2 (some .boolean), .fieldLink RX3 72 "TimeNetModel" "nodeMany" "I", .methodLink RX3 79 yX3_in, .static yX3_in, .code yX3_in cX3_in 3 (some .boolean), .methodLink RX3 98 yX3_areNeighbours, .instanceMethod yX3_areNeighbours, .selects RX3 yX3_areNeighbours yX3_areNeighbours, .code yX3_areNeighbours cX3_areNeighbours 3 (some .boolean), .fieldLink RX3 29 "TimeNetModel" "isLinked" "[Z", .fieldLink RX3 7 "TimeNetModel" "domains" "[I"] ++ wsX30)
def wsX3_layDistances : List Cond := .code yX3_layDistances cX3_layDistances 5 none :: ([.fieldLink RX3 72 "TimeNetModel" "nodeMany" "I", .fieldLink RX3 69 "TimeNetModel" "distances" "[I", .methodLink RX3 98 yX3_areNeighbours, .instanceMethod yX3_areNeighbours, .selects RX3 yX3_areNeighbours yX3_areNeighbours, .initialized RX3, .code yX3_areNeighbours cX3_areNeighbours 3 (some .boolean), .fieldLink RX3 29 "TimeNetModel" "isLinked" "[Z", .fieldLink RX3 7 "TimeNetModel" "domains" "[I"] ++ wsX30)
def wsX3_bestReached : List Cond := .code yX3_bestReached cX3_bestReached 7 (some .int) :: ([.fieldLink RX3 72 "TimeNetModel" "nodeMany" "I", .fieldLink RX3 13 "TimeNetModel" "grades" "[I", .fieldLink RX3 16 "TimeNetModel" "variances" "[I", .fieldLink RX3 69 "TimeNetModel" "distances" "[I", .methodLink RX3 124 yX3_layDistances, .instanceMethod yX3_layDistances, .selects RX3 yX3_layDistances yX3_layDistances, .initialized RX3, .code yX3_layDistances cX3_layDistances 5 none, .methodLink RX3 98 yX3_areNeighbours, .instanceMethod yX3_areNeighbours, .selects RX3 yX3_areNeighbours yX3_areNeighbours, .code yX3_areNeighbours cX3_areNeighbours 3 (some .boolean), .fieldLink RX3 29 "TimeNetModel" "isLinked" "[Z", .fieldLink RX3 7 "TimeNetModel" "domains" "[I"] ++ wsX30)
def wsX3_bestByGraph_r1 : List Cond := [Cond.methodLink RX3 121 yX3_asksFor, Cond.instanceMethod yX3_asksFor, Cond.selects RX3 yX3_asksFor yX3_asksFor, Cond.initialized RX3, Cond.code yX3_asksFor cX3_asksFor 2 (some .boolean), Cond.fieldLink RX3 76 "TimeNetModel" "thrown" "I", Cond.methodLink RX3 87 yX3_isNode, Cond.instanceMethod yX3_isNode, Cond.selects RX3 yX3_isNode yX3_isNode, Cond.code yX3_isNode cX3_isNode 2 (some .boolean), Cond.fieldLink RX3 72 "TimeNetModel" "nodeMany" "I", Cond.methodLink RX3 79 yX3_in, Cond.static yX3_in, Cond.code yX3_in cX3_in 3 (some .boolean), Cond.methodLink RX3 127 yX3_bestReached, Cond.instanceMethod yX3_bestReached, Cond.selects RX3 yX3_bestReached yX3_bestReached, Cond.code yX3_bestReached cX3_bestReached 7 (some .int), Cond.fieldLink RX3 13 "TimeNetModel" "grades" "[I", Cond.fieldLink RX3 16 "TimeNetModel" "variances" "[I", Cond.fieldLink RX3 69 "TimeNetModel" "distances" "[I", Cond.methodLink RX3 124 yX3_layDistances, Cond.instanceMethod yX3_layDistances, Cond.selects RX3 yX3_layDistances yX3_layDistances]
def wsX3_bestByGraph_r2 : List Cond := [Cond.code yX3_layDistances cX3_layDistances 5 none, Cond.methodLink RX3 98 yX3_areNeighbours, Cond.instanceMethod yX3_areNeighbours, Cond.selects RX3 yX3_areNeighbours yX3_areNeighbours, Cond.code yX3_areNeighbours cX3_areNeighbours 3 (some .boolean), Cond.fieldLink RX3 29 "TimeNetModel" "isLinked" "[Z", Cond.fieldLink RX3 7 "TimeNetModel" "domains" "[I"]
def wsX3_bestByGraph : List Cond := .code yX3_bestByGraph cX3_bestByGraph 2 (some .int) :: ((wsX3_bestByGraph_r1 ++ wsX3_bestByGraph_r2) ++ wsX30)
def wsX3_stepsByGraph_r1 : List Cond := [Cond.fieldLink RX3 69 "TimeNetModel" "distances" "[I", Cond.methodLink RX3 121 yX3_asksFor, Cond.instanceMethod yX3_asksFor, Cond.selects RX3 yX3_asksFor yX3_asksFor, Cond.initialized RX3, Cond.code yX3_asksFor cX3_asksFor 2 (some .boolean), Cond.fieldLink RX3 76 "TimeNetModel" "thrown" "I", Cond.methodLink RX3 87 yX3_isNode, Cond.instanceMethod yX3_isNode, Cond.selects RX3 yX3_isNode yX3_isNode, Cond.code yX3_isNode cX3_isNode 2 (some .boolean), Cond.fieldLink RX3 72 "TimeNetModel" "nodeMany" "I", Cond.methodLink RX3 79 yX3_in, Cond.static yX3_in, Cond.code yX3_in cX3_in 3 (some .boolean), Cond.methodLink RX3 127 yX3_bestReached, Cond.instanceMethod yX3_bestReached, Cond.selects RX3 yX3_bestReached yX3_bestReached, Cond.code yX3_bestReached cX3_bestReached 7 (some .int), Cond.fieldLink RX3 13 "TimeNetModel" "grades" "[I", Cond.fieldLink RX3 16 "TimeNetModel" "variances" "[I", Cond.methodLink RX3 124 yX3_layDistances, Cond.instanceMethod yX3_layDistances, Cond.selects RX3 yX3_layDistances yX3_layDistances]
def wsX3_stepsByGraph_r2 : List Cond := [Cond.code yX3_layDistances cX3_layDistances 5 none, Cond.methodLink RX3 98 yX3_areNeighbours, Cond.instanceMethod yX3_areNeighbours, Cond.selects RX3 yX3_areNeighbours yX3_areNeighbours, Cond.code yX3_areNeighbours cX3_areNeighbours 3 (some .boolean), Cond.fieldLink RX3 29 "TimeNetModel" "isLinked" "[Z", Cond.fieldLink RX3 7 "TimeNetModel" "domains" "[I"]
def wsX3_stepsByGraph : List Cond := .code yX3_stepsByGraph cX3_stepsByGraph 2 (some .int) :: ((wsX3_stepsByGraph_r1 ++ wsX3_stepsByGraph_r2) ++ wsX30)
def wsX3_isSettled : List Cond := .code yX3_isSettled cX3_isSettled 4 (some .boolean) :: ([.fieldLink RX3 76 "TimeNetModel" "thrown" "I", .fieldLink RX3 72 "TimeNetModel" "nodeMany" "I", .fieldLink RX3 39 "TimeNetModel" "knownNode" "[I", .fieldLink RX3 48 "TimeNetModel" "knownSteps" "[I", .fieldLink RX3 69 "TimeNetModel" "distances" "[I", .methodLink RX3 127 yX3_bestReached, .instanceMethod yX3_bestReached, .selects RX3 yX3_bestReached yX3_bestReached, .initialized RX3, .code yX3_bestReached cX3_bestReached 7 (some .int), .fieldLink RX3 13 "TimeNetModel" "grades" "[I", .fieldLink RX3 16 "TimeNetModel" "variances" "[I", .methodLink RX3 124 yX3_layDistances, .instanceMethod yX3_layDistances, .selects RX3 yX3_layDistances yX3_layDistances, .code yX3_layDistances cX3_layDistances 5 none, .methodLink RX3 98 yX3_areNeighbours, .instanceMethod yX3_areNeighbours, .selects RX3 yX3_areNeighbours yX3_areNeighbours, .code yX3_areNeighbours cX3_areNeighbours 3 (some .boolean), .fieldLink RX3 29 "TimeNetModel" "isLinked" "[Z", .fieldLink RX3 7 "TimeNetModel" "domains" "[I"] ++ wsX30)
def wsX3_offset : List Cond := .code yX3_offset cX3_offset 2 (some .long) :: ([.fieldLink RX3 22 "TimeNetModel" "offsets" "[J", .methodLink RX3 121 yX3_asksFor, .instanceMethod yX3_asksFor, .selects RX3 yX3_asksFor yX3_asksFor, .initialized RX3, .code yX3_asksFor cX3_asksFor 2 (some .boolean), .fieldLink RX3 76 "TimeNetModel" "thrown" "I", .methodLink RX3 87 yX3_isNode, .instanceMethod yX3_isNode, .selects RX3 yX3_isNode yX3_isNode, .code yX3_isNode cX3_isNode 2 (some .boolean), .fieldLink RX3 72 "TimeNetModel" "nodeMany" "I", .methodLink RX3 79 yX3_in, .static yX3_in, .code yX3_in cX3_in 3 (some .boolean)] ++ wsX30)
def wsX3_rate : List Cond := .code yX3_rate cX3_rate 2 (some .long) :: ([.fieldLink RX3 26 "TimeNetModel" "rates" "[J", .methodLink RX3 121 yX3_asksFor, .instanceMethod yX3_asksFor, .selects RX3 yX3_asksFor yX3_asksFor, .initialized RX3, .code yX3_asksFor cX3_asksFor 2 (some .boolean), .fieldLink RX3 76 "TimeNetModel" "thrown" "I", .methodLink RX3 87 yX3_isNode, .instanceMethod yX3_isNode, .selects RX3 yX3_isNode yX3_isNode, .code yX3_isNode cX3_isNode 2 (some .boolean), .fieldLink RX3 72 "TimeNetModel" "nodeMany" "I", .methodLink RX3 79 yX3_in, .static yX3_in, .code yX3_in cX3_in 3 (some .boolean)] ++ wsX30)
def wsX3_spread : List Cond := .code yX3_spread cX3_spread 8 (some .long) :: ([.fieldLink RX3 76 "TimeNetModel" "thrown" "I", .fieldLink RX3 72 "TimeNetModel" "nodeMany" "I", .fieldLink RX3 22 "TimeNetModel" "offsets" "[J", .fieldLink RX3 7 "TimeNetModel" "domains" "[I", .methodLink RX3 79 yX3_in, .static yX3_in, .initialized RX3, .code yX3_in cX3_in 3 (some .boolean)] ++ wsX30)
def wsJ9_max_f86c9 : List Cond := .code yJ9_max_f86c9 cJ9_max_f86c9 4 (some .long) :: ([])
def wsJ9_min_f86c9 : List Cond := .code yJ9_min_f86c9 cJ9_min_f86c9 4 (some .long) :: ([])
theorem dX0_init_0 : decode cX0_init 0 = .ok (.aload_n 0, 1) := by decide +kernel
theorem dX0_init_1 : decode cX0_init 1 = .ok (.invokespecial 3, 3) := by decide +kernel
theorem dX0_init_4 : decode cX0_init 4 = .ok (.aload_n 0, 1) := by decide +kernel
theorem dX0_init_5 : decode cX0_init 5 = .ok (.bipush 10, 2) := by decide +kernel
theorem dX0_init_7 : decode cX0_init 7 = .ok (.newarray .int, 2) := by decide +kernel
theorem dX0_init_9 : decode cX0_init 9 = .ok (.putfield 9, 3) := by decide +kernel
theorem dX0_init_12 : decode cX0_init 12 = .ok (.aload_n 0, 1) := by decide +kernel
theorem dX0_init_13 : decode cX0_init 13 = .ok (.bipush 10, 2) := by decide +kernel
theorem dX0_init_15 : decode cX0_init 15 = .ok (.newarray .int, 2) := by decide +kernel
theorem dX0_init_17 : decode cX0_init 17 = .ok (.putfield 15, 3) := by decide +kernel
theorem dX0_init_20 : decode cX0_init 20 = .ok (.aload_n 0, 1) := by decide +kernel
theorem dX0_init_21 : decode cX0_init 21 = .ok (.bipush 10, 2) := by decide +kernel
theorem dX0_init_23 : decode cX0_init 23 = .ok (.newarray .int, 2) := by decide +kernel
theorem dX0_init_25 : decode cX0_init 25 = .ok (.putfield 18, 3) := by decide +kernel
theorem dX0_init_28 : decode cX0_init 28 = .ok (.aload_n 0, 1) := by decide +kernel
theorem dX0_init_29 : decode cX0_init 29 = .ok (.bipush 10, 2) := by decide +kernel
theorem dX0_init_31 : decode cX0_init 31 = .ok (.newarray .int, 2) := by decide +kernel
theorem dX0_init_33 : decode cX0_init 33 = .ok (.putfield 21, 3) := by decide +kernel
theorem dX0_init_36 : decode cX0_init 36 = .ok (.return_, 1) := by decide +kernel
theorem dX0_start_0 : decode cX0_start 0 = .ok (.aload_n 0, 1) := by decide +kernel
theorem dX0_start_1 : decode cX0_start 1 = .ok (.getfield 9, 3) := by decide +kernel
theorem dX0_start_4 : decode cX0_start 4 = .ok (.iload_n 1, 1) := by decide +kernel
theorem dX0_start_5 : decode cX0_start 5 = .ok (.iload_n 1, 1) := by decide +kernel
theorem dX0_start_6 : decode cX0_start 6 = .ok (.iastore, 1) := by decide +kernel
theorem dX0_start_7 : decode cX0_start 7 = .ok (.aload_n 0, 1) := by decide +kernel
theorem dX0_start_8 : decode cX0_start 8 = .ok (.getfield 15, 3) := by decide +kernel
theorem dX0_start_11 : decode cX0_start 11 = .ok (.iload_n 1, 1) := by decide +kernel
theorem dX0_start_12 : decode cX0_start 12 = .ok (.iload_n 2, 1) := by decide +kernel
theorem dX0_start_13 : decode cX0_start 13 = .ok (.iastore, 1) := by decide +kernel
theorem dX0_start_14 : decode cX0_start 14 = .ok (.aload_n 0, 1) := by decide +kernel
theorem dX0_start_15 : decode cX0_start 15 = .ok (.getfield 18, 3) := by decide +kernel
theorem dX0_start_18 : decode cX0_start 18 = .ok (.iload_n 1, 1) := by decide +kernel
theorem dX0_start_19 : decode cX0_start 19 = .ok (.iconst 0, 1) := by decide +kernel
theorem dX0_start_20 : decode cX0_start 20 = .ok (.iastore, 1) := by decide +kernel
theorem dX0_start_21 : decode cX0_start 21 = .ok (.aload_n 0, 1) := by decide +kernel
theorem dX0_start_22 : decode cX0_start 22 = .ok (.getfield 21, 3) := by decide +kernel
theorem dX0_start_25 : decode cX0_start 25 = .ok (.iload_n 1, 1) := by decide +kernel
theorem dX0_start_26 : decode cX0_start 26 = .ok (.iconst (-1), 1) := by decide +kernel
theorem dX0_start_27 : decode cX0_start 27 = .ok (.iastore, 1) := by decide +kernel
theorem dX0_start_28 : decode cX0_start 28 = .ok (.return_, 1) := by decide +kernel
theorem dX0_copyFrom_0 : decode cX0_copyFrom 0 = .ok (.iconst 0, 1) := by decide +kernel
theorem dX0_copyFrom_1 : decode cX0_copyFrom 1 = .ok (.istore_n 2, 1) := by decide +kernel
theorem dX0_copyFrom_2 : decode cX0_copyFrom 2 = .ok (.iload_n 2, 1) := by decide +kernel
theorem dX0_copyFrom_3 : decode cX0_copyFrom 3 = .ok (.bipush 10, 2) := by decide +kernel
theorem dX0_copyFrom_5 : decode cX0_copyFrom 5 = .ok (.if_icmp .ge 57, 3) := by decide +kernel
theorem dX0_copyFrom_8 : decode cX0_copyFrom 8 = .ok (.aload_n 0, 1) := by decide +kernel
theorem dX0_copyFrom_9 : decode cX0_copyFrom 9 = .ok (.getfield 9, 3) := by decide +kernel
theorem dX0_copyFrom_12 : decode cX0_copyFrom 12 = .ok (.iload_n 2, 1) := by decide +kernel
theorem dX0_copyFrom_13 : decode cX0_copyFrom 13 = .ok (.aload_n 1, 1) := by decide +kernel
theorem dX0_copyFrom_14 : decode cX0_copyFrom 14 = .ok (.getfield 9, 3) := by decide +kernel
theorem dX0_copyFrom_17 : decode cX0_copyFrom 17 = .ok (.iload_n 2, 1) := by decide +kernel
theorem dX0_copyFrom_18 : decode cX0_copyFrom 18 = .ok (.iaload, 1) := by decide +kernel
theorem dX0_copyFrom_19 : decode cX0_copyFrom 19 = .ok (.iastore, 1) := by decide +kernel
theorem dX0_copyFrom_20 : decode cX0_copyFrom 20 = .ok (.aload_n 0, 1) := by decide +kernel
theorem dX0_copyFrom_21 : decode cX0_copyFrom 21 = .ok (.getfield 15, 3) := by decide +kernel
theorem dX0_copyFrom_24 : decode cX0_copyFrom 24 = .ok (.iload_n 2, 1) := by decide +kernel
theorem dX0_copyFrom_25 : decode cX0_copyFrom 25 = .ok (.aload_n 1, 1) := by decide +kernel
theorem dX0_copyFrom_26 : decode cX0_copyFrom 26 = .ok (.getfield 15, 3) := by decide +kernel
theorem dX0_copyFrom_29 : decode cX0_copyFrom 29 = .ok (.iload_n 2, 1) := by decide +kernel
theorem dX0_copyFrom_30 : decode cX0_copyFrom 30 = .ok (.iaload, 1) := by decide +kernel
theorem dX0_copyFrom_31 : decode cX0_copyFrom 31 = .ok (.iastore, 1) := by decide +kernel
theorem dX0_copyFrom_32 : decode cX0_copyFrom 32 = .ok (.aload_n 0, 1) := by decide +kernel
theorem dX0_copyFrom_33 : decode cX0_copyFrom 33 = .ok (.getfield 18, 3) := by decide +kernel
theorem dX0_copyFrom_36 : decode cX0_copyFrom 36 = .ok (.iload_n 2, 1) := by decide +kernel
theorem dX0_copyFrom_37 : decode cX0_copyFrom 37 = .ok (.aload_n 1, 1) := by decide +kernel
theorem dX0_copyFrom_38 : decode cX0_copyFrom 38 = .ok (.getfield 18, 3) := by decide +kernel
theorem dX0_copyFrom_41 : decode cX0_copyFrom 41 = .ok (.iload_n 2, 1) := by decide +kernel
theorem dX0_copyFrom_42 : decode cX0_copyFrom 42 = .ok (.iaload, 1) := by decide +kernel
theorem dX0_copyFrom_43 : decode cX0_copyFrom 43 = .ok (.iastore, 1) := by decide +kernel
theorem dX0_copyFrom_44 : decode cX0_copyFrom 44 = .ok (.aload_n 0, 1) := by decide +kernel
theorem dX0_copyFrom_45 : decode cX0_copyFrom 45 = .ok (.getfield 21, 3) := by decide +kernel
theorem dX0_copyFrom_48 : decode cX0_copyFrom 48 = .ok (.iload_n 2, 1) := by decide +kernel
theorem dX0_copyFrom_49 : decode cX0_copyFrom 49 = .ok (.aload_n 1, 1) := by decide +kernel
theorem dX0_copyFrom_50 : decode cX0_copyFrom 50 = .ok (.getfield 21, 3) := by decide +kernel
theorem dX0_copyFrom_53 : decode cX0_copyFrom 53 = .ok (.iload_n 2, 1) := by decide +kernel
theorem dX0_copyFrom_54 : decode cX0_copyFrom 54 = .ok (.iaload, 1) := by decide +kernel
theorem dX0_copyFrom_55 : decode cX0_copyFrom 55 = .ok (.iastore, 1) := by decide +kernel
theorem dX0_copyFrom_56 : decode cX0_copyFrom 56 = .ok (.iinc 2 1, 3) := by decide +kernel
theorem dX0_copyFrom_59 : decode cX0_copyFrom 59 = .ok (.goto (-57), 3) := by decide +kernel
theorem dX0_copyFrom_62 : decode cX0_copyFrom 62 = .ok (.return_, 1) := by decide +kernel
theorem dX0_reaches_0 : decode cX0_reaches 0 = .ok (.aload_n 0, 1) := by decide +kernel
theorem dX0_reaches_1 : decode cX0_reaches 1 = .ok (.getfield 18, 3) := by decide +kernel
theorem dX0_reaches_4 : decode cX0_reaches 4 = .ok (.iload_n 1, 1) := by decide +kernel
theorem dX0_reaches_5 : decode cX0_reaches 5 = .ok (.iaload, 1) := by decide +kernel
theorem dX0_reaches_6 : decode cX0_reaches 6 = .ok (.bipush 9, 2) := by decide +kernel
theorem dX0_reaches_8 : decode cX0_reaches 8 = .ok (.if_icmp .ge 17, 3) := by decide +kernel
theorem dX0_reaches_11 : decode cX0_reaches 11 = .ok (.aload_n 0, 1) := by decide +kernel
theorem dX0_reaches_12 : decode cX0_reaches 12 = .ok (.getfield 21, 3) := by decide +kernel
theorem dX0_reaches_15 : decode cX0_reaches 15 = .ok (.iload_n 1, 1) := by decide +kernel
theorem dX0_reaches_16 : decode cX0_reaches 16 = .ok (.iaload, 1) := by decide +kernel
theorem dX0_reaches_17 : decode cX0_reaches 17 = .ok (.iload_n 2, 1) := by decide +kernel
theorem dX0_reaches_18 : decode cX0_reaches 18 = .ok (.if_icmp .eq 7, 3) := by decide +kernel
theorem dX0_reaches_21 : decode cX0_reaches 21 = .ok (.iconst 1, 1) := by decide +kernel
theorem dX0_reaches_22 : decode cX0_reaches 22 = .ok (.goto 4, 3) := by decide +kernel
theorem dX0_reaches_25 : decode cX0_reaches 25 = .ok (.iconst 0, 1) := by decide +kernel
theorem dX0_reaches_26 : decode cX0_reaches 26 = .ok (.ireturn, 1) := by decide +kernel
theorem dX0_takeIfBetter_0 : decode cX0_takeIfBetter 0 = .ok (.aload_n 3, 1) := by decide +kernel
theorem dX0_takeIfBetter_1 : decode cX0_takeIfBetter 1 = .ok (.getfield 15, 3) := by decide +kernel
theorem dX0_takeIfBetter_4 : decode cX0_takeIfBetter 4 = .ok (.iload_n 2, 1) := by decide +kernel
theorem dX0_takeIfBetter_5 : decode cX0_takeIfBetter 5 = .ok (.iaload, 1) := by decide +kernel
theorem dX0_takeIfBetter_6 : decode cX0_takeIfBetter 6 = .ok (.istore 4, 2) := by decide +kernel
theorem dX0_takeIfBetter_8 : decode cX0_takeIfBetter 8 = .ok (.aload_n 3, 1) := by decide +kernel
theorem dX0_takeIfBetter_9 : decode cX0_takeIfBetter 9 = .ok (.getfield 18, 3) := by decide +kernel
theorem dX0_takeIfBetter_12 : decode cX0_takeIfBetter 12 = .ok (.iload_n 2, 1) := by decide +kernel
theorem dX0_takeIfBetter_13 : decode cX0_takeIfBetter 13 = .ok (.iaload, 1) := by decide +kernel
theorem dX0_takeIfBetter_14 : decode cX0_takeIfBetter 14 = .ok (.iconst 1, 1) := by decide +kernel
theorem dX0_takeIfBetter_15 : decode cX0_takeIfBetter 15 = .ok (.iadd, 1) := by decide +kernel
theorem dX0_takeIfBetter_16 : decode cX0_takeIfBetter 16 = .ok (.istore 5, 2) := by decide +kernel
theorem dX0_takeIfBetter_18 : decode cX0_takeIfBetter 18 = .ok (.iload 4, 2) := by decide +kernel
theorem dX0_takeIfBetter_20 : decode cX0_takeIfBetter 20 = .ok (.aload_n 0, 1) := by decide +kernel
theorem dX0_takeIfBetter_21 : decode cX0_takeIfBetter 21 = .ok (.getfield 15, 3) := by decide +kernel
theorem dX0_takeIfBetter_24 : decode cX0_takeIfBetter 24 = .ok (.iload_n 1, 1) := by decide +kernel
theorem dX0_takeIfBetter_25 : decode cX0_takeIfBetter 25 = .ok (.iaload, 1) := by decide +kernel
theorem dX0_takeIfBetter_26 : decode cX0_takeIfBetter 26 = .ok (.if_icmp .lt 25, 3) := by decide +kernel
theorem dX0_takeIfBetter_29 : decode cX0_takeIfBetter 29 = .ok (.iload 4, 2) := by decide +kernel
theorem dX0_takeIfBetter_31 : decode cX0_takeIfBetter 31 = .ok (.aload_n 0, 1) := by decide +kernel
theorem dX0_takeIfBetter_32 : decode cX0_takeIfBetter 32 = .ok (.getfield 15, 3) := by decide +kernel
theorem dX0_takeIfBetter_35 : decode cX0_takeIfBetter 35 = .ok (.iload_n 1, 1) := by decide +kernel
theorem dX0_takeIfBetter_36 : decode cX0_takeIfBetter 36 = .ok (.iaload, 1) := by decide +kernel
theorem dX0_takeIfBetter_37 : decode cX0_takeIfBetter 37 = .ok (.if_icmp .ne 49, 3) := by decide +kernel
theorem dX0_takeIfBetter_40 : decode cX0_takeIfBetter 40 = .ok (.iload 5, 2) := by decide +kernel
theorem dX0_takeIfBetter_42 : decode cX0_takeIfBetter 42 = .ok (.aload_n 0, 1) := by decide +kernel
theorem dX0_takeIfBetter_43 : decode cX0_takeIfBetter 43 = .ok (.getfield 18, 3) := by decide +kernel
theorem dX0_takeIfBetter_46 : decode cX0_takeIfBetter 46 = .ok (.iload_n 1, 1) := by decide +kernel
theorem dX0_takeIfBetter_47 : decode cX0_takeIfBetter 47 = .ok (.iaload, 1) := by decide +kernel
theorem dX0_takeIfBetter_48 : decode cX0_takeIfBetter 48 = .ok (.if_icmp .ge 38, 3) := by decide +kernel
theorem dX0_takeIfBetter_51 : decode cX0_takeIfBetter 51 = .ok (.aload_n 0, 1) := by decide +kernel
theorem dX0_takeIfBetter_52 : decode cX0_takeIfBetter 52 = .ok (.getfield 9, 3) := by decide +kernel
theorem dX0_takeIfBetter_55 : decode cX0_takeIfBetter 55 = .ok (.iload_n 1, 1) := by decide +kernel
theorem dX0_takeIfBetter_56 : decode cX0_takeIfBetter 56 = .ok (.aload_n 3, 1) := by decide +kernel
theorem dX0_takeIfBetter_57 : decode cX0_takeIfBetter 57 = .ok (.getfield 9, 3) := by decide +kernel
theorem dX0_takeIfBetter_60 : decode cX0_takeIfBetter 60 = .ok (.iload_n 2, 1) := by decide +kernel
theorem dX0_takeIfBetter_61 : decode cX0_takeIfBetter 61 = .ok (.iaload, 1) := by decide +kernel
theorem dX0_takeIfBetter_62 : decode cX0_takeIfBetter 62 = .ok (.iastore, 1) := by decide +kernel
theorem dX0_takeIfBetter_63 : decode cX0_takeIfBetter 63 = .ok (.aload_n 0, 1) := by decide +kernel
theorem dX0_takeIfBetter_64 : decode cX0_takeIfBetter 64 = .ok (.getfield 15, 3) := by decide +kernel
theorem dX0_takeIfBetter_67 : decode cX0_takeIfBetter 67 = .ok (.iload_n 1, 1) := by decide +kernel
theorem dX0_takeIfBetter_68 : decode cX0_takeIfBetter 68 = .ok (.iload 4, 2) := by decide +kernel
theorem dX0_takeIfBetter_70 : decode cX0_takeIfBetter 70 = .ok (.iastore, 1) := by decide +kernel
theorem dX0_takeIfBetter_71 : decode cX0_takeIfBetter 71 = .ok (.aload_n 0, 1) := by decide +kernel
theorem dX0_takeIfBetter_72 : decode cX0_takeIfBetter 72 = .ok (.getfield 18, 3) := by decide +kernel
theorem dX0_takeIfBetter_75 : decode cX0_takeIfBetter 75 = .ok (.iload_n 1, 1) := by decide +kernel
theorem dX0_takeIfBetter_76 : decode cX0_takeIfBetter 76 = .ok (.iload 5, 2) := by decide +kernel
theorem dX0_takeIfBetter_78 : decode cX0_takeIfBetter 78 = .ok (.iastore, 1) := by decide +kernel
theorem dX0_takeIfBetter_79 : decode cX0_takeIfBetter 79 = .ok (.aload_n 0, 1) := by decide +kernel
theorem dX0_takeIfBetter_80 : decode cX0_takeIfBetter 80 = .ok (.getfield 21, 3) := by decide +kernel
theorem dX0_takeIfBetter_83 : decode cX0_takeIfBetter 83 = .ok (.iload_n 1, 1) := by decide +kernel
theorem dX0_takeIfBetter_84 : decode cX0_takeIfBetter 84 = .ok (.iload_n 2, 1) := by decide +kernel
theorem dX0_takeIfBetter_85 : decode cX0_takeIfBetter 85 = .ok (.iastore, 1) := by decide +kernel
theorem dX0_takeIfBetter_86 : decode cX0_takeIfBetter 86 = .ok (.return_, 1) := by decide +kernel
theorem dX1_init_0 : decode cX1_init 0 = .ok (.aload_n 0, 1) := by decide +kernel
theorem dX1_init_1 : decode cX1_init 1 = .ok (.invokespecial 3, 3) := by decide +kernel
theorem dX1_init_4 : decode cX1_init 4 = .ok (.aload_n 0, 1) := by decide +kernel
theorem dX1_init_5 : decode cX1_init 5 = .ok (.bipush 100, 2) := by decide +kernel
theorem dX1_init_7 : decode cX1_init 7 = .ok (.newarray .boolean, 2) := by decide +kernel
theorem dX1_init_9 : decode cX1_init 9 = .ok (.putfield 9, 3) := by decide +kernel
theorem dX1_init_12 : decode cX1_init 12 = .ok (.aload_n 0, 1) := by decide +kernel
theorem dX1_init_13 : decode cX1_init 13 = .ok (.bipush 100, 2) := by decide +kernel
theorem dX1_init_15 : decode cX1_init 15 = .ok (.newarray .int, 2) := by decide +kernel
theorem dX1_init_17 : decode cX1_init 17 = .ok (.putfield 15, 3) := by decide +kernel
theorem dX1_init_20 : decode cX1_init 20 = .ok (.aload_n 0, 1) := by decide +kernel
theorem dX1_init_21 : decode cX1_init 21 = .ok (.bipush 100, 2) := by decide +kernel
theorem dX1_init_23 : decode cX1_init 23 = .ok (.newarray .int, 2) := by decide +kernel
theorem dX1_init_25 : decode cX1_init 25 = .ok (.putfield 19, 3) := by decide +kernel
theorem dX1_init_28 : decode cX1_init 28 = .ok (.aload_n 0, 1) := by decide +kernel
theorem dX1_init_29 : decode cX1_init 29 = .ok (.iconst 0, 1) := by decide +kernel
theorem dX1_init_30 : decode cX1_init 30 = .ok (.putfield 22, 3) := by decide +kernel
theorem dX1_init_33 : decode cX1_init 33 = .ok (.return_, 1) := by decide +kernel
theorem dX1_place_0 : decode cX1_place 0 = .ok (.iload_n 0, 1) := by decide +kernel
theorem dX1_place_1 : decode cX1_place 1 = .ok (.bipush 10, 2) := by decide +kernel
theorem dX1_place_3 : decode cX1_place 3 = .ok (.imul, 1) := by decide +kernel
theorem dX1_place_4 : decode cX1_place 4 = .ok (.iload_n 1, 1) := by decide +kernel
theorem dX1_place_5 : decode cX1_place 5 = .ok (.iadd, 1) := by decide +kernel
theorem dX1_place_6 : decode cX1_place 6 = .ok (.ireturn, 1) := by decide +kernel
theorem lf_wsX1_areLinked_0 : ∀ w ∈ ([.fieldLink RX1 9 "TimeNet$Wires" "laid" "[Z", .methodLink RX1 26 yX1_place, .static yX1_place, .initialized RX1, .code yX1_place cX1_place 2 (some .int)] : List Cond), w ∈ wsX1_areLinked := fun w h => (List.mem_cons_of_mem _ (List.mem_append_left _ h))
theorem lf_wsX1_areLinked_1 : ∀ w ∈ wsX10, w ∈ wsX1_areLinked := fun w h => (List.mem_cons_of_mem _ (List.mem_append_right _ h))
theorem wk_wsX1_areLinked_0_4 : Cond.code yX1_place cX1_place 2 (some .int) ∈ wsX1_areLinked := lf_wsX1_areLinked_0 _ (List.Mem.tail _ (List.Mem.tail _ (List.Mem.tail _ (List.Mem.tail _ (List.Mem.head _)))))
theorem wk_wsX1_areLinked_0_1 : Cond.methodLink RX1 26 yX1_place ∈ wsX1_areLinked := lf_wsX1_areLinked_0 _ (List.Mem.tail _ (List.Mem.head _))
theorem wk_wsX1_areLinked_0_2 : Cond.static yX1_place ∈ wsX1_areLinked := lf_wsX1_areLinked_0 _ (List.Mem.tail _ (List.Mem.tail _ (List.Mem.head _)))
theorem wk_wsX1_areLinked_0_3 : Cond.initialized RX1 ∈ wsX1_areLinked := lf_wsX1_areLinked_0 _ (List.Mem.tail _ (List.Mem.tail _ (List.Mem.tail _ (List.Mem.head _))))
theorem lf_wsX1_lay_0 : ∀ w ∈ ([.fieldLink RX1 9 "TimeNet$Wires" "laid" "[Z", .fieldLink RX1 15 "TimeNet$Wires" "delay" "[I", .fieldLink RX1 22 "TimeNet$Wires" "count" "I", .methodLink RX1 26 yX1_place, .static yX1_place, .initialized RX1, .code yX1_place cX1_place 2 (some .int), .methodLink RX1 30 yX1_noteDifference, .instanceMethod yX1_noteDifference, .selects RX1 yX1_noteDifference yX1_noteDifference, .code yX1_noteDifference cX1_noteDifference 5 (some .int), .fieldLink RX1 19 "TimeNet$Wires" "told" "[I"] : List Cond), w ∈ wsX1_lay := fun w h => (List.mem_cons_of_mem _ (List.mem_append_left _ h))
theorem lf_wsX1_lay_1 : ∀ w ∈ wsX10, w ∈ wsX1_lay := fun w h => (List.mem_cons_of_mem _ (List.mem_append_right _ h))
theorem wk_wsX1_lay_0_6 : Cond.code yX1_place cX1_place 2 (some .int) ∈ wsX1_lay := lf_wsX1_lay_0 _ (List.Mem.tail _ (List.Mem.tail _ (List.Mem.tail _ (List.Mem.tail _ (List.Mem.tail _ (List.Mem.tail _ (List.Mem.head _)))))))
theorem wk_wsX1_lay_0_3 : Cond.methodLink RX1 26 yX1_place ∈ wsX1_lay := lf_wsX1_lay_0 _ (List.Mem.tail _ (List.Mem.tail _ (List.Mem.tail _ (List.Mem.head _))))
theorem wk_wsX1_lay_0_4 : Cond.static yX1_place ∈ wsX1_lay := lf_wsX1_lay_0 _ (List.Mem.tail _ (List.Mem.tail _ (List.Mem.tail _ (List.Mem.tail _ (List.Mem.head _)))))
theorem wk_wsX1_lay_0_5 : Cond.initialized RX1 ∈ wsX1_lay := lf_wsX1_lay_0 _ (List.Mem.tail _ (List.Mem.tail _ (List.Mem.tail _ (List.Mem.tail _ (List.Mem.tail _ (List.Mem.head _))))))
theorem wk_wsX1_lay_0_10 : Cond.code yX1_noteDifference cX1_noteDifference 5 (some .int) ∈ wsX1_lay := lf_wsX1_lay_0 _ (List.Mem.tail _ (List.Mem.tail _ (List.Mem.tail _ (List.Mem.tail _ (List.Mem.tail _ (List.Mem.tail _ (List.Mem.tail _ (List.Mem.tail _ (List.Mem.tail _ (List.Mem.tail _ (List.Mem.head _)))))))))))
theorem wk_wsX1_lay_0_11 : Cond.fieldLink RX1 19 "TimeNet$Wires" "told" "[I" ∈ wsX1_lay := lf_wsX1_lay_0 _ (List.Mem.tail _ (List.Mem.tail _ (List.Mem.tail _ (List.Mem.tail _ (List.Mem.tail _ (List.Mem.tail _ (List.Mem.tail _ (List.Mem.tail _ (List.Mem.tail _ (List.Mem.tail _ (List.Mem.tail _ (List.Mem.head _))))))))))))
theorem wk_wsX1_lay_0_7 : Cond.methodLink RX1 30 yX1_noteDifference ∈ wsX1_lay := lf_wsX1_lay_0 _ (List.Mem.tail _ (List.Mem.tail _ (List.Mem.tail _ (List.Mem.tail _ (List.Mem.tail _ (List.Mem.tail _ (List.Mem.tail _ (List.Mem.head _))))))))
theorem wk_wsX1_lay_0_8 : Cond.instanceMethod yX1_noteDifference ∈ wsX1_lay := lf_wsX1_lay_0 _ (List.Mem.tail _ (List.Mem.tail _ (List.Mem.tail _ (List.Mem.tail _ (List.Mem.tail _ (List.Mem.tail _ (List.Mem.tail _ (List.Mem.tail _ (List.Mem.head _)))))))))
theorem wk_wsX1_lay_0_9 : Cond.selects RX1 yX1_noteDifference yX1_noteDifference ∈ wsX1_lay := lf_wsX1_lay_0 _ (List.Mem.tail _ (List.Mem.tail _ (List.Mem.tail _ (List.Mem.tail _ (List.Mem.tail _ (List.Mem.tail _ (List.Mem.tail _ (List.Mem.tail _ (List.Mem.tail _ (List.Mem.head _))))))))))
theorem lf_wsX1_remove_0 : ∀ w ∈ ([.fieldLink RX1 9 "TimeNet$Wires" "laid" "[Z", .fieldLink RX1 22 "TimeNet$Wires" "count" "I", .methodLink RX1 26 yX1_place, .static yX1_place, .initialized RX1, .code yX1_place cX1_place 2 (some .int)] : List Cond), w ∈ wsX1_remove := fun w h => (List.mem_cons_of_mem _ (List.mem_append_left _ h))
theorem lf_wsX1_remove_1 : ∀ w ∈ wsX10, w ∈ wsX1_remove := fun w h => (List.mem_cons_of_mem _ (List.mem_append_right _ h))
theorem wk_wsX1_remove_0_5 : Cond.code yX1_place cX1_place 2 (some .int) ∈ wsX1_remove := lf_wsX1_remove_0 _ (List.Mem.tail _ (List.Mem.tail _ (List.Mem.tail _ (List.Mem.tail _ (List.Mem.tail _ (List.Mem.head _))))))
theorem wk_wsX1_remove_0_2 : Cond.methodLink RX1 26 yX1_place ∈ wsX1_remove := lf_wsX1_remove_0 _ (List.Mem.tail _ (List.Mem.tail _ (List.Mem.head _)))
theorem wk_wsX1_remove_0_3 : Cond.static yX1_place ∈ wsX1_remove := lf_wsX1_remove_0 _ (List.Mem.tail _ (List.Mem.tail _ (List.Mem.tail _ (List.Mem.head _))))
theorem wk_wsX1_remove_0_4 : Cond.initialized RX1 ∈ wsX1_remove := lf_wsX1_remove_0 _ (List.Mem.tail _ (List.Mem.tail _ (List.Mem.tail _ (List.Mem.tail _ (List.Mem.head _)))))
theorem lf_wsX1_noteDifference_0 : ∀ w ∈ ([.fieldLink RX1 19 "TimeNet$Wires" "told" "[I", .methodLink RX1 26 yX1_place, .static yX1_place, .initialized RX1, .code yX1_place cX1_place 2 (some .int)] : List Cond), w ∈ wsX1_noteDifference := fun w h => (List.mem_cons_of_mem _ (List.mem_append_left _ h))
theorem lf_wsX1_noteDifference_1 : ∀ w ∈ wsX10, w ∈ wsX1_noteDifference := fun w h => (List.mem_cons_of_mem _ (List.mem_append_right _ h))
theorem wk_wsX1_noteDifference_0_4 : Cond.code yX1_place cX1_place 2 (some .int) ∈ wsX1_noteDifference := lf_wsX1_noteDifference_0 _ (List.Mem.tail _ (List.Mem.tail _ (List.Mem.tail _ (List.Mem.tail _ (List.Mem.head _)))))
theorem wk_wsX1_noteDifference_0_1 : Cond.methodLink RX1 26 yX1_place ∈ wsX1_noteDifference := lf_wsX1_noteDifference_0 _ (List.Mem.tail _ (List.Mem.head _))
theorem wk_wsX1_noteDifference_0_2 : Cond.static yX1_place ∈ wsX1_noteDifference := lf_wsX1_noteDifference_0 _ (List.Mem.tail _ (List.Mem.tail _ (List.Mem.head _)))
theorem wk_wsX1_noteDifference_0_3 : Cond.initialized RX1 ∈ wsX1_noteDifference := lf_wsX1_noteDifference_0 _ (List.Mem.tail _ (List.Mem.tail _ (List.Mem.tail _ (List.Mem.head _))))
theorem lf_wsX1_errorFrom_0 : ∀ w ∈ ([.fieldLink RX1 15 "TimeNet$Wires" "delay" "[I", .fieldLink RX1 19 "TimeNet$Wires" "told" "[I", .methodLink RX1 26 yX1_place, .static yX1_place, .initialized RX1, .code yX1_place cX1_place 2 (some .int)] : List Cond), w ∈ wsX1_errorFrom := fun w h => (List.mem_cons_of_mem _ (List.mem_append_left _ h))
theorem lf_wsX1_errorFrom_1 : ∀ w ∈ wsX10, w ∈ wsX1_errorFrom := fun w h => (List.mem_cons_of_mem _ (List.mem_append_right _ h))
theorem wk_wsX1_errorFrom_0_5 : Cond.code yX1_place cX1_place 2 (some .int) ∈ wsX1_errorFrom := lf_wsX1_errorFrom_0 _ (List.Mem.tail _ (List.Mem.tail _ (List.Mem.tail _ (List.Mem.tail _ (List.Mem.tail _ (List.Mem.head _))))))
theorem wk_wsX1_errorFrom_0_2 : Cond.methodLink RX1 26 yX1_place ∈ wsX1_errorFrom := lf_wsX1_errorFrom_0 _ (List.Mem.tail _ (List.Mem.tail _ (List.Mem.head _)))
theorem wk_wsX1_errorFrom_0_3 : Cond.static yX1_place ∈ wsX1_errorFrom := lf_wsX1_errorFrom_0 _ (List.Mem.tail _ (List.Mem.tail _ (List.Mem.tail _ (List.Mem.head _))))
theorem wk_wsX1_errorFrom_0_4 : Cond.initialized RX1 ∈ wsX1_errorFrom := lf_wsX1_errorFrom_0 _ (List.Mem.tail _ (List.Mem.tail _ (List.Mem.tail _ (List.Mem.tail _ (List.Mem.head _)))))
theorem lf_wsX2_init_0 : ∀ w ∈ wsX2_init_r1, w ∈ wsX2_init := fun w h => (List.mem_cons_of_mem _ (List.mem_append_left _ (List.mem_append_left _ (List.mem_append_left _ (List.mem_append_left _ h)))))
theorem lf_wsX2_init_1 : ∀ w ∈ wsX2_init_r2, w ∈ wsX2_init := fun w h => (List.mem_cons_of_mem _ (List.mem_append_left _ (List.mem_append_left _ (List.mem_append_left _ (List.mem_append_right _ h)))))
theorem lf_wsX2_init_2 : ∀ w ∈ wsX20, w ∈ wsX2_init := fun w h => (List.mem_cons_of_mem _ (List.mem_append_left _ (List.mem_append_left _ (List.mem_append_right _ h))))
theorem lf_wsX2_init_3 : ∀ w ∈ wsX10, w ∈ wsX2_init := fun w h => (List.mem_cons_of_mem _ (List.mem_append_left _ (List.mem_append_right _ h)))
theorem lf_wsX2_init_4 : ∀ w ∈ wsX00, w ∈ wsX2_init := fun w h => (List.mem_cons_of_mem _ (List.mem_append_right _ h))
theorem wk_wsX2_init_1_0 : Cond.code yX1_init cX1_init 1 none ∈ wsX2_init := lf_wsX2_init_1 _ (List.Mem.head _)
theorem wk_wsX2_init_1_1 : Cond.methodLink RX1 3 objectInit ∈ wsX2_init := lf_wsX2_init_1 _ (List.Mem.tail _ (List.Mem.head _))
theorem wk_wsX2_init_0_1 : Cond.instanceMethod objectInit ∈ wsX2_init := lf_wsX2_init_0 _ (List.Mem.tail _ (List.Mem.head _))
theorem wk_wsX2_init_0_2 : Cond.code objectInit ⟨#[0xb1]⟩ 1 none ∈ wsX2_init := lf_wsX2_init_0 _ (List.Mem.tail _ (List.Mem.tail _ (List.Mem.head _)))
theorem wk_wsX2_init_1_2 : Cond.arrayClass .boolean ∈ wsX2_init := lf_wsX2_init_1 _ (List.Mem.tail _ (List.Mem.tail _ (List.Mem.head _)))
theorem wk_wsX2_init_1_3 : Cond.fieldLink RX1 9 "TimeNet$Wires" "laid" "[Z" ∈ wsX2_init := lf_wsX2_init_1 _ (List.Mem.tail _ (List.Mem.tail _ (List.Mem.tail _ (List.Mem.head _))))
theorem wk_wsX2_init_0_3 : Cond.arrayClass .int ∈ wsX2_init := lf_wsX2_init_0 _ (List.Mem.tail _ (List.Mem.tail _ (List.Mem.tail _ (List.Mem.head _))))
theorem wk_wsX2_init_1_4 : Cond.fieldLink RX1 15 "TimeNet$Wires" "delay" "[I" ∈ wsX2_init := lf_wsX2_init_1 _ (List.Mem.tail _ (List.Mem.tail _ (List.Mem.tail _ (List.Mem.tail _ (List.Mem.head _)))))
theorem wk_wsX2_init_1_5 : Cond.fieldLink RX1 19 "TimeNet$Wires" "told" "[I" ∈ wsX2_init := lf_wsX2_init_1 _ (List.Mem.tail _ (List.Mem.tail _ (List.Mem.tail _ (List.Mem.tail _ (List.Mem.tail _ (List.Mem.head _))))))
theorem wk_wsX2_init_1_6 : Cond.fieldLink RX1 22 "TimeNet$Wires" "count" "I" ∈ wsX2_init := lf_wsX2_init_1 _ (List.Mem.tail _ (List.Mem.tail _ (List.Mem.tail _ (List.Mem.tail _ (List.Mem.tail _ (List.Mem.tail _ (List.Mem.head _)))))))
theorem wk_wsX2_init_1_8 : Cond.code yX0_init cX0_init 1 none ∈ wsX2_init := lf_wsX2_init_1 _ (List.Mem.tail _ (List.Mem.tail _ (List.Mem.tail _ (List.Mem.tail _ (List.Mem.tail _ (List.Mem.tail _ (List.Mem.tail _ (List.Mem.tail _ (List.Mem.head _)))))))))
theorem wk_wsX2_init_1_9 : Cond.methodLink RX0 3 objectInit ∈ wsX2_init := lf_wsX2_init_1 _ (List.Mem.tail _ (List.Mem.tail _ (List.Mem.tail _ (List.Mem.tail _ (List.Mem.tail _ (List.Mem.tail _ (List.Mem.tail _ (List.Mem.tail _ (List.Mem.tail _ (List.Mem.head _))))))))))
theorem wk_wsX2_init_1_10 : Cond.fieldLink RX0 9 "TimeNet$Knowledge" "clockNode" "[I" ∈ wsX2_init := lf_wsX2_init_1 _ (List.Mem.tail _ (List.Mem.tail _ (List.Mem.tail _ (List.Mem.tail _ (List.Mem.tail _ (List.Mem.tail _ (List.Mem.tail _ (List.Mem.tail _ (List.Mem.tail _ (List.Mem.tail _ (List.Mem.head _)))))))))))
theorem wk_wsX2_init_1_11 : Cond.fieldLink RX0 15 "TimeNet$Knowledge" "clockRank" "[I" ∈ wsX2_init := lf_wsX2_init_1 _ (List.Mem.tail _ (List.Mem.tail _ (List.Mem.tail _ (List.Mem.tail _ (List.Mem.tail _ (List.Mem.tail _ (List.Mem.tail _ (List.Mem.tail _ (List.Mem.tail _ (List.Mem.tail _ (List.Mem.tail _ (List.Mem.head _))))))))))))
theorem wk_wsX2_init_1_12 : Cond.fieldLink RX0 18 "TimeNet$Knowledge" "stepsAway" "[I" ∈ wsX2_init := lf_wsX2_init_1 _ (List.Mem.tail _ (List.Mem.tail _ (List.Mem.tail _ (List.Mem.tail _ (List.Mem.tail _ (List.Mem.tail _ (List.Mem.tail _ (List.Mem.tail _ (List.Mem.tail _ (List.Mem.tail _ (List.Mem.tail _ (List.Mem.tail _ (List.Mem.head _)))))))))))))
theorem wk_wsX2_init_1_13 : Cond.fieldLink RX0 21 "TimeNet$Knowledge" "knownFrom" "[I" ∈ wsX2_init := lf_wsX2_init_1 _ (List.Mem.tail _ (List.Mem.tail _ (List.Mem.tail _ (List.Mem.tail _ (List.Mem.tail _ (List.Mem.tail _ (List.Mem.tail _ (List.Mem.tail _ (List.Mem.tail _ (List.Mem.tail _ (List.Mem.tail _ (List.Mem.tail _ (List.Mem.tail _ (List.Mem.head _))))))))))))))
theorem lf_wsX2_add_0 : ∀ w ∈ wsX2_add_r1, w ∈ wsX2_add := fun w h => (List.mem_cons_of_mem _ (List.mem_append_left _ (List.mem_append_left _ (List.mem_append_left _ (List.mem_append_left _ (List.mem_append_left _ h))))))
theorem lf_wsX2_add_1 : ∀ w ∈ wsX2_add_r2, w ∈ wsX2_add := fun w h => (List.mem_cons_of_mem _ (List.mem_append_left _ (List.mem_append_left _ (List.mem_append_left _ (List.mem_append_left _ (List.mem_append_right _ h))))))
theorem lf_wsX2_add_2 : ∀ w ∈ wsX20, w ∈ wsX2_add := fun w h => (List.mem_cons_of_mem _ (List.mem_append_left _ (List.mem_append_left _ (List.mem_append_left _ (List.mem_append_right _ h)))))
theorem lf_wsX2_add_3 : ∀ w ∈ wsX00, w ∈ wsX2_add := fun w h => (List.mem_cons_of_mem _ (List.mem_append_left _ (List.mem_append_left _ (List.mem_append_right _ h))))
theorem wk_wsX2_add_0_10 : Cond.code yX2_requireWithin cX2_requireWithin 3 none ∈ wsX2_add := lf_wsX2_add_0 _ (List.Mem.tail _ (List.Mem.tail _ (List.Mem.tail _ (List.Mem.tail _ (List.Mem.tail _ (List.Mem.tail _ (List.Mem.tail _ (List.Mem.tail _ (List.Mem.tail _ (List.Mem.tail _ (List.Mem.head _)))))))))))
theorem wk_wsX2_add_0_11 : Cond.classLink RX2 76 "java/lang/IllegalArgumentException" ∈ wsX2_add := lf_wsX2_add_0 _ (List.Mem.tail _ (List.Mem.tail _ (List.Mem.tail _ (List.Mem.tail _ (List.Mem.tail _ (List.Mem.tail _ (List.Mem.tail _ (List.Mem.tail _ (List.Mem.tail _ (List.Mem.tail _ (List.Mem.tail _ (List.Mem.head _))))))))))))
theorem wk_wsX2_add_0_12 : Cond.initialized "java/lang/IllegalArgumentException" ∈ wsX2_add := lf_wsX2_add_0 _ (List.Mem.tail _ (List.Mem.tail _ (List.Mem.tail _ (List.Mem.tail _ (List.Mem.tail _ (List.Mem.tail _ (List.Mem.tail _ (List.Mem.tail _ (List.Mem.tail _ (List.Mem.tail _ (List.Mem.tail _ (List.Mem.tail _ (List.Mem.head _)))))))))))))
theorem wk_wsX2_add_0_7 : Cond.methodLink RX2 56 yX2_requireWithin ∈ wsX2_add := lf_wsX2_add_0 _ (List.Mem.tail _ (List.Mem.tail _ (List.Mem.tail _ (List.Mem.tail _ (List.Mem.tail _ (List.Mem.tail _ (List.Mem.tail _ (List.Mem.head _))))))))
theorem wk_wsX2_add_0_8 : Cond.static yX2_requireWithin ∈ wsX2_add := lf_wsX2_add_0 _ (List.Mem.tail _ (List.Mem.tail _ (List.Mem.tail _ (List.Mem.tail _ (List.Mem.tail _ (List.Mem.tail _ (List.Mem.tail _ (List.Mem.tail _ (List.Mem.head _)))))))))
theorem wk_wsX2_add_0_9 : Cond.initialized RX2 ∈ wsX2_add := lf_wsX2_add_0 _ (List.Mem.tail _ (List.Mem.tail _ (List.Mem.tail _ (List.Mem.tail _ (List.Mem.tail _ (List.Mem.tail _ (List.Mem.tail _ (List.Mem.tail _ (List.Mem.tail _ (List.Mem.head _))))))))))
theorem wk_wsX2_add_0_16 : Cond.code yX2_knowOnlyItself cX2_knowOnlyItself 2 none ∈ wsX2_add := lf_wsX2_add_0 _ (List.Mem.tail _ (List.Mem.tail _ (List.Mem.tail _ (List.Mem.tail _ (List.Mem.tail _ (List.Mem.tail _ (List.Mem.tail _ (List.Mem.tail _ (List.Mem.tail _ (List.Mem.tail _ (List.Mem.tail _ (List.Mem.tail _ (List.Mem.tail _ (List.Mem.tail _ (List.Mem.tail _ (List.Mem.tail _ (List.Mem.head _)))))))))))))))))
theorem wk_wsX2_add_0_17 : Cond.fieldLink RX2 39 "TimeNet" "known" "LTimeNet$Knowledge;" ∈ wsX2_add := lf_wsX2_add_0 _ (List.Mem.tail _ (List.Mem.tail _ (List.Mem.tail _ (List.Mem.tail _ (List.Mem.tail _ (List.Mem.tail _ (List.Mem.tail _ (List.Mem.tail _ (List.Mem.tail _ (List.Mem.tail _ (List.Mem.tail _ (List.Mem.tail _ (List.Mem.tail _ (List.Mem.tail _ (List.Mem.tail _ (List.Mem.tail _ (List.Mem.tail _ (List.Mem.head _))))))))))))))))))
theorem wk_wsX2_add_0_18 : Cond.methodLink RX2 157 yX2_rankOf ∈ wsX2_add := lf_wsX2_add_0 _ (List.Mem.tail _ (List.Mem.tail _ (List.Mem.tail _ (List.Mem.tail _ (List.Mem.tail _ (List.Mem.tail _ (List.Mem.tail _ (List.Mem.tail _ (List.Mem.tail _ (List.Mem.tail _ (List.Mem.tail _ (List.Mem.tail _ (List.Mem.tail _ (List.Mem.tail _ (List.Mem.tail _ (List.Mem.tail _ (List.Mem.tail _ (List.Mem.tail _ (List.Mem.head _)))))))))))))))))))
theorem wk_wsX2_add_0_19 : Cond.instanceMethod yX2_rankOf ∈ wsX2_add := lf_wsX2_add_0 _ (List.Mem.tail _ (List.Mem.tail _ (List.Mem.tail _ (List.Mem.tail _ (List.Mem.tail _ (List.Mem.tail _ (List.Mem.tail _ (List.Mem.tail _ (List.Mem.tail _ (List.Mem.tail _ (List.Mem.tail _ (List.Mem.tail _ (List.Mem.tail _ (List.Mem.tail _ (List.Mem.tail _ (List.Mem.tail _ (List.Mem.tail _ (List.Mem.tail _ (List.Mem.tail _ (List.Mem.head _))))))))))))))))))))
theorem wk_wsX2_add_0_20 : Cond.selects RX2 yX2_rankOf yX2_rankOf ∈ wsX2_add := lf_wsX2_add_0 _ (List.Mem.tail _ (List.Mem.tail _ (List.Mem.tail _ (List.Mem.tail _ (List.Mem.tail _ (List.Mem.tail _ (List.Mem.tail _ (List.Mem.tail _ (List.Mem.tail _ (List.Mem.tail _ (List.Mem.tail _ (List.Mem.tail _ (List.Mem.tail _ (List.Mem.tail _ (List.Mem.tail _ (List.Mem.tail _ (List.Mem.tail _ (List.Mem.tail _ (List.Mem.tail _ (List.Mem.tail _ (List.Mem.head _)))))))))))))))))))))
theorem wk_wsX2_add_0_21 : Cond.code yX2_rankOf cX2_rankOf 2 (some .int) ∈ wsX2_add := lf_wsX2_add_0 _ (List.Mem.tail _ (List.Mem.tail _ (List.Mem.tail _ (List.Mem.tail _ (List.Mem.tail _ (List.Mem.tail _ (List.Mem.tail _ (List.Mem.tail _ (List.Mem.tail _ (List.Mem.tail _ (List.Mem.tail _ (List.Mem.tail _ (List.Mem.tail _ (List.Mem.tail _ (List.Mem.tail _ (List.Mem.tail _ (List.Mem.tail _ (List.Mem.tail _ (List.Mem.tail _ (List.Mem.tail _ (List.Mem.tail _ (List.Mem.head _))))))))))))))))))))))
theorem wk_wsX2_add_0_4 : Cond.fieldLink RX2 13 "TimeNet" "gradeOf" "[I" ∈ wsX2_add := lf_wsX2_add_0 _ (List.Mem.tail _ (List.Mem.tail _ (List.Mem.tail _ (List.Mem.tail _ (List.Mem.head _)))))
theorem wk_wsX2_add_0_5 : Cond.fieldLink RX2 16 "TimeNet" "varianceOf" "[I" ∈ wsX2_add := lf_wsX2_add_0 _ (List.Mem.tail _ (List.Mem.tail _ (List.Mem.tail _ (List.Mem.tail _ (List.Mem.tail _ (List.Mem.head _))))))
theorem wk_wsX2_add_0_22 : Cond.instanceMethod yX0_start ∈ wsX2_add := lf_wsX2_add_0 _ (List.Mem.tail _ (List.Mem.tail _ (List.Mem.tail _ (List.Mem.tail _ (List.Mem.tail _ (List.Mem.tail _ (List.Mem.tail _ (List.Mem.tail _ (List.Mem.tail _ (List.Mem.tail _ (List.Mem.tail _ (List.Mem.tail _ (List.Mem.tail _ (List.Mem.tail _ (List.Mem.tail _ (List.Mem.tail _ (List.Mem.tail _ (List.Mem.tail _ (List.Mem.tail _ (List.Mem.tail _ (List.Mem.tail _ (List.Mem.tail _ (List.Mem.head _)))))))))))))))))))))))
theorem wk_wsX2_add_0_23 : Cond.initialized RX0 ∈ wsX2_add := lf_wsX2_add_0 _ (List.Mem.tail _ (List.Mem.tail _ (List.Mem.tail _ (List.Mem.tail _ (List.Mem.tail _ (List.Mem.tail _ (List.Mem.tail _ (List.Mem.tail _ (List.Mem.tail _ (List.Mem.tail _ (List.Mem.tail _ (List.Mem.tail _ (List.Mem.tail _ (List.Mem.tail _ (List.Mem.tail _ (List.Mem.tail _ (List.Mem.tail _ (List.Mem.tail _ (List.Mem.tail _ (List.Mem.tail _ (List.Mem.tail _ (List.Mem.tail _ (List.Mem.tail _ (List.Mem.head _))))))))))))))))))))))))
theorem wk_wsX2_add_1_0 : Cond.selects RX0 yX0_start yX0_start ∈ wsX2_add := lf_wsX2_add_1 _ (List.Mem.head _)
theorem wk_wsX2_add_1_1 : Cond.code yX0_start cX0_start 3 none ∈ wsX2_add := lf_wsX2_add_1 _ (List.Mem.tail _ (List.Mem.head _))
theorem wk_wsX2_add_1_2 : Cond.fieldLink RX0 9 "TimeNet$Knowledge" "clockNode" "[I" ∈ wsX2_add := lf_wsX2_add_1 _ (List.Mem.tail _ (List.Mem.tail _ (List.Mem.head _)))
theorem wk_wsX2_add_1_3 : Cond.fieldLink RX0 15 "TimeNet$Knowledge" "clockRank" "[I" ∈ wsX2_add := lf_wsX2_add_1 _ (List.Mem.tail _ (List.Mem.tail _ (List.Mem.tail _ (List.Mem.head _))))
theorem wk_wsX2_add_1_4 : Cond.fieldLink RX0 18 "TimeNet$Knowledge" "stepsAway" "[I" ∈ wsX2_add := lf_wsX2_add_1 _ (List.Mem.tail _ (List.Mem.tail _ (List.Mem.tail _ (List.Mem.tail _ (List.Mem.head _)))))
theorem wk_wsX2_add_1_5 : Cond.fieldLink RX0 21 "TimeNet$Knowledge" "knownFrom" "[I" ∈ wsX2_add := lf_wsX2_add_1 _ (List.Mem.tail _ (List.Mem.tail _ (List.Mem.tail _ (List.Mem.tail _ (List.Mem.tail _ (List.Mem.head _))))))
theorem wk_wsX2_add_0_13 : Cond.methodLink RX2 67 yX2_knowOnlyItself ∈ wsX2_add := lf_wsX2_add_0 _ (List.Mem.tail _ (List.Mem.tail _ (List.Mem.tail _ (List.Mem.tail _ (List.Mem.tail _ (List.Mem.tail _ (List.Mem.tail _ (List.Mem.tail _ (List.Mem.tail _ (List.Mem.tail _ (List.Mem.tail _ (List.Mem.tail _ (List.Mem.tail _ (List.Mem.head _))))))))))))))
theorem wk_wsX2_add_0_14 : Cond.instanceMethod yX2_knowOnlyItself ∈ wsX2_add := lf_wsX2_add_0 _ (List.Mem.tail _ (List.Mem.tail _ (List.Mem.tail _ (List.Mem.tail _ (List.Mem.tail _ (List.Mem.tail _ (List.Mem.tail _ (List.Mem.tail _ (List.Mem.tail _ (List.Mem.tail _ (List.Mem.tail _ (List.Mem.tail _ (List.Mem.tail _ (List.Mem.tail _ (List.Mem.head _)))))))))))))))
theorem wk_wsX2_add_0_15 : Cond.selects RX2 yX2_knowOnlyItself yX2_knowOnlyItself ∈ wsX2_add := lf_wsX2_add_0 _ (List.Mem.tail _ (List.Mem.tail _ (List.Mem.tail _ (List.Mem.tail _ (List.Mem.tail _ (List.Mem.tail _ (List.Mem.tail _ (List.Mem.tail _ (List.Mem.tail _ (List.Mem.tail _ (List.Mem.tail _ (List.Mem.tail _ (List.Mem.tail _ (List.Mem.tail _ (List.Mem.tail _ (List.Mem.head _))))))))))))))))
theorem lf_wsX2_setClock_0 : ∀ w ∈ ([.fieldLink RX2 13 "TimeNet" "gradeOf" "[I", .fieldLink RX2 16 "TimeNet" "varianceOf" "[I", .methodLink RX2 71 yX2_requireNode, .instanceMethod yX2_requireNode, .selects RX2 yX2_requireNode yX2_requireNode, .initialized RX2, .code yX2_requireNode cX2_requireNode 2 none, .classLink RX2 148 "java/lang/IndexOutOfBoundsException", .initialized "java/lang/IndexOutOfBoundsException", .methodLink RX2 144 yX2_isNode, .instanceMethod yX2_isNode, .selects RX2 yX2_isNode yX2_isNode, .code yX2_isNode cX2_isNode 2 (some .boolean), .fieldLink RX2 49 "TimeNet" "nodeCount" "I", .methodLink RX2 56 yX2_requireWithin, .static yX2_requireWithin, .code yX2_requireWithin cX2_requireWithin 3 none, .classLink RX2 76 "java/lang/IllegalArgumentException", .initialized "java/lang/IllegalArgumentException"] : List Cond), w ∈ wsX2_setClock := fun w h => (List.mem_cons_of_mem _ (List.mem_append_left _ (List.mem_append_left _ (List.mem_append_left _ h))))
theorem lf_wsX2_setClock_1 : ∀ w ∈ wsX20, w ∈ wsX2_setClock := fun w h => (List.mem_cons_of_mem _ (List.mem_append_left _ (List.mem_append_left _ (List.mem_append_right _ h))))
theorem wk_wsX2_setClock_0_6 : Cond.code yX2_requireNode cX2_requireNode 2 none ∈ wsX2_setClock := lf_wsX2_setClock_0 _ (List.Mem.tail _ (List.Mem.tail _ (List.Mem.tail _ (List.Mem.tail _ (List.Mem.tail _ (List.Mem.tail _ (List.Mem.head _)))))))
theorem wk_wsX2_setClock_0_7 : Cond.classLink RX2 148 "java/lang/IndexOutOfBoundsException" ∈ wsX2_setClock := lf_wsX2_setClock_0 _ (List.Mem.tail _ (List.Mem.tail _ (List.Mem.tail _ (List.Mem.tail _ (List.Mem.tail _ (List.Mem.tail _ (List.Mem.tail _ (List.Mem.head _))))))))
theorem wk_wsX2_setClock_0_8 : Cond.initialized "java/lang/IndexOutOfBoundsException" ∈ wsX2_setClock := lf_wsX2_setClock_0 _ (List.Mem.tail _ (List.Mem.tail _ (List.Mem.tail _ (List.Mem.tail _ (List.Mem.tail _ (List.Mem.tail _ (List.Mem.tail _ (List.Mem.tail _ (List.Mem.head _)))))))))
theorem wk_wsX2_setClock_0_9 : Cond.methodLink RX2 144 yX2_isNode ∈ wsX2_setClock := lf_wsX2_setClock_0 _ (List.Mem.tail _ (List.Mem.tail _ (List.Mem.tail _ (List.Mem.tail _ (List.Mem.tail _ (List.Mem.tail _ (List.Mem.tail _ (List.Mem.tail _ (List.Mem.tail _ (List.Mem.head _))))))))))
theorem wk_wsX2_setClock_0_10 : Cond.instanceMethod yX2_isNode ∈ wsX2_setClock := lf_wsX2_setClock_0 _ (List.Mem.tail _ (List.Mem.tail _ (List.Mem.tail _ (List.Mem.tail _ (List.Mem.tail _ (List.Mem.tail _ (List.Mem.tail _ (List.Mem.tail _ (List.Mem.tail _ (List.Mem.tail _ (List.Mem.head _)))))))))))
theorem wk_wsX2_setClock_0_11 : Cond.selects RX2 yX2_isNode yX2_isNode ∈ wsX2_setClock := lf_wsX2_setClock_0 _ (List.Mem.tail _ (List.Mem.tail _ (List.Mem.tail _ (List.Mem.tail _ (List.Mem.tail _ (List.Mem.tail _ (List.Mem.tail _ (List.Mem.tail _ (List.Mem.tail _ (List.Mem.tail _ (List.Mem.tail _ (List.Mem.head _))))))))))))
theorem wk_wsX2_setClock_0_5 : Cond.initialized RX2 ∈ wsX2_setClock := lf_wsX2_setClock_0 _ (List.Mem.tail _ (List.Mem.tail _ (List.Mem.tail _ (List.Mem.tail _ (List.Mem.tail _ (List.Mem.head _))))))
theorem wk_wsX2_setClock_0_12 : Cond.code yX2_isNode cX2_isNode 2 (some .boolean) ∈ wsX2_setClock := lf_wsX2_setClock_0 _ (List.Mem.tail _ (List.Mem.tail _ (List.Mem.tail _ (List.Mem.tail _ (List.Mem.tail _ (List.Mem.tail _ (List.Mem.tail _ (List.Mem.tail _ (List.Mem.tail _ (List.Mem.tail _ (List.Mem.tail _ (List.Mem.tail _ (List.Mem.head _)))))))))))))
theorem wk_wsX2_setClock_0_13 : Cond.fieldLink RX2 49 "TimeNet" "nodeCount" "I" ∈ wsX2_setClock := lf_wsX2_setClock_0 _ (List.Mem.tail _ (List.Mem.tail _ (List.Mem.tail _ (List.Mem.tail _ (List.Mem.tail _ (List.Mem.tail _ (List.Mem.tail _ (List.Mem.tail _ (List.Mem.tail _ (List.Mem.tail _ (List.Mem.tail _ (List.Mem.tail _ (List.Mem.tail _ (List.Mem.head _))))))))))))))
theorem wk_wsX2_setClock_0_2 : Cond.methodLink RX2 71 yX2_requireNode ∈ wsX2_setClock := lf_wsX2_setClock_0 _ (List.Mem.tail _ (List.Mem.tail _ (List.Mem.head _)))
theorem wk_wsX2_setClock_0_3 : Cond.instanceMethod yX2_requireNode ∈ wsX2_setClock := lf_wsX2_setClock_0 _ (List.Mem.tail _ (List.Mem.tail _ (List.Mem.tail _ (List.Mem.head _))))
theorem wk_wsX2_setClock_0_4 : Cond.selects RX2 yX2_requireNode yX2_requireNode ∈ wsX2_setClock := lf_wsX2_setClock_0 _ (List.Mem.tail _ (List.Mem.tail _ (List.Mem.tail _ (List.Mem.tail _ (List.Mem.head _)))))
theorem wk_wsX2_setClock_0_16 : Cond.code yX2_requireWithin cX2_requireWithin 3 none ∈ wsX2_setClock := lf_wsX2_setClock_0 _ (List.Mem.tail _ (List.Mem.tail _ (List.Mem.tail _ (List.Mem.tail _ (List.Mem.tail _ (List.Mem.tail _ (List.Mem.tail _ (List.Mem.tail _ (List.Mem.tail _ (List.Mem.tail _ (List.Mem.tail _ (List.Mem.tail _ (List.Mem.tail _ (List.Mem.tail _ (List.Mem.tail _ (List.Mem.tail _ (List.Mem.head _)))))))))))))))))
theorem wk_wsX2_setClock_0_17 : Cond.classLink RX2 76 "java/lang/IllegalArgumentException" ∈ wsX2_setClock := lf_wsX2_setClock_0 _ (List.Mem.tail _ (List.Mem.tail _ (List.Mem.tail _ (List.Mem.tail _ (List.Mem.tail _ (List.Mem.tail _ (List.Mem.tail _ (List.Mem.tail _ (List.Mem.tail _ (List.Mem.tail _ (List.Mem.tail _ (List.Mem.tail _ (List.Mem.tail _ (List.Mem.tail _ (List.Mem.tail _ (List.Mem.tail _ (List.Mem.tail _ (List.Mem.head _))))))))))))))))))
theorem wk_wsX2_setClock_0_18 : Cond.initialized "java/lang/IllegalArgumentException" ∈ wsX2_setClock := lf_wsX2_setClock_0 _ (List.Mem.tail _ (List.Mem.tail _ (List.Mem.tail _ (List.Mem.tail _ (List.Mem.tail _ (List.Mem.tail _ (List.Mem.tail _ (List.Mem.tail _ (List.Mem.tail _ (List.Mem.tail _ (List.Mem.tail _ (List.Mem.tail _ (List.Mem.tail _ (List.Mem.tail _ (List.Mem.tail _ (List.Mem.tail _ (List.Mem.tail _ (List.Mem.tail _ (List.Mem.head _)))))))))))))))))))
theorem wk_wsX2_setClock_0_14 : Cond.methodLink RX2 56 yX2_requireWithin ∈ wsX2_setClock := lf_wsX2_setClock_0 _ (List.Mem.tail _ (List.Mem.tail _ (List.Mem.tail _ (List.Mem.tail _ (List.Mem.tail _ (List.Mem.tail _ (List.Mem.tail _ (List.Mem.tail _ (List.Mem.tail _ (List.Mem.tail _ (List.Mem.tail _ (List.Mem.tail _ (List.Mem.tail _ (List.Mem.tail _ (List.Mem.head _)))))))))))))))
theorem wk_wsX2_setClock_0_15 : Cond.static yX2_requireWithin ∈ wsX2_setClock := lf_wsX2_setClock_0 _ (List.Mem.tail _ (List.Mem.tail _ (List.Mem.tail _ (List.Mem.tail _ (List.Mem.tail _ (List.Mem.tail _ (List.Mem.tail _ (List.Mem.tail _ (List.Mem.tail _ (List.Mem.tail _ (List.Mem.tail _ (List.Mem.tail _ (List.Mem.tail _ (List.Mem.tail _ (List.Mem.tail _ (List.Mem.head _))))))))))))))))
theorem lf_wsX2_setDrift_0 : ∀ w ∈ ([.fieldLink RX2 19 "TimeNet" "driftOf" "[I", .methodLink RX2 71 yX2_requireNode, .instanceMethod yX2_requireNode, .selects RX2 yX2_requireNode yX2_requireNode, .initialized RX2, .code yX2_requireNode cX2_requireNode 2 none, .classLink RX2 148 "java/lang/IndexOutOfBoundsException", .initialized "java/lang/IndexOutOfBoundsException", .methodLink RX2 144 yX2_isNode, .instanceMethod yX2_isNode, .selects RX2 yX2_isNode yX2_isNode, .code yX2_isNode cX2_isNode 2 (some .boolean), .fieldLink RX2 49 "TimeNet" "nodeCount" "I", .methodLink RX2 56 yX2_requireWithin, .static yX2_requireWithin, .code yX2_requireWithin cX2_requireWithin 3 none, .classLink RX2 76 "java/lang/IllegalArgumentException", .initialized "java/lang/IllegalArgumentException"] : List Cond), w ∈ wsX2_setDrift := fun w h => (List.mem_cons_of_mem _ (List.mem_append_left _ (List.mem_append_left _ (List.mem_append_left _ h))))
theorem lf_wsX2_setDrift_1 : ∀ w ∈ wsX20, w ∈ wsX2_setDrift := fun w h => (List.mem_cons_of_mem _ (List.mem_append_left _ (List.mem_append_left _ (List.mem_append_right _ h))))
theorem wk_wsX2_setDrift_0_5 : Cond.code yX2_requireNode cX2_requireNode 2 none ∈ wsX2_setDrift := lf_wsX2_setDrift_0 _ (List.Mem.tail _ (List.Mem.tail _ (List.Mem.tail _ (List.Mem.tail _ (List.Mem.tail _ (List.Mem.head _))))))
theorem wk_wsX2_setDrift_0_6 : Cond.classLink RX2 148 "java/lang/IndexOutOfBoundsException" ∈ wsX2_setDrift := lf_wsX2_setDrift_0 _ (List.Mem.tail _ (List.Mem.tail _ (List.Mem.tail _ (List.Mem.tail _ (List.Mem.tail _ (List.Mem.tail _ (List.Mem.head _)))))))
theorem wk_wsX2_setDrift_0_7 : Cond.initialized "java/lang/IndexOutOfBoundsException" ∈ wsX2_setDrift := lf_wsX2_setDrift_0 _ (List.Mem.tail _ (List.Mem.tail _ (List.Mem.tail _ (List.Mem.tail _ (List.Mem.tail _ (List.Mem.tail _ (List.Mem.tail _ (List.Mem.head _))))))))
theorem wk_wsX2_setDrift_0_8 : Cond.methodLink RX2 144 yX2_isNode ∈ wsX2_setDrift := lf_wsX2_setDrift_0 _ (List.Mem.tail _ (List.Mem.tail _ (List.Mem.tail _ (List.Mem.tail _ (List.Mem.tail _ (List.Mem.tail _ (List.Mem.tail _ (List.Mem.tail _ (List.Mem.head _)))))))))
theorem wk_wsX2_setDrift_0_9 : Cond.instanceMethod yX2_isNode ∈ wsX2_setDrift := lf_wsX2_setDrift_0 _ (List.Mem.tail _ (List.Mem.tail _ (List.Mem.tail _ (List.Mem.tail _ (List.Mem.tail _ (List.Mem.tail _ (List.Mem.tail _ (List.Mem.tail _ (List.Mem.tail _ (List.Mem.head _))))))))))
theorem wk_wsX2_setDrift_0_10 : Cond.selects RX2 yX2_isNode yX2_isNode ∈ wsX2_setDrift := lf_wsX2_setDrift_0 _ (List.Mem.tail _ (List.Mem.tail _ (List.Mem.tail _ (List.Mem.tail _ (List.Mem.tail _ (List.Mem.tail _ (List.Mem.tail _ (List.Mem.tail _ (List.Mem.tail _ (List.Mem.tail _ (List.Mem.head _)))))))))))
theorem wk_wsX2_setDrift_0_4 : Cond.initialized RX2 ∈ wsX2_setDrift := lf_wsX2_setDrift_0 _ (List.Mem.tail _ (List.Mem.tail _ (List.Mem.tail _ (List.Mem.tail _ (List.Mem.head _)))))
theorem wk_wsX2_setDrift_0_11 : Cond.code yX2_isNode cX2_isNode 2 (some .boolean) ∈ wsX2_setDrift := lf_wsX2_setDrift_0 _ (List.Mem.tail _ (List.Mem.tail _ (List.Mem.tail _ (List.Mem.tail _ (List.Mem.tail _ (List.Mem.tail _ (List.Mem.tail _ (List.Mem.tail _ (List.Mem.tail _ (List.Mem.tail _ (List.Mem.tail _ (List.Mem.head _))))))))))))
theorem wk_wsX2_setDrift_0_12 : Cond.fieldLink RX2 49 "TimeNet" "nodeCount" "I" ∈ wsX2_setDrift := lf_wsX2_setDrift_0 _ (List.Mem.tail _ (List.Mem.tail _ (List.Mem.tail _ (List.Mem.tail _ (List.Mem.tail _ (List.Mem.tail _ (List.Mem.tail _ (List.Mem.tail _ (List.Mem.tail _ (List.Mem.tail _ (List.Mem.tail _ (List.Mem.tail _ (List.Mem.head _)))))))))))))
theorem wk_wsX2_setDrift_0_1 : Cond.methodLink RX2 71 yX2_requireNode ∈ wsX2_setDrift := lf_wsX2_setDrift_0 _ (List.Mem.tail _ (List.Mem.head _))
theorem wk_wsX2_setDrift_0_2 : Cond.instanceMethod yX2_requireNode ∈ wsX2_setDrift := lf_wsX2_setDrift_0 _ (List.Mem.tail _ (List.Mem.tail _ (List.Mem.head _)))
theorem wk_wsX2_setDrift_0_3 : Cond.selects RX2 yX2_requireNode yX2_requireNode ∈ wsX2_setDrift := lf_wsX2_setDrift_0 _ (List.Mem.tail _ (List.Mem.tail _ (List.Mem.tail _ (List.Mem.head _))))
theorem wk_wsX2_setDrift_0_15 : Cond.code yX2_requireWithin cX2_requireWithin 3 none ∈ wsX2_setDrift := lf_wsX2_setDrift_0 _ (List.Mem.tail _ (List.Mem.tail _ (List.Mem.tail _ (List.Mem.tail _ (List.Mem.tail _ (List.Mem.tail _ (List.Mem.tail _ (List.Mem.tail _ (List.Mem.tail _ (List.Mem.tail _ (List.Mem.tail _ (List.Mem.tail _ (List.Mem.tail _ (List.Mem.tail _ (List.Mem.tail _ (List.Mem.head _))))))))))))))))
theorem wk_wsX2_setDrift_0_16 : Cond.classLink RX2 76 "java/lang/IllegalArgumentException" ∈ wsX2_setDrift := lf_wsX2_setDrift_0 _ (List.Mem.tail _ (List.Mem.tail _ (List.Mem.tail _ (List.Mem.tail _ (List.Mem.tail _ (List.Mem.tail _ (List.Mem.tail _ (List.Mem.tail _ (List.Mem.tail _ (List.Mem.tail _ (List.Mem.tail _ (List.Mem.tail _ (List.Mem.tail _ (List.Mem.tail _ (List.Mem.tail _ (List.Mem.tail _ (List.Mem.head _)))))))))))))))))
theorem wk_wsX2_setDrift_0_17 : Cond.initialized "java/lang/IllegalArgumentException" ∈ wsX2_setDrift := lf_wsX2_setDrift_0 _ (List.Mem.tail _ (List.Mem.tail _ (List.Mem.tail _ (List.Mem.tail _ (List.Mem.tail _ (List.Mem.tail _ (List.Mem.tail _ (List.Mem.tail _ (List.Mem.tail _ (List.Mem.tail _ (List.Mem.tail _ (List.Mem.tail _ (List.Mem.tail _ (List.Mem.tail _ (List.Mem.tail _ (List.Mem.tail _ (List.Mem.tail _ (List.Mem.head _))))))))))))))))))
theorem wk_wsX2_setDrift_0_13 : Cond.methodLink RX2 56 yX2_requireWithin ∈ wsX2_setDrift := lf_wsX2_setDrift_0 _ (List.Mem.tail _ (List.Mem.tail _ (List.Mem.tail _ (List.Mem.tail _ (List.Mem.tail _ (List.Mem.tail _ (List.Mem.tail _ (List.Mem.tail _ (List.Mem.tail _ (List.Mem.tail _ (List.Mem.tail _ (List.Mem.tail _ (List.Mem.tail _ (List.Mem.head _))))))))))))))
theorem wk_wsX2_setDrift_0_14 : Cond.static yX2_requireWithin ∈ wsX2_setDrift := lf_wsX2_setDrift_0 _ (List.Mem.tail _ (List.Mem.tail _ (List.Mem.tail _ (List.Mem.tail _ (List.Mem.tail _ (List.Mem.tail _ (List.Mem.tail _ (List.Mem.tail _ (List.Mem.tail _ (List.Mem.tail _ (List.Mem.tail _ (List.Mem.tail _ (List.Mem.tail _ (List.Mem.tail _ (List.Mem.head _)))))))))))))))
theorem lf_wsX2_setOffset_0 : ∀ w ∈ ([.constant RX2 74 (-1000000), .constant RX2 75 (1000000), .fieldLink RX2 22 "TimeNet" "offsetOf" "[J", .methodLink RX2 71 yX2_requireNode, .instanceMethod yX2_requireNode, .selects RX2 yX2_requireNode yX2_requireNode, .initialized RX2, .code yX2_requireNode cX2_requireNode 2 none, .classLink RX2 148 "java/lang/IndexOutOfBoundsException", .initialized "java/lang/IndexOutOfBoundsException", .methodLink RX2 144 yX2_isNode, .instanceMethod yX2_isNode, .selects RX2 yX2_isNode yX2_isNode, .code yX2_isNode cX2_isNode 2 (some .boolean), .fieldLink RX2 49 "TimeNet" "nodeCount" "I", .methodLink RX2 56 yX2_requireWithin, .static yX2_requireWithin, .code yX2_requireWithin cX2_requireWithin 3 none, .classLink RX2 76 "java/lang/IllegalArgumentException", .initialized "java/lang/IllegalArgumentException"] : List Cond), w ∈ wsX2_setOffset := fun w h => (List.mem_cons_of_mem _ (List.mem_append_left _ (List.mem_append_left _ (List.mem_append_left _ h))))
theorem lf_wsX2_setOffset_1 : ∀ w ∈ wsX20, w ∈ wsX2_setOffset := fun w h => (List.mem_cons_of_mem _ (List.mem_append_left _ (List.mem_append_left _ (List.mem_append_right _ h))))
theorem wk_wsX2_setOffset_0_7 : Cond.code yX2_requireNode cX2_requireNode 2 none ∈ wsX2_setOffset := lf_wsX2_setOffset_0 _ (List.Mem.tail _ (List.Mem.tail _ (List.Mem.tail _ (List.Mem.tail _ (List.Mem.tail _ (List.Mem.tail _ (List.Mem.tail _ (List.Mem.head _))))))))
theorem wk_wsX2_setOffset_0_8 : Cond.classLink RX2 148 "java/lang/IndexOutOfBoundsException" ∈ wsX2_setOffset := lf_wsX2_setOffset_0 _ (List.Mem.tail _ (List.Mem.tail _ (List.Mem.tail _ (List.Mem.tail _ (List.Mem.tail _ (List.Mem.tail _ (List.Mem.tail _ (List.Mem.tail _ (List.Mem.head _)))))))))
theorem wk_wsX2_setOffset_0_9 : Cond.initialized "java/lang/IndexOutOfBoundsException" ∈ wsX2_setOffset := lf_wsX2_setOffset_0 _ (List.Mem.tail _ (List.Mem.tail _ (List.Mem.tail _ (List.Mem.tail _ (List.Mem.tail _ (List.Mem.tail _ (List.Mem.tail _ (List.Mem.tail _ (List.Mem.tail _ (List.Mem.head _))))))))))
theorem wk_wsX2_setOffset_0_10 : Cond.methodLink RX2 144 yX2_isNode ∈ wsX2_setOffset := lf_wsX2_setOffset_0 _ (List.Mem.tail _ (List.Mem.tail _ (List.Mem.tail _ (List.Mem.tail _ (List.Mem.tail _ (List.Mem.tail _ (List.Mem.tail _ (List.Mem.tail _ (List.Mem.tail _ (List.Mem.tail _ (List.Mem.head _)))))))))))
theorem wk_wsX2_setOffset_0_11 : Cond.instanceMethod yX2_isNode ∈ wsX2_setOffset := lf_wsX2_setOffset_0 _ (List.Mem.tail _ (List.Mem.tail _ (List.Mem.tail _ (List.Mem.tail _ (List.Mem.tail _ (List.Mem.tail _ (List.Mem.tail _ (List.Mem.tail _ (List.Mem.tail _ (List.Mem.tail _ (List.Mem.tail _ (List.Mem.head _))))))))))))
theorem wk_wsX2_setOffset_0_12 : Cond.selects RX2 yX2_isNode yX2_isNode ∈ wsX2_setOffset := lf_wsX2_setOffset_0 _ (List.Mem.tail _ (List.Mem.tail _ (List.Mem.tail _ (List.Mem.tail _ (List.Mem.tail _ (List.Mem.tail _ (List.Mem.tail _ (List.Mem.tail _ (List.Mem.tail _ (List.Mem.tail _ (List.Mem.tail _ (List.Mem.tail _ (List.Mem.head _)))))))))))))
theorem wk_wsX2_setOffset_0_6 : Cond.initialized RX2 ∈ wsX2_setOffset := lf_wsX2_setOffset_0 _ (List.Mem.tail _ (List.Mem.tail _ (List.Mem.tail _ (List.Mem.tail _ (List.Mem.tail _ (List.Mem.tail _ (List.Mem.head _)))))))
theorem wk_wsX2_setOffset_0_13 : Cond.code yX2_isNode cX2_isNode 2 (some .boolean) ∈ wsX2_setOffset := lf_wsX2_setOffset_0 _ (List.Mem.tail _ (List.Mem.tail _ (List.Mem.tail _ (List.Mem.tail _ (List.Mem.tail _ (List.Mem.tail _ (List.Mem.tail _ (List.Mem.tail _ (List.Mem.tail _ (List.Mem.tail _ (List.Mem.tail _ (List.Mem.tail _ (List.Mem.tail _ (List.Mem.head _))))))))))))))
theorem wk_wsX2_setOffset_0_14 : Cond.fieldLink RX2 49 "TimeNet" "nodeCount" "I" ∈ wsX2_setOffset := lf_wsX2_setOffset_0 _ (List.Mem.tail _ (List.Mem.tail _ (List.Mem.tail _ (List.Mem.tail _ (List.Mem.tail _ (List.Mem.tail _ (List.Mem.tail _ (List.Mem.tail _ (List.Mem.tail _ (List.Mem.tail _ (List.Mem.tail _ (List.Mem.tail _ (List.Mem.tail _ (List.Mem.tail _ (List.Mem.head _)))))))))))))))
theorem wk_wsX2_setOffset_0_3 : Cond.methodLink RX2 71 yX2_requireNode ∈ wsX2_setOffset := lf_wsX2_setOffset_0 _ (List.Mem.tail _ (List.Mem.tail _ (List.Mem.tail _ (List.Mem.head _))))
theorem wk_wsX2_setOffset_0_4 : Cond.instanceMethod yX2_requireNode ∈ wsX2_setOffset := lf_wsX2_setOffset_0 _ (List.Mem.tail _ (List.Mem.tail _ (List.Mem.tail _ (List.Mem.tail _ (List.Mem.head _)))))
theorem wk_wsX2_setOffset_0_5 : Cond.selects RX2 yX2_requireNode yX2_requireNode ∈ wsX2_setOffset := lf_wsX2_setOffset_0 _ (List.Mem.tail _ (List.Mem.tail _ (List.Mem.tail _ (List.Mem.tail _ (List.Mem.tail _ (List.Mem.head _))))))
theorem wk_wsX2_setOffset_0_17 : Cond.code yX2_requireWithin cX2_requireWithin 3 none ∈ wsX2_setOffset := lf_wsX2_setOffset_0 _ (List.Mem.tail _ (List.Mem.tail _ (List.Mem.tail _ (List.Mem.tail _ (List.Mem.tail _ (List.Mem.tail _ (List.Mem.tail _ (List.Mem.tail _ (List.Mem.tail _ (List.Mem.tail _ (List.Mem.tail _ (List.Mem.tail _ (List.Mem.tail _ (List.Mem.tail _ (List.Mem.tail _ (List.Mem.tail _ (List.Mem.tail _ (List.Mem.head _))))))))))))))))))
theorem wk_wsX2_setOffset_0_18 : Cond.classLink RX2 76 "java/lang/IllegalArgumentException" ∈ wsX2_setOffset := lf_wsX2_setOffset_0 _ (List.Mem.tail _ (List.Mem.tail _ (List.Mem.tail _ (List.Mem.tail _ (List.Mem.tail _ (List.Mem.tail _ (List.Mem.tail _ (List.Mem.tail _ (List.Mem.tail _ (List.Mem.tail _ (List.Mem.tail _ (List.Mem.tail _ (List.Mem.tail _ (List.Mem.tail _ (List.Mem.tail _ (List.Mem.tail _ (List.Mem.tail _ (List.Mem.tail _ (List.Mem.head _)))))))))))))))))))
theorem wk_wsX2_setOffset_0_19 : Cond.initialized "java/lang/IllegalArgumentException" ∈ wsX2_setOffset := lf_wsX2_setOffset_0 _ (List.Mem.tail _ (List.Mem.tail _ (List.Mem.tail _ (List.Mem.tail _ (List.Mem.tail _ (List.Mem.tail _ (List.Mem.tail _ (List.Mem.tail _ (List.Mem.tail _ (List.Mem.tail _ (List.Mem.tail _ (List.Mem.tail _ (List.Mem.tail _ (List.Mem.tail _ (List.Mem.tail _ (List.Mem.tail _ (List.Mem.tail _ (List.Mem.tail _ (List.Mem.tail _ (List.Mem.head _))))))))))))))))))))
theorem wk_wsX2_setOffset_0_15 : Cond.methodLink RX2 56 yX2_requireWithin ∈ wsX2_setOffset := lf_wsX2_setOffset_0 _ (List.Mem.tail _ (List.Mem.tail _ (List.Mem.tail _ (List.Mem.tail _ (List.Mem.tail _ (List.Mem.tail _ (List.Mem.tail _ (List.Mem.tail _ (List.Mem.tail _ (List.Mem.tail _ (List.Mem.tail _ (List.Mem.tail _ (List.Mem.tail _ (List.Mem.tail _ (List.Mem.tail _ (List.Mem.head _))))))))))))))))
theorem wk_wsX2_setOffset_0_16 : Cond.static yX2_requireWithin ∈ wsX2_setOffset := lf_wsX2_setOffset_0 _ (List.Mem.tail _ (List.Mem.tail _ (List.Mem.tail _ (List.Mem.tail _ (List.Mem.tail _ (List.Mem.tail _ (List.Mem.tail _ (List.Mem.tail _ (List.Mem.tail _ (List.Mem.tail _ (List.Mem.tail _ (List.Mem.tail _ (List.Mem.tail _ (List.Mem.tail _ (List.Mem.tail _ (List.Mem.tail _ (List.Mem.head _)))))))))))))))))
theorem lf_wsX2_link_0 : ∀ w ∈ wsX2_link_r1, w ∈ wsX2_link := fun w h => (List.mem_cons_of_mem _ (List.mem_append_left _ (List.mem_append_left _ (List.mem_append_left _ (List.mem_append_left _ (List.mem_append_left _ (List.mem_append_left _ h)))))))
theorem lf_wsX2_link_1 : ∀ w ∈ wsX2_link_r2, w ∈ wsX2_link := fun w h => (List.mem_cons_of_mem _ (List.mem_append_left _ (List.mem_append_left _ (List.mem_append_left _ (List.mem_append_left _ (List.mem_append_left _ (List.mem_append_right _ h)))))))
theorem lf_wsX2_link_2 : ∀ w ∈ wsX20, w ∈ wsX2_link := fun w h => (List.mem_cons_of_mem _ (List.mem_append_left _ (List.mem_append_left _ (List.mem_append_left _ (List.mem_append_left _ (List.mem_append_right _ h))))))
theorem lf_wsX2_link_3 : ∀ w ∈ wsX10, w ∈ wsX2_link := fun w h => (List.mem_cons_of_mem _ (List.mem_append_left _ (List.mem_append_left _ (List.mem_append_left _ (List.mem_append_right _ h)))))
theorem wk_wsX2_link_0_10 : Cond.code yX2_requireNode cX2_requireNode 2 none ∈ wsX2_link := lf_wsX2_link_0 _ (List.Mem.tail _ (List.Mem.tail _ (List.Mem.tail _ (List.Mem.tail _ (List.Mem.tail _ (List.Mem.tail _ (List.Mem.tail _ (List.Mem.tail _ (List.Mem.tail _ (List.Mem.tail _ (List.Mem.head _)))))))))))
theorem wk_wsX2_link_0_11 : Cond.classLink RX2 148 "java/lang/IndexOutOfBoundsException" ∈ wsX2_link := lf_wsX2_link_0 _ (List.Mem.tail _ (List.Mem.tail _ (List.Mem.tail _ (List.Mem.tail _ (List.Mem.tail _ (List.Mem.tail _ (List.Mem.tail _ (List.Mem.tail _ (List.Mem.tail _ (List.Mem.tail _ (List.Mem.tail _ (List.Mem.head _))))))))))))
theorem wk_wsX2_link_0_12 : Cond.initialized "java/lang/IndexOutOfBoundsException" ∈ wsX2_link := lf_wsX2_link_0 _ (List.Mem.tail _ (List.Mem.tail _ (List.Mem.tail _ (List.Mem.tail _ (List.Mem.tail _ (List.Mem.tail _ (List.Mem.tail _ (List.Mem.tail _ (List.Mem.tail _ (List.Mem.tail _ (List.Mem.tail _ (List.Mem.tail _ (List.Mem.head _)))))))))))))
theorem wk_wsX2_link_0_13 : Cond.methodLink RX2 144 yX2_isNode ∈ wsX2_link := lf_wsX2_link_0 _ (List.Mem.tail _ (List.Mem.tail _ (List.Mem.tail _ (List.Mem.tail _ (List.Mem.tail _ (List.Mem.tail _ (List.Mem.tail _ (List.Mem.tail _ (List.Mem.tail _ (List.Mem.tail _ (List.Mem.tail _ (List.Mem.tail _ (List.Mem.tail _ (List.Mem.head _))))))))))))))
theorem wk_wsX2_link_0_14 : Cond.instanceMethod yX2_isNode ∈ wsX2_link := lf_wsX2_link_0 _ (List.Mem.tail _ (List.Mem.tail _ (List.Mem.tail _ (List.Mem.tail _ (List.Mem.tail _ (List.Mem.tail _ (List.Mem.tail _ (List.Mem.tail _ (List.Mem.tail _ (List.Mem.tail _ (List.Mem.tail _ (List.Mem.tail _ (List.Mem.tail _ (List.Mem.tail _ (List.Mem.head _)))))))))))))))
theorem wk_wsX2_link_0_15 : Cond.selects RX2 yX2_isNode yX2_isNode ∈ wsX2_link := lf_wsX2_link_0 _ (List.Mem.tail _ (List.Mem.tail _ (List.Mem.tail _ (List.Mem.tail _ (List.Mem.tail _ (List.Mem.tail _ (List.Mem.tail _ (List.Mem.tail _ (List.Mem.tail _ (List.Mem.tail _ (List.Mem.tail _ (List.Mem.tail _ (List.Mem.tail _ (List.Mem.tail _ (List.Mem.tail _ (List.Mem.head _))))))))))))))))
theorem wk_wsX2_link_0_9 : Cond.initialized RX2 ∈ wsX2_link := lf_wsX2_link_0 _ (List.Mem.tail _ (List.Mem.tail _ (List.Mem.tail _ (List.Mem.tail _ (List.Mem.tail _ (List.Mem.tail _ (List.Mem.tail _ (List.Mem.tail _ (List.Mem.tail _ (List.Mem.head _))))))))))
theorem wk_wsX2_link_0_16 : Cond.code yX2_isNode cX2_isNode 2 (some .boolean) ∈ wsX2_link := lf_wsX2_link_0 _ (List.Mem.tail _ (List.Mem.tail _ (List.Mem.tail _ (List.Mem.tail _ (List.Mem.tail _ (List.Mem.tail _ (List.Mem.tail _ (List.Mem.tail _ (List.Mem.tail _ (List.Mem.tail _ (List.Mem.tail _ (List.Mem.tail _ (List.Mem.tail _ (List.Mem.tail _ (List.Mem.tail _ (List.Mem.tail _ (List.Mem.head _)))))))))))))))))
theorem wk_wsX2_link_0_17 : Cond.fieldLink RX2 49 "TimeNet" "nodeCount" "I" ∈ wsX2_link := lf_wsX2_link_0 _ (List.Mem.tail _ (List.Mem.tail _ (List.Mem.tail _ (List.Mem.tail _ (List.Mem.tail _ (List.Mem.tail _ (List.Mem.tail _ (List.Mem.tail _ (List.Mem.tail _ (List.Mem.tail _ (List.Mem.tail _ (List.Mem.tail _ (List.Mem.tail _ (List.Mem.tail _ (List.Mem.tail _ (List.Mem.tail _ (List.Mem.tail _ (List.Mem.head _))))))))))))))))))
theorem wk_wsX2_link_0_6 : Cond.methodLink RX2 71 yX2_requireNode ∈ wsX2_link := lf_wsX2_link_0 _ (List.Mem.tail _ (List.Mem.tail _ (List.Mem.tail _ (List.Mem.tail _ (List.Mem.tail _ (List.Mem.tail _ (List.Mem.head _)))))))
theorem wk_wsX2_link_0_7 : Cond.instanceMethod yX2_requireNode ∈ wsX2_link := lf_wsX2_link_0 _ (List.Mem.tail _ (List.Mem.tail _ (List.Mem.tail _ (List.Mem.tail _ (List.Mem.tail _ (List.Mem.tail _ (List.Mem.tail _ (List.Mem.head _))))))))
theorem wk_wsX2_link_0_8 : Cond.selects RX2 yX2_requireNode yX2_requireNode ∈ wsX2_link := lf_wsX2_link_0 _ (List.Mem.tail _ (List.Mem.tail _ (List.Mem.tail _ (List.Mem.tail _ (List.Mem.tail _ (List.Mem.tail _ (List.Mem.tail _ (List.Mem.tail _ (List.Mem.head _)))))))))
theorem wk_wsX2_link_0_20 : Cond.code yX2_requireWithin cX2_requireWithin 3 none ∈ wsX2_link := lf_wsX2_link_0 _ (List.Mem.tail _ (List.Mem.tail _ (List.Mem.tail _ (List.Mem.tail _ (List.Mem.tail _ (List.Mem.tail _ (List.Mem.tail _ (List.Mem.tail _ (List.Mem.tail _ (List.Mem.tail _ (List.Mem.tail _ (List.Mem.tail _ (List.Mem.tail _ (List.Mem.tail _ (List.Mem.tail _ (List.Mem.tail _ (List.Mem.tail _ (List.Mem.tail _ (List.Mem.tail _ (List.Mem.tail _ (List.Mem.head _)))))))))))))))))))))
theorem wk_wsX2_link_0_0 : Cond.classLink RX2 76 "java/lang/IllegalArgumentException" ∈ wsX2_link := lf_wsX2_link_0 _ (List.Mem.head _)
theorem wk_wsX2_link_0_1 : Cond.initialized "java/lang/IllegalArgumentException" ∈ wsX2_link := lf_wsX2_link_0 _ (List.Mem.tail _ (List.Mem.head _))
theorem wk_wsX2_link_0_18 : Cond.methodLink RX2 56 yX2_requireWithin ∈ wsX2_link := lf_wsX2_link_0 _ (List.Mem.tail _ (List.Mem.tail _ (List.Mem.tail _ (List.Mem.tail _ (List.Mem.tail _ (List.Mem.tail _ (List.Mem.tail _ (List.Mem.tail _ (List.Mem.tail _ (List.Mem.tail _ (List.Mem.tail _ (List.Mem.tail _ (List.Mem.tail _ (List.Mem.tail _ (List.Mem.tail _ (List.Mem.tail _ (List.Mem.tail _ (List.Mem.tail _ (List.Mem.head _)))))))))))))))))))
theorem wk_wsX2_link_0_19 : Cond.static yX2_requireWithin ∈ wsX2_link := lf_wsX2_link_0 _ (List.Mem.tail _ (List.Mem.tail _ (List.Mem.tail _ (List.Mem.tail _ (List.Mem.tail _ (List.Mem.tail _ (List.Mem.tail _ (List.Mem.tail _ (List.Mem.tail _ (List.Mem.tail _ (List.Mem.tail _ (List.Mem.tail _ (List.Mem.tail _ (List.Mem.tail _ (List.Mem.tail _ (List.Mem.tail _ (List.Mem.tail _ (List.Mem.tail _ (List.Mem.tail _ (List.Mem.head _))))))))))))))))))))
theorem wk_wsX2_link_1_0 : Cond.code yX1_areLinked cX1_areLinked 3 (some .boolean) ∈ wsX2_link := lf_wsX2_link_1 _ (List.Mem.head _)
theorem wk_wsX2_link_1_1 : Cond.fieldLink RX1 9 "TimeNet$Wires" "laid" "[Z" ∈ wsX2_link := lf_wsX2_link_1 _ (List.Mem.tail _ (List.Mem.head _))
theorem wk_wsX2_link_1_2 : Cond.methodLink RX1 26 yX1_place ∈ wsX2_link := lf_wsX2_link_1 _ (List.Mem.tail _ (List.Mem.tail _ (List.Mem.head _)))
theorem wk_wsX2_link_1_3 : Cond.static yX1_place ∈ wsX2_link := lf_wsX2_link_1 _ (List.Mem.tail _ (List.Mem.tail _ (List.Mem.tail _ (List.Mem.head _))))
theorem wk_wsX2_link_0_22 : Cond.initialized RX1 ∈ wsX2_link := lf_wsX2_link_0 _ (List.Mem.tail _ (List.Mem.tail _ (List.Mem.tail _ (List.Mem.tail _ (List.Mem.tail _ (List.Mem.tail _ (List.Mem.tail _ (List.Mem.tail _ (List.Mem.tail _ (List.Mem.tail _ (List.Mem.tail _ (List.Mem.tail _ (List.Mem.tail _ (List.Mem.tail _ (List.Mem.tail _ (List.Mem.tail _ (List.Mem.tail _ (List.Mem.tail _ (List.Mem.tail _ (List.Mem.tail _ (List.Mem.tail _ (List.Mem.tail _ (List.Mem.head _)))))))))))))))))))))))
theorem wk_wsX2_link_1_4 : Cond.code yX1_place cX1_place 2 (some .int) ∈ wsX2_link := lf_wsX2_link_1 _ (List.Mem.tail _ (List.Mem.tail _ (List.Mem.tail _ (List.Mem.tail _ (List.Mem.head _)))))
theorem wk_wsX2_link_1_7 : Cond.code yX1_lay cX1_lay 5 none ∈ wsX2_link := lf_wsX2_link_1 _ (List.Mem.tail _ (List.Mem.tail _ (List.Mem.tail _ (List.Mem.tail _ (List.Mem.tail _ (List.Mem.tail _ (List.Mem.tail _ (List.Mem.head _))))))))
theorem wk_wsX2_link_1_8 : Cond.fieldLink RX1 15 "TimeNet$Wires" "delay" "[I" ∈ wsX2_link := lf_wsX2_link_1 _ (List.Mem.tail _ (List.Mem.tail _ (List.Mem.tail _ (List.Mem.tail _ (List.Mem.tail _ (List.Mem.tail _ (List.Mem.tail _ (List.Mem.tail _ (List.Mem.head _)))))))))
theorem wk_wsX2_link_1_9 : Cond.fieldLink RX1 22 "TimeNet$Wires" "count" "I" ∈ wsX2_link := lf_wsX2_link_1 _ (List.Mem.tail _ (List.Mem.tail _ (List.Mem.tail _ (List.Mem.tail _ (List.Mem.tail _ (List.Mem.tail _ (List.Mem.tail _ (List.Mem.tail _ (List.Mem.tail _ (List.Mem.head _))))))))))
theorem wk_wsX2_link_1_10 : Cond.methodLink RX1 30 yX1_noteDifference ∈ wsX2_link := lf_wsX2_link_1 _ (List.Mem.tail _ (List.Mem.tail _ (List.Mem.tail _ (List.Mem.tail _ (List.Mem.tail _ (List.Mem.tail _ (List.Mem.tail _ (List.Mem.tail _ (List.Mem.tail _ (List.Mem.tail _ (List.Mem.head _)))))))))))
theorem wk_wsX2_link_1_11 : Cond.instanceMethod yX1_noteDifference ∈ wsX2_link := lf_wsX2_link_1 _ (List.Mem.tail _ (List.Mem.tail _ (List.Mem.tail _ (List.Mem.tail _ (List.Mem.tail _ (List.Mem.tail _ (List.Mem.tail _ (List.Mem.tail _ (List.Mem.tail _ (List.Mem.tail _ (List.Mem.tail _ (List.Mem.head _))))))))))))
theorem wk_wsX2_link_1_12 : Cond.selects RX1 yX1_noteDifference yX1_noteDifference ∈ wsX2_link := lf_wsX2_link_1 _ (List.Mem.tail _ (List.Mem.tail _ (List.Mem.tail _ (List.Mem.tail _ (List.Mem.tail _ (List.Mem.tail _ (List.Mem.tail _ (List.Mem.tail _ (List.Mem.tail _ (List.Mem.tail _ (List.Mem.tail _ (List.Mem.tail _ (List.Mem.head _)))))))))))))
theorem wk_wsX2_link_1_13 : Cond.code yX1_noteDifference cX1_noteDifference 5 (some .int) ∈ wsX2_link := lf_wsX2_link_1 _ (List.Mem.tail _ (List.Mem.tail _ (List.Mem.tail _ (List.Mem.tail _ (List.Mem.tail _ (List.Mem.tail _ (List.Mem.tail _ (List.Mem.tail _ (List.Mem.tail _ (List.Mem.tail _ (List.Mem.tail _ (List.Mem.tail _ (List.Mem.tail _ (List.Mem.head _))))))))))))))
theorem wk_wsX2_link_1_14 : Cond.fieldLink RX1 19 "TimeNet$Wires" "told" "[I" ∈ wsX2_link := lf_wsX2_link_1 _ (List.Mem.tail _ (List.Mem.tail _ (List.Mem.tail _ (List.Mem.tail _ (List.Mem.tail _ (List.Mem.tail _ (List.Mem.tail _ (List.Mem.tail _ (List.Mem.tail _ (List.Mem.tail _ (List.Mem.tail _ (List.Mem.tail _ (List.Mem.tail _ (List.Mem.tail _ (List.Mem.head _)))))))))))))))
theorem lf_wsX2_cut_0 : ∀ w ∈ wsX2_cut_r1, w ∈ wsX2_cut := fun w h => (List.mem_cons_of_mem _ (List.mem_append_left _ (List.mem_append_left _ (List.mem_append_left _ (List.mem_append_left _ (List.mem_append_left _ (List.mem_append_left _ h)))))))
theorem lf_wsX2_cut_1 : ∀ w ∈ wsX2_cut_r2, w ∈ wsX2_cut := fun w h => (List.mem_cons_of_mem _ (List.mem_append_left _ (List.mem_append_left _ (List.mem_append_left _ (List.mem_append_left _ (List.mem_append_left _ (List.mem_append_right _ (List.mem_append_left _ h))))))))
theorem lf_wsX2_cut_2 : ∀ w ∈ wsX2_cut_r3, w ∈ wsX2_cut := fun w h => (List.mem_cons_of_mem _ (List.mem_append_left _ (List.mem_append_left _ (List.mem_append_left _ (List.mem_append_left _ (List.mem_append_left _ (List.mem_append_right _ (List.mem_append_right _ h))))))))
theorem lf_wsX2_cut_3 : ∀ w ∈ wsX20, w ∈ wsX2_cut := fun w h => (List.mem_cons_of_mem _ (List.mem_append_left _ (List.mem_append_left _ (List.mem_append_left _ (List.mem_append_left _ (List.mem_append_right _ h))))))
theorem lf_wsX2_cut_4 : ∀ w ∈ wsX10, w ∈ wsX2_cut := fun w h => (List.mem_cons_of_mem _ (List.mem_append_left _ (List.mem_append_left _ (List.mem_append_left _ (List.mem_append_right _ h)))))
theorem lf_wsX2_cut_5 : ∀ w ∈ wsX00, w ∈ wsX2_cut := fun w h => (List.mem_cons_of_mem _ (List.mem_append_left _ (List.mem_append_left _ (List.mem_append_right _ h))))
theorem wk_wsX2_cut_0_5 : Cond.code yX2_requireNode cX2_requireNode 2 none ∈ wsX2_cut := lf_wsX2_cut_0 _ (List.Mem.tail _ (List.Mem.tail _ (List.Mem.tail _ (List.Mem.tail _ (List.Mem.tail _ (List.Mem.head _))))))
theorem wk_wsX2_cut_0_6 : Cond.classLink RX2 148 "java/lang/IndexOutOfBoundsException" ∈ wsX2_cut := lf_wsX2_cut_0 _ (List.Mem.tail _ (List.Mem.tail _ (List.Mem.tail _ (List.Mem.tail _ (List.Mem.tail _ (List.Mem.tail _ (List.Mem.head _)))))))
theorem wk_wsX2_cut_0_7 : Cond.initialized "java/lang/IndexOutOfBoundsException" ∈ wsX2_cut := lf_wsX2_cut_0 _ (List.Mem.tail _ (List.Mem.tail _ (List.Mem.tail _ (List.Mem.tail _ (List.Mem.tail _ (List.Mem.tail _ (List.Mem.tail _ (List.Mem.head _))))))))
theorem wk_wsX2_cut_0_8 : Cond.methodLink RX2 144 yX2_isNode ∈ wsX2_cut := lf_wsX2_cut_0 _ (List.Mem.tail _ (List.Mem.tail _ (List.Mem.tail _ (List.Mem.tail _ (List.Mem.tail _ (List.Mem.tail _ (List.Mem.tail _ (List.Mem.tail _ (List.Mem.head _)))))))))
theorem wk_wsX2_cut_0_9 : Cond.instanceMethod yX2_isNode ∈ wsX2_cut := lf_wsX2_cut_0 _ (List.Mem.tail _ (List.Mem.tail _ (List.Mem.tail _ (List.Mem.tail _ (List.Mem.tail _ (List.Mem.tail _ (List.Mem.tail _ (List.Mem.tail _ (List.Mem.tail _ (List.Mem.head _))))))))))
theorem wk_wsX2_cut_0_10 : Cond.selects RX2 yX2_isNode yX2_isNode ∈ wsX2_cut := lf_wsX2_cut_0 _ (List.Mem.tail _ (List.Mem.tail _ (List.Mem.tail _ (List.Mem.tail _ (List.Mem.tail _ (List.Mem.tail _ (List.Mem.tail _ (List.Mem.tail _ (List.Mem.tail _ (List.Mem.tail _ (List.Mem.head _)))))))))))
theorem wk_wsX2_cut_0_4 : Cond.initialized RX2 ∈ wsX2_cut := lf_wsX2_cut_0 _ (List.Mem.tail _ (List.Mem.tail _ (List.Mem.tail _ (List.Mem.tail _ (List.Mem.head _)))))
theorem wk_wsX2_cut_0_11 : Cond.code yX2_isNode cX2_isNode 2 (some .boolean) ∈ wsX2_cut := lf_wsX2_cut_0 _ (List.Mem.tail _ (List.Mem.tail _ (List.Mem.tail _ (List.Mem.tail _ (List.Mem.tail _ (List.Mem.tail _ (List.Mem.tail _ (List.Mem.tail _ (List.Mem.tail _ (List.Mem.tail _ (List.Mem.tail _ (List.Mem.head _))))))))))))
theorem wk_wsX2_cut_0_12 : Cond.fieldLink RX2 49 "TimeNet" "nodeCount" "I" ∈ wsX2_cut := lf_wsX2_cut_0 _ (List.Mem.tail _ (List.Mem.tail _ (List.Mem.tail _ (List.Mem.tail _ (List.Mem.tail _ (List.Mem.tail _ (List.Mem.tail _ (List.Mem.tail _ (List.Mem.tail _ (List.Mem.tail _ (List.Mem.tail _ (List.Mem.tail _ (List.Mem.head _)))))))))))))
theorem wk_wsX2_cut_0_1 : Cond.methodLink RX2 71 yX2_requireNode ∈ wsX2_cut := lf_wsX2_cut_0 _ (List.Mem.tail _ (List.Mem.head _))
theorem wk_wsX2_cut_0_2 : Cond.instanceMethod yX2_requireNode ∈ wsX2_cut := lf_wsX2_cut_0 _ (List.Mem.tail _ (List.Mem.tail _ (List.Mem.head _)))
theorem wk_wsX2_cut_0_3 : Cond.selects RX2 yX2_requireNode yX2_requireNode ∈ wsX2_cut := lf_wsX2_cut_0 _ (List.Mem.tail _ (List.Mem.tail _ (List.Mem.tail _ (List.Mem.head _))))
theorem wk_wsX2_cut_0_16 : Cond.code yX2_requireLinked cX2_requireLinked 3 none ∈ wsX2_cut := lf_wsX2_cut_0 _ (List.Mem.tail _ (List.Mem.tail _ (List.Mem.tail _ (List.Mem.tail _ (List.Mem.tail _ (List.Mem.tail _ (List.Mem.tail _ (List.Mem.tail _ (List.Mem.tail _ (List.Mem.tail _ (List.Mem.tail _ (List.Mem.tail _ (List.Mem.tail _ (List.Mem.tail _ (List.Mem.tail _ (List.Mem.tail _ (List.Mem.head _)))))))))))))))))
theorem wk_wsX2_cut_0_17 : Cond.classLink RX2 60 "java/lang/IllegalStateException" ∈ wsX2_cut := lf_wsX2_cut_0 _ (List.Mem.tail _ (List.Mem.tail _ (List.Mem.tail _ (List.Mem.tail _ (List.Mem.tail _ (List.Mem.tail _ (List.Mem.tail _ (List.Mem.tail _ (List.Mem.tail _ (List.Mem.tail _ (List.Mem.tail _ (List.Mem.tail _ (List.Mem.tail _ (List.Mem.tail _ (List.Mem.tail _ (List.Mem.tail _ (List.Mem.tail _ (List.Mem.head _))))))))))))))))))
theorem wk_wsX2_cut_0_18 : Cond.initialized "java/lang/IllegalStateException" ∈ wsX2_cut := lf_wsX2_cut_0 _ (List.Mem.tail _ (List.Mem.tail _ (List.Mem.tail _ (List.Mem.tail _ (List.Mem.tail _ (List.Mem.tail _ (List.Mem.tail _ (List.Mem.tail _ (List.Mem.tail _ (List.Mem.tail _ (List.Mem.tail _ (List.Mem.tail _ (List.Mem.tail _ (List.Mem.tail _ (List.Mem.tail _ (List.Mem.tail _ (List.Mem.tail _ (List.Mem.tail _ (List.Mem.head _)))))))))))))))))))
theorem wk_wsX2_cut_0_0 : Cond.fieldLink RX2 32 "TimeNet" "wires" "LTimeNet$Wires;" ∈ wsX2_cut := lf_wsX2_cut_0 _ (List.Mem.head _)
theorem wk_wsX2_cut_0_19 : Cond.instanceMethod yX1_areLinked ∈ wsX2_cut := lf_wsX2_cut_0 _ (List.Mem.tail _ (List.Mem.tail _ (List.Mem.tail _ (List.Mem.tail _ (List.Mem.tail _ (List.Mem.tail _ (List.Mem.tail _ (List.Mem.tail _ (List.Mem.tail _ (List.Mem.tail _ (List.Mem.tail _ (List.Mem.tail _ (List.Mem.tail _ (List.Mem.tail _ (List.Mem.tail _ (List.Mem.tail _ (List.Mem.tail _ (List.Mem.tail _ (List.Mem.tail _ (List.Mem.head _))))))))))))))))))))
theorem wk_wsX2_cut_0_20 : Cond.initialized RX1 ∈ wsX2_cut := lf_wsX2_cut_0 _ (List.Mem.tail _ (List.Mem.tail _ (List.Mem.tail _ (List.Mem.tail _ (List.Mem.tail _ (List.Mem.tail _ (List.Mem.tail _ (List.Mem.tail _ (List.Mem.tail _ (List.Mem.tail _ (List.Mem.tail _ (List.Mem.tail _ (List.Mem.tail _ (List.Mem.tail _ (List.Mem.tail _ (List.Mem.tail _ (List.Mem.tail _ (List.Mem.tail _ (List.Mem.tail _ (List.Mem.tail _ (List.Mem.head _)))))))))))))))))))))
theorem wk_wsX2_cut_0_21 : Cond.selects RX1 yX1_areLinked yX1_areLinked ∈ wsX2_cut := lf_wsX2_cut_0 _ (List.Mem.tail _ (List.Mem.tail _ (List.Mem.tail _ (List.Mem.tail _ (List.Mem.tail _ (List.Mem.tail _ (List.Mem.tail _ (List.Mem.tail _ (List.Mem.tail _ (List.Mem.tail _ (List.Mem.tail _ (List.Mem.tail _ (List.Mem.tail _ (List.Mem.tail _ (List.Mem.tail _ (List.Mem.tail _ (List.Mem.tail _ (List.Mem.tail _ (List.Mem.tail _ (List.Mem.tail _ (List.Mem.tail _ (List.Mem.head _))))))))))))))))))))))
theorem wk_wsX2_cut_0_22 : Cond.code yX1_areLinked cX1_areLinked 3 (some .boolean) ∈ wsX2_cut := lf_wsX2_cut_0 _ (List.Mem.tail _ (List.Mem.tail _ (List.Mem.tail _ (List.Mem.tail _ (List.Mem.tail _ (List.Mem.tail _ (List.Mem.tail _ (List.Mem.tail _ (List.Mem.tail _ (List.Mem.tail _ (List.Mem.tail _ (List.Mem.tail _ (List.Mem.tail _ (List.Mem.tail _ (List.Mem.tail _ (List.Mem.tail _ (List.Mem.tail _ (List.Mem.tail _ (List.Mem.tail _ (List.Mem.tail _ (List.Mem.tail _ (List.Mem.tail _ (List.Mem.head _)))))))))))))))))))))))
theorem wk_wsX2_cut_0_23 : Cond.fieldLink RX1 9 "TimeNet$Wires" "laid" "[Z" ∈ wsX2_cut := lf_wsX2_cut_0 _ (List.Mem.tail _ (List.Mem.tail _ (List.Mem.tail _ (List.Mem.tail _ (List.Mem.tail _ (List.Mem.tail _ (List.Mem.tail _ (List.Mem.tail _ (List.Mem.tail _ (List.Mem.tail _ (List.Mem.tail _ (List.Mem.tail _ (List.Mem.tail _ (List.Mem.tail _ (List.Mem.tail _ (List.Mem.tail _ (List.Mem.tail _ (List.Mem.tail _ (List.Mem.tail _ (List.Mem.tail _ (List.Mem.tail _ (List.Mem.tail _ (List.Mem.tail _ (List.Mem.head _))))))))))))))))))))))))
theorem wk_wsX2_cut_1_0 : Cond.methodLink RX1 26 yX1_place ∈ wsX2_cut := lf_wsX2_cut_1 _ (List.Mem.head _)
theorem wk_wsX2_cut_1_1 : Cond.static yX1_place ∈ wsX2_cut := lf_wsX2_cut_1 _ (List.Mem.tail _ (List.Mem.head _))
theorem wk_wsX2_cut_1_2 : Cond.code yX1_place cX1_place 2 (some .int) ∈ wsX2_cut := lf_wsX2_cut_1 _ (List.Mem.tail _ (List.Mem.tail _ (List.Mem.head _)))
theorem wk_wsX2_cut_0_13 : Cond.methodLink RX2 95 yX2_requireLinked ∈ wsX2_cut := lf_wsX2_cut_0 _ (List.Mem.tail _ (List.Mem.tail _ (List.Mem.tail _ (List.Mem.tail _ (List.Mem.tail _ (List.Mem.tail _ (List.Mem.tail _ (List.Mem.tail _ (List.Mem.tail _ (List.Mem.tail _ (List.Mem.tail _ (List.Mem.tail _ (List.Mem.tail _ (List.Mem.head _))))))))))))))
theorem wk_wsX2_cut_0_14 : Cond.instanceMethod yX2_requireLinked ∈ wsX2_cut := lf_wsX2_cut_0 _ (List.Mem.tail _ (List.Mem.tail _ (List.Mem.tail _ (List.Mem.tail _ (List.Mem.tail _ (List.Mem.tail _ (List.Mem.tail _ (List.Mem.tail _ (List.Mem.tail _ (List.Mem.tail _ (List.Mem.tail _ (List.Mem.tail _ (List.Mem.tail _ (List.Mem.tail _ (List.Mem.head _)))))))))))))))
theorem wk_wsX2_cut_0_15 : Cond.selects RX2 yX2_requireLinked yX2_requireLinked ∈ wsX2_cut := lf_wsX2_cut_0 _ (List.Mem.tail _ (List.Mem.tail _ (List.Mem.tail _ (List.Mem.tail _ (List.Mem.tail _ (List.Mem.tail _ (List.Mem.tail _ (List.Mem.tail _ (List.Mem.tail _ (List.Mem.tail _ (List.Mem.tail _ (List.Mem.tail _ (List.Mem.tail _ (List.Mem.tail _ (List.Mem.tail _ (List.Mem.head _))))))))))))))))
theorem wk_wsX2_cut_1_5 : Cond.code yX1_remove cX1_remove 3 none ∈ wsX2_cut := lf_wsX2_cut_1 _ (List.Mem.tail _ (List.Mem.tail _ (List.Mem.tail _ (List.Mem.tail _ (List.Mem.tail _ (List.Mem.head _))))))
theorem wk_wsX2_cut_1_6 : Cond.fieldLink RX1 22 "TimeNet$Wires" "count" "I" ∈ wsX2_cut := lf_wsX2_cut_1 _ (List.Mem.tail _ (List.Mem.tail _ (List.Mem.tail _ (List.Mem.tail _ (List.Mem.tail _ (List.Mem.tail _ (List.Mem.head _)))))))
theorem wk_wsX2_cut_1_10 : Cond.code yX2_forgetParent cX2_forgetParent 3 none ∈ wsX2_cut := lf_wsX2_cut_1 _ (List.Mem.tail _ (List.Mem.tail _ (List.Mem.tail _ (List.Mem.tail _ (List.Mem.tail _ (List.Mem.tail _ (List.Mem.tail _ (List.Mem.tail _ (List.Mem.tail _ (List.Mem.tail _ (List.Mem.head _)))))))))))
theorem wk_wsX2_cut_1_11 : Cond.fieldLink RX2 39 "TimeNet" "known" "LTimeNet$Knowledge;" ∈ wsX2_cut := lf_wsX2_cut_1 _ (List.Mem.tail _ (List.Mem.tail _ (List.Mem.tail _ (List.Mem.tail _ (List.Mem.tail _ (List.Mem.tail _ (List.Mem.tail _ (List.Mem.tail _ (List.Mem.tail _ (List.Mem.tail _ (List.Mem.tail _ (List.Mem.head _))))))))))))
theorem wk_wsX2_cut_1_12 : Cond.methodLink RX2 67 yX2_knowOnlyItself ∈ wsX2_cut := lf_wsX2_cut_1 _ (List.Mem.tail _ (List.Mem.tail _ (List.Mem.tail _ (List.Mem.tail _ (List.Mem.tail _ (List.Mem.tail _ (List.Mem.tail _ (List.Mem.tail _ (List.Mem.tail _ (List.Mem.tail _ (List.Mem.tail _ (List.Mem.tail _ (List.Mem.head _)))))))))))))
theorem wk_wsX2_cut_1_13 : Cond.instanceMethod yX2_knowOnlyItself ∈ wsX2_cut := lf_wsX2_cut_1 _ (List.Mem.tail _ (List.Mem.tail _ (List.Mem.tail _ (List.Mem.tail _ (List.Mem.tail _ (List.Mem.tail _ (List.Mem.tail _ (List.Mem.tail _ (List.Mem.tail _ (List.Mem.tail _ (List.Mem.tail _ (List.Mem.tail _ (List.Mem.tail _ (List.Mem.head _))))))))))))))
theorem wk_wsX2_cut_1_14 : Cond.selects RX2 yX2_knowOnlyItself yX2_knowOnlyItself ∈ wsX2_cut := lf_wsX2_cut_1 _ (List.Mem.tail _ (List.Mem.tail _ (List.Mem.tail _ (List.Mem.tail _ (List.Mem.tail _ (List.Mem.tail _ (List.Mem.tail _ (List.Mem.tail _ (List.Mem.tail _ (List.Mem.tail _ (List.Mem.tail _ (List.Mem.tail _ (List.Mem.tail _ (List.Mem.tail _ (List.Mem.head _)))))))))))))))
theorem wk_wsX2_cut_1_15 : Cond.code yX2_knowOnlyItself cX2_knowOnlyItself 2 none ∈ wsX2_cut := lf_wsX2_cut_1 _ (List.Mem.tail _ (List.Mem.tail _ (List.Mem.tail _ (List.Mem.tail _ (List.Mem.tail _ (List.Mem.tail _ (List.Mem.tail _ (List.Mem.tail _ (List.Mem.tail _ (List.Mem.tail _ (List.Mem.tail _ (List.Mem.tail _ (List.Mem.tail _ (List.Mem.tail _ (List.Mem.tail _ (List.Mem.head _))))))))))))))))
theorem wk_wsX2_cut_1_16 : Cond.methodLink RX2 157 yX2_rankOf ∈ wsX2_cut := lf_wsX2_cut_1 _ (List.Mem.tail _ (List.Mem.tail _ (List.Mem.tail _ (List.Mem.tail _ (List.Mem.tail _ (List.Mem.tail _ (List.Mem.tail _ (List.Mem.tail _ (List.Mem.tail _ (List.Mem.tail _ (List.Mem.tail _ (List.Mem.tail _ (List.Mem.tail _ (List.Mem.tail _ (List.Mem.tail _ (List.Mem.tail _ (List.Mem.head _)))))))))))))))))
theorem wk_wsX2_cut_1_17 : Cond.instanceMethod yX2_rankOf ∈ wsX2_cut := lf_wsX2_cut_1 _ (List.Mem.tail _ (List.Mem.tail _ (List.Mem.tail _ (List.Mem.tail _ (List.Mem.tail _ (List.Mem.tail _ (List.Mem.tail _ (List.Mem.tail _ (List.Mem.tail _ (List.Mem.tail _ (List.Mem.tail _ (List.Mem.tail _ (List.Mem.tail _ (List.Mem.tail _ (List.Mem.tail _ (List.Mem.tail _ (List.Mem.tail _ (List.Mem.head _))))))))))))))))))
theorem wk_wsX2_cut_1_18 : Cond.selects RX2 yX2_rankOf yX2_rankOf ∈ wsX2_cut := lf_wsX2_cut_1 _ (List.Mem.tail _ (List.Mem.tail _ (List.Mem.tail _ (List.Mem.tail _ (List.Mem.tail _ (List.Mem.tail _ (List.Mem.tail _ (List.Mem.tail _ (List.Mem.tail _ (List.Mem.tail _ (List.Mem.tail _ (List.Mem.tail _ (List.Mem.tail _ (List.Mem.tail _ (List.Mem.tail _ (List.Mem.tail _ (List.Mem.tail _ (List.Mem.tail _ (List.Mem.head _)))))))))))))))))))
theorem wk_wsX2_cut_1_19 : Cond.code yX2_rankOf cX2_rankOf 2 (some .int) ∈ wsX2_cut := lf_wsX2_cut_1 _ (List.Mem.tail _ (List.Mem.tail _ (List.Mem.tail _ (List.Mem.tail _ (List.Mem.tail _ (List.Mem.tail _ (List.Mem.tail _ (List.Mem.tail _ (List.Mem.tail _ (List.Mem.tail _ (List.Mem.tail _ (List.Mem.tail _ (List.Mem.tail _ (List.Mem.tail _ (List.Mem.tail _ (List.Mem.tail _ (List.Mem.tail _ (List.Mem.tail _ (List.Mem.tail _ (List.Mem.head _))))))))))))))))))))
theorem wk_wsX2_cut_1_20 : Cond.fieldLink RX2 13 "TimeNet" "gradeOf" "[I" ∈ wsX2_cut := lf_wsX2_cut_1 _ (List.Mem.tail _ (List.Mem.tail _ (List.Mem.tail _ (List.Mem.tail _ (List.Mem.tail _ (List.Mem.tail _ (List.Mem.tail _ (List.Mem.tail _ (List.Mem.tail _ (List.Mem.tail _ (List.Mem.tail _ (List.Mem.tail _ (List.Mem.tail _ (List.Mem.tail _ (List.Mem.tail _ (List.Mem.tail _ (List.Mem.tail _ (List.Mem.tail _ (List.Mem.tail _ (List.Mem.tail _ (List.Mem.head _)))))))))))))))))))))
theorem wk_wsX2_cut_1_21 : Cond.fieldLink RX2 16 "TimeNet" "varianceOf" "[I" ∈ wsX2_cut := lf_wsX2_cut_1 _ (List.Mem.tail _ (List.Mem.tail _ (List.Mem.tail _ (List.Mem.tail _ (List.Mem.tail _ (List.Mem.tail _ (List.Mem.tail _ (List.Mem.tail _ (List.Mem.tail _ (List.Mem.tail _ (List.Mem.tail _ (List.Mem.tail _ (List.Mem.tail _ (List.Mem.tail _ (List.Mem.tail _ (List.Mem.tail _ (List.Mem.tail _ (List.Mem.tail _ (List.Mem.tail _ (List.Mem.tail _ (List.Mem.tail _ (List.Mem.head _))))))))))))))))))))))
theorem wk_wsX2_cut_1_22 : Cond.instanceMethod yX0_start ∈ wsX2_cut := lf_wsX2_cut_1 _ (List.Mem.tail _ (List.Mem.tail _ (List.Mem.tail _ (List.Mem.tail _ (List.Mem.tail _ (List.Mem.tail _ (List.Mem.tail _ (List.Mem.tail _ (List.Mem.tail _ (List.Mem.tail _ (List.Mem.tail _ (List.Mem.tail _ (List.Mem.tail _ (List.Mem.tail _ (List.Mem.tail _ (List.Mem.tail _ (List.Mem.tail _ (List.Mem.tail _ (List.Mem.tail _ (List.Mem.tail _ (List.Mem.tail _ (List.Mem.tail _ (List.Mem.head _)))))))))))))))))))))))
theorem wk_wsX2_cut_1_23 : Cond.initialized RX0 ∈ wsX2_cut := lf_wsX2_cut_1 _ (List.Mem.tail _ (List.Mem.tail _ (List.Mem.tail _ (List.Mem.tail _ (List.Mem.tail _ (List.Mem.tail _ (List.Mem.tail _ (List.Mem.tail _ (List.Mem.tail _ (List.Mem.tail _ (List.Mem.tail _ (List.Mem.tail _ (List.Mem.tail _ (List.Mem.tail _ (List.Mem.tail _ (List.Mem.tail _ (List.Mem.tail _ (List.Mem.tail _ (List.Mem.tail _ (List.Mem.tail _ (List.Mem.tail _ (List.Mem.tail _ (List.Mem.tail _ (List.Mem.head _))))))))))))))))))))))))
theorem wk_wsX2_cut_2_0 : Cond.selects RX0 yX0_start yX0_start ∈ wsX2_cut := lf_wsX2_cut_2 _ (List.Mem.head _)
theorem wk_wsX2_cut_2_1 : Cond.code yX0_start cX0_start 3 none ∈ wsX2_cut := lf_wsX2_cut_2 _ (List.Mem.tail _ (List.Mem.head _))
theorem wk_wsX2_cut_2_2 : Cond.fieldLink RX0 9 "TimeNet$Knowledge" "clockNode" "[I" ∈ wsX2_cut := lf_wsX2_cut_2 _ (List.Mem.tail _ (List.Mem.tail _ (List.Mem.head _)))
theorem wk_wsX2_cut_2_3 : Cond.fieldLink RX0 15 "TimeNet$Knowledge" "clockRank" "[I" ∈ wsX2_cut := lf_wsX2_cut_2 _ (List.Mem.tail _ (List.Mem.tail _ (List.Mem.tail _ (List.Mem.head _))))
theorem wk_wsX2_cut_2_4 : Cond.fieldLink RX0 18 "TimeNet$Knowledge" "stepsAway" "[I" ∈ wsX2_cut := lf_wsX2_cut_2 _ (List.Mem.tail _ (List.Mem.tail _ (List.Mem.tail _ (List.Mem.tail _ (List.Mem.head _)))))
theorem wk_wsX2_cut_2_5 : Cond.fieldLink RX0 21 "TimeNet$Knowledge" "knownFrom" "[I" ∈ wsX2_cut := lf_wsX2_cut_2 _ (List.Mem.tail _ (List.Mem.tail _ (List.Mem.tail _ (List.Mem.tail _ (List.Mem.tail _ (List.Mem.head _))))))
theorem wk_wsX2_cut_1_7 : Cond.methodLink RX2 102 yX2_forgetParent ∈ wsX2_cut := lf_wsX2_cut_1 _ (List.Mem.tail _ (List.Mem.tail _ (List.Mem.tail _ (List.Mem.tail _ (List.Mem.tail _ (List.Mem.tail _ (List.Mem.tail _ (List.Mem.head _))))))))
theorem wk_wsX2_cut_1_8 : Cond.instanceMethod yX2_forgetParent ∈ wsX2_cut := lf_wsX2_cut_1 _ (List.Mem.tail _ (List.Mem.tail _ (List.Mem.tail _ (List.Mem.tail _ (List.Mem.tail _ (List.Mem.tail _ (List.Mem.tail _ (List.Mem.tail _ (List.Mem.head _)))))))))
theorem wk_wsX2_cut_1_9 : Cond.selects RX2 yX2_forgetParent yX2_forgetParent ∈ wsX2_cut := lf_wsX2_cut_1 _ (List.Mem.tail _ (List.Mem.tail _ (List.Mem.tail _ (List.Mem.tail _ (List.Mem.tail _ (List.Mem.tail _ (List.Mem.tail _ (List.Mem.tail _ (List.Mem.tail _ (List.Mem.head _))))))))))
theorem lf_wsX2_tell_0 : ∀ w ∈ wsX2_tell_r1, w ∈ wsX2_tell := fun w h => (List.mem_cons_of_mem _ (List.mem_append_left _ (List.mem_append_left _ (List.mem_append_left _ (List.mem_append_left _ (List.mem_append_left _ (List.mem_append_left _ h)))))))
theorem lf_wsX2_tell_1 : ∀ w ∈ wsX2_tell_r2, w ∈ wsX2_tell := fun w h => (List.mem_cons_of_mem _ (List.mem_append_left _ (List.mem_append_left _ (List.mem_append_left _ (List.mem_append_left _ (List.mem_append_left _ (List.mem_append_right _ h)))))))
theorem lf_wsX2_tell_2 : ∀ w ∈ wsX20, w ∈ wsX2_tell := fun w h => (List.mem_cons_of_mem _ (List.mem_append_left _ (List.mem_append_left _ (List.mem_append_left _ (List.mem_append_left _ (List.mem_append_right _ h))))))
theorem lf_wsX2_tell_3 : ∀ w ∈ wsX10, w ∈ wsX2_tell := fun w h => (List.mem_cons_of_mem _ (List.mem_append_left _ (List.mem_append_left _ (List.mem_append_left _ (List.mem_append_right _ h)))))
theorem wk_wsX2_tell_0_7 : Cond.code yX2_requireNode cX2_requireNode 2 none ∈ wsX2_tell := lf_wsX2_tell_0 _ (List.Mem.tail _ (List.Mem.tail _ (List.Mem.tail _ (List.Mem.tail _ (List.Mem.tail _ (List.Mem.tail _ (List.Mem.tail _ (List.Mem.head _))))))))
theorem wk_wsX2_tell_0_8 : Cond.classLink RX2 148 "java/lang/IndexOutOfBoundsException" ∈ wsX2_tell := lf_wsX2_tell_0 _ (List.Mem.tail _ (List.Mem.tail _ (List.Mem.tail _ (List.Mem.tail _ (List.Mem.tail _ (List.Mem.tail _ (List.Mem.tail _ (List.Mem.tail _ (List.Mem.head _)))))))))
theorem wk_wsX2_tell_0_9 : Cond.initialized "java/lang/IndexOutOfBoundsException" ∈ wsX2_tell := lf_wsX2_tell_0 _ (List.Mem.tail _ (List.Mem.tail _ (List.Mem.tail _ (List.Mem.tail _ (List.Mem.tail _ (List.Mem.tail _ (List.Mem.tail _ (List.Mem.tail _ (List.Mem.tail _ (List.Mem.head _))))))))))
theorem wk_wsX2_tell_0_10 : Cond.methodLink RX2 144 yX2_isNode ∈ wsX2_tell := lf_wsX2_tell_0 _ (List.Mem.tail _ (List.Mem.tail _ (List.Mem.tail _ (List.Mem.tail _ (List.Mem.tail _ (List.Mem.tail _ (List.Mem.tail _ (List.Mem.tail _ (List.Mem.tail _ (List.Mem.tail _ (List.Mem.head _)))))))))))
theorem wk_wsX2_tell_0_11 : Cond.instanceMethod yX2_isNode ∈ wsX2_tell := lf_wsX2_tell_0 _ (List.Mem.tail _ (List.Mem.tail _ (List.Mem.tail _ (List.Mem.tail _ (List.Mem.tail _ (List.Mem.tail _ (List.Mem.tail _ (List.Mem.tail _ (List.Mem.tail _ (List.Mem.tail _ (List.Mem.tail _ (List.Mem.head _))))))))))))
theorem wk_wsX2_tell_0_12 : Cond.selects RX2 yX2_isNode yX2_isNode ∈ wsX2_tell := lf_wsX2_tell_0 _ (List.Mem.tail _ (List.Mem.tail _ (List.Mem.tail _ (List.Mem.tail _ (List.Mem.tail _ (List.Mem.tail _ (List.Mem.tail _ (List.Mem.tail _ (List.Mem.tail _ (List.Mem.tail _ (List.Mem.tail _ (List.Mem.tail _ (List.Mem.head _)))))))))))))
theorem wk_wsX2_tell_0_6 : Cond.initialized RX2 ∈ wsX2_tell := lf_wsX2_tell_0 _ (List.Mem.tail _ (List.Mem.tail _ (List.Mem.tail _ (List.Mem.tail _ (List.Mem.tail _ (List.Mem.tail _ (List.Mem.head _)))))))
theorem wk_wsX2_tell_0_13 : Cond.code yX2_isNode cX2_isNode 2 (some .boolean) ∈ wsX2_tell := lf_wsX2_tell_0 _ (List.Mem.tail _ (List.Mem.tail _ (List.Mem.tail _ (List.Mem.tail _ (List.Mem.tail _ (List.Mem.tail _ (List.Mem.tail _ (List.Mem.tail _ (List.Mem.tail _ (List.Mem.tail _ (List.Mem.tail _ (List.Mem.tail _ (List.Mem.tail _ (List.Mem.head _))))))))))))))
theorem wk_wsX2_tell_0_14 : Cond.fieldLink RX2 49 "TimeNet" "nodeCount" "I" ∈ wsX2_tell := lf_wsX2_tell_0 _ (List.Mem.tail _ (List.Mem.tail _ (List.Mem.tail _ (List.Mem.tail _ (List.Mem.tail _ (List.Mem.tail _ (List.Mem.tail _ (List.Mem.tail _ (List.Mem.tail _ (List.Mem.tail _ (List.Mem.tail _ (List.Mem.tail _ (List.Mem.tail _ (List.Mem.tail _ (List.Mem.head _)))))))))))))))
theorem wk_wsX2_tell_0_3 : Cond.methodLink RX2 71 yX2_requireNode ∈ wsX2_tell := lf_wsX2_tell_0 _ (List.Mem.tail _ (List.Mem.tail _ (List.Mem.tail _ (List.Mem.head _))))
theorem wk_wsX2_tell_0_4 : Cond.instanceMethod yX2_requireNode ∈ wsX2_tell := lf_wsX2_tell_0 _ (List.Mem.tail _ (List.Mem.tail _ (List.Mem.tail _ (List.Mem.tail _ (List.Mem.head _)))))
theorem wk_wsX2_tell_0_5 : Cond.selects RX2 yX2_requireNode yX2_requireNode ∈ wsX2_tell := lf_wsX2_tell_0 _ (List.Mem.tail _ (List.Mem.tail _ (List.Mem.tail _ (List.Mem.tail _ (List.Mem.tail _ (List.Mem.head _))))))
theorem wk_wsX2_tell_0_17 : Cond.code yX2_requireWithin cX2_requireWithin 3 none ∈ wsX2_tell := lf_wsX2_tell_0 _ (List.Mem.tail _ (List.Mem.tail _ (List.Mem.tail _ (List.Mem.tail _ (List.Mem.tail _ (List.Mem.tail _ (List.Mem.tail _ (List.Mem.tail _ (List.Mem.tail _ (List.Mem.tail _ (List.Mem.tail _ (List.Mem.tail _ (List.Mem.tail _ (List.Mem.tail _ (List.Mem.tail _ (List.Mem.tail _ (List.Mem.tail _ (List.Mem.head _))))))))))))))))))
theorem wk_wsX2_tell_0_18 : Cond.classLink RX2 76 "java/lang/IllegalArgumentException" ∈ wsX2_tell := lf_wsX2_tell_0 _ (List.Mem.tail _ (List.Mem.tail _ (List.Mem.tail _ (List.Mem.tail _ (List.Mem.tail _ (List.Mem.tail _ (List.Mem.tail _ (List.Mem.tail _ (List.Mem.tail _ (List.Mem.tail _ (List.Mem.tail _ (List.Mem.tail _ (List.Mem.tail _ (List.Mem.tail _ (List.Mem.tail _ (List.Mem.tail _ (List.Mem.tail _ (List.Mem.tail _ (List.Mem.head _)))))))))))))))))))
theorem wk_wsX2_tell_0_19 : Cond.initialized "java/lang/IllegalArgumentException" ∈ wsX2_tell := lf_wsX2_tell_0 _ (List.Mem.tail _ (List.Mem.tail _ (List.Mem.tail _ (List.Mem.tail _ (List.Mem.tail _ (List.Mem.tail _ (List.Mem.tail _ (List.Mem.tail _ (List.Mem.tail _ (List.Mem.tail _ (List.Mem.tail _ (List.Mem.tail _ (List.Mem.tail _ (List.Mem.tail _ (List.Mem.tail _ (List.Mem.tail _ (List.Mem.tail _ (List.Mem.tail _ (List.Mem.tail _ (List.Mem.head _))))))))))))))))))))
theorem wk_wsX2_tell_0_15 : Cond.methodLink RX2 56 yX2_requireWithin ∈ wsX2_tell := lf_wsX2_tell_0 _ (List.Mem.tail _ (List.Mem.tail _ (List.Mem.tail _ (List.Mem.tail _ (List.Mem.tail _ (List.Mem.tail _ (List.Mem.tail _ (List.Mem.tail _ (List.Mem.tail _ (List.Mem.tail _ (List.Mem.tail _ (List.Mem.tail _ (List.Mem.tail _ (List.Mem.tail _ (List.Mem.tail _ (List.Mem.head _))))))))))))))))
theorem wk_wsX2_tell_0_16 : Cond.static yX2_requireWithin ∈ wsX2_tell := lf_wsX2_tell_0 _ (List.Mem.tail _ (List.Mem.tail _ (List.Mem.tail _ (List.Mem.tail _ (List.Mem.tail _ (List.Mem.tail _ (List.Mem.tail _ (List.Mem.tail _ (List.Mem.tail _ (List.Mem.tail _ (List.Mem.tail _ (List.Mem.tail _ (List.Mem.tail _ (List.Mem.tail _ (List.Mem.tail _ (List.Mem.tail _ (List.Mem.head _)))))))))))))))))
theorem wk_wsX2_tell_0_23 : Cond.code yX2_requireLinked cX2_requireLinked 3 none ∈ wsX2_tell := lf_wsX2_tell_0 _ (List.Mem.tail _ (List.Mem.tail _ (List.Mem.tail _ (List.Mem.tail _ (List.Mem.tail _ (List.Mem.tail _ (List.Mem.tail _ (List.Mem.tail _ (List.Mem.tail _ (List.Mem.tail _ (List.Mem.tail _ (List.Mem.tail _ (List.Mem.tail _ (List.Mem.tail _ (List.Mem.tail _ (List.Mem.tail _ (List.Mem.tail _ (List.Mem.tail _ (List.Mem.tail _ (List.Mem.tail _ (List.Mem.tail _ (List.Mem.tail _ (List.Mem.tail _ (List.Mem.head _))))))))))))))))))))))))
theorem wk_wsX2_tell_1_0 : Cond.classLink RX2 60 "java/lang/IllegalStateException" ∈ wsX2_tell := lf_wsX2_tell_1 _ (List.Mem.head _)
theorem wk_wsX2_tell_1_1 : Cond.initialized "java/lang/IllegalStateException" ∈ wsX2_tell := lf_wsX2_tell_1 _ (List.Mem.tail _ (List.Mem.head _))
theorem wk_wsX2_tell_0_2 : Cond.fieldLink RX2 32 "TimeNet" "wires" "LTimeNet$Wires;" ∈ wsX2_tell := lf_wsX2_tell_0 _ (List.Mem.tail _ (List.Mem.tail _ (List.Mem.head _)))
theorem wk_wsX2_tell_1_2 : Cond.instanceMethod yX1_areLinked ∈ wsX2_tell := lf_wsX2_tell_1 _ (List.Mem.tail _ (List.Mem.tail _ (List.Mem.head _)))
theorem wk_wsX2_tell_1_3 : Cond.initialized RX1 ∈ wsX2_tell := lf_wsX2_tell_1 _ (List.Mem.tail _ (List.Mem.tail _ (List.Mem.tail _ (List.Mem.head _))))
theorem wk_wsX2_tell_1_4 : Cond.selects RX1 yX1_areLinked yX1_areLinked ∈ wsX2_tell := lf_wsX2_tell_1 _ (List.Mem.tail _ (List.Mem.tail _ (List.Mem.tail _ (List.Mem.tail _ (List.Mem.head _)))))
theorem wk_wsX2_tell_1_5 : Cond.code yX1_areLinked cX1_areLinked 3 (some .boolean) ∈ wsX2_tell := lf_wsX2_tell_1 _ (List.Mem.tail _ (List.Mem.tail _ (List.Mem.tail _ (List.Mem.tail _ (List.Mem.tail _ (List.Mem.head _))))))
theorem wk_wsX2_tell_1_6 : Cond.fieldLink RX1 9 "TimeNet$Wires" "laid" "[Z" ∈ wsX2_tell := lf_wsX2_tell_1 _ (List.Mem.tail _ (List.Mem.tail _ (List.Mem.tail _ (List.Mem.tail _ (List.Mem.tail _ (List.Mem.tail _ (List.Mem.head _)))))))
theorem wk_wsX2_tell_1_7 : Cond.methodLink RX1 26 yX1_place ∈ wsX2_tell := lf_wsX2_tell_1 _ (List.Mem.tail _ (List.Mem.tail _ (List.Mem.tail _ (List.Mem.tail _ (List.Mem.tail _ (List.Mem.tail _ (List.Mem.tail _ (List.Mem.head _))))))))
theorem wk_wsX2_tell_1_8 : Cond.static yX1_place ∈ wsX2_tell := lf_wsX2_tell_1 _ (List.Mem.tail _ (List.Mem.tail _ (List.Mem.tail _ (List.Mem.tail _ (List.Mem.tail _ (List.Mem.tail _ (List.Mem.tail _ (List.Mem.tail _ (List.Mem.head _)))))))))
theorem wk_wsX2_tell_1_9 : Cond.code yX1_place cX1_place 2 (some .int) ∈ wsX2_tell := lf_wsX2_tell_1 _ (List.Mem.tail _ (List.Mem.tail _ (List.Mem.tail _ (List.Mem.tail _ (List.Mem.tail _ (List.Mem.tail _ (List.Mem.tail _ (List.Mem.tail _ (List.Mem.tail _ (List.Mem.head _))))))))))
theorem wk_wsX2_tell_0_20 : Cond.methodLink RX2 95 yX2_requireLinked ∈ wsX2_tell := lf_wsX2_tell_0 _ (List.Mem.tail _ (List.Mem.tail _ (List.Mem.tail _ (List.Mem.tail _ (List.Mem.tail _ (List.Mem.tail _ (List.Mem.tail _ (List.Mem.tail _ (List.Mem.tail _ (List.Mem.tail _ (List.Mem.tail _ (List.Mem.tail _ (List.Mem.tail _ (List.Mem.tail _ (List.Mem.tail _ (List.Mem.tail _ (List.Mem.tail _ (List.Mem.tail _ (List.Mem.tail _ (List.Mem.tail _ (List.Mem.head _)))))))))))))))))))))
theorem wk_wsX2_tell_0_21 : Cond.instanceMethod yX2_requireLinked ∈ wsX2_tell := lf_wsX2_tell_0 _ (List.Mem.tail _ (List.Mem.tail _ (List.Mem.tail _ (List.Mem.tail _ (List.Mem.tail _ (List.Mem.tail _ (List.Mem.tail _ (List.Mem.tail _ (List.Mem.tail _ (List.Mem.tail _ (List.Mem.tail _ (List.Mem.tail _ (List.Mem.tail _ (List.Mem.tail _ (List.Mem.tail _ (List.Mem.tail _ (List.Mem.tail _ (List.Mem.tail _ (List.Mem.tail _ (List.Mem.tail _ (List.Mem.tail _ (List.Mem.head _))))))))))))))))))))))
theorem wk_wsX2_tell_0_22 : Cond.selects RX2 yX2_requireLinked yX2_requireLinked ∈ wsX2_tell := lf_wsX2_tell_0 _ (List.Mem.tail _ (List.Mem.tail _ (List.Mem.tail _ (List.Mem.tail _ (List.Mem.tail _ (List.Mem.tail _ (List.Mem.tail _ (List.Mem.tail _ (List.Mem.tail _ (List.Mem.tail _ (List.Mem.tail _ (List.Mem.tail _ (List.Mem.tail _ (List.Mem.tail _ (List.Mem.tail _ (List.Mem.tail _ (List.Mem.tail _ (List.Mem.tail _ (List.Mem.tail _ (List.Mem.tail _ (List.Mem.tail _ (List.Mem.tail _ (List.Mem.head _)))))))))))))))))))))))
theorem wk_wsX2_tell_1_12 : Cond.code yX1_noteDifference cX1_noteDifference 5 (some .int) ∈ wsX2_tell := lf_wsX2_tell_1 _ (List.Mem.tail _ (List.Mem.tail _ (List.Mem.tail _ (List.Mem.tail _ (List.Mem.tail _ (List.Mem.tail _ (List.Mem.tail _ (List.Mem.tail _ (List.Mem.tail _ (List.Mem.tail _ (List.Mem.tail _ (List.Mem.tail _ (List.Mem.head _)))))))))))))
theorem wk_wsX2_tell_1_13 : Cond.fieldLink RX1 19 "TimeNet$Wires" "told" "[I" ∈ wsX2_tell := lf_wsX2_tell_1 _ (List.Mem.tail _ (List.Mem.tail _ (List.Mem.tail _ (List.Mem.tail _ (List.Mem.tail _ (List.Mem.tail _ (List.Mem.tail _ (List.Mem.tail _ (List.Mem.tail _ (List.Mem.tail _ (List.Mem.tail _ (List.Mem.tail _ (List.Mem.tail _ (List.Mem.head _))))))))))))))
theorem lf_wsX2_tick_0 : ∀ w ∈ wsX2_tick_r1, w ∈ wsX2_tick := fun w h => (List.mem_cons_of_mem _ (List.mem_append_left _ (List.mem_append_left _ (List.mem_append_left _ (List.mem_append_left _ (List.mem_append_left _ h))))))
theorem lf_wsX2_tick_1 : ∀ w ∈ wsX2_tick_r2, w ∈ wsX2_tick := fun w h => (List.mem_cons_of_mem _ (List.mem_append_left _ (List.mem_append_left _ (List.mem_append_left _ (List.mem_append_left _ (List.mem_append_right _ (List.mem_append_left _ h)))))))
theorem lf_wsX2_tick_2 : ∀ w ∈ wsX2_tick_r3, w ∈ wsX2_tick := fun w h => (List.mem_cons_of_mem _ (List.mem_append_left _ (List.mem_append_left _ (List.mem_append_left _ (List.mem_append_left _ (List.mem_append_right _ (List.mem_append_right _ (List.mem_append_left _ h))))))))
theorem lf_wsX2_tick_3 : ∀ w ∈ wsX2_tick_r4, w ∈ wsX2_tick := fun w h => (List.mem_cons_of_mem _ (List.mem_append_left _ (List.mem_append_left _ (List.mem_append_left _ (List.mem_append_left _ (List.mem_append_right _ (List.mem_append_right _ (List.mem_append_right _ h))))))))
theorem lf_wsX2_tick_4 : ∀ w ∈ wsX20, w ∈ wsX2_tick := fun w h => (List.mem_cons_of_mem _ (List.mem_append_left _ (List.mem_append_left _ (List.mem_append_left _ (List.mem_append_right _ h)))))
theorem lf_wsX2_tick_5 : ∀ w ∈ wsX00, w ∈ wsX2_tick := fun w h => (List.mem_cons_of_mem _ (List.mem_append_left _ (List.mem_append_left _ (List.mem_append_right _ h))))
theorem lf_wsX2_tick_6 : ∀ w ∈ wsX10, w ∈ wsX2_tick := fun w h => (List.mem_cons_of_mem _ (List.mem_append_left _ (List.mem_append_right _ h)))
theorem wk_wsX2_tick_0_4 : Cond.code yX2_requireWithin cX2_requireWithin 3 none ∈ wsX2_tick := lf_wsX2_tick_0 _ (List.Mem.tail _ (List.Mem.tail _ (List.Mem.tail _ (List.Mem.tail _ (List.Mem.head _)))))
theorem wk_wsX2_tick_0_5 : Cond.classLink RX2 76 "java/lang/IllegalArgumentException" ∈ wsX2_tick := lf_wsX2_tick_0 _ (List.Mem.tail _ (List.Mem.tail _ (List.Mem.tail _ (List.Mem.tail _ (List.Mem.tail _ (List.Mem.head _))))))
theorem wk_wsX2_tick_0_6 : Cond.initialized "java/lang/IllegalArgumentException" ∈ wsX2_tick := lf_wsX2_tick_0 _ (List.Mem.tail _ (List.Mem.tail _ (List.Mem.tail _ (List.Mem.tail _ (List.Mem.tail _ (List.Mem.tail _ (List.Mem.head _)))))))
theorem wk_wsX2_tick_0_1 : Cond.methodLink RX2 56 yX2_requireWithin ∈ wsX2_tick := lf_wsX2_tick_0 _ (List.Mem.tail _ (List.Mem.head _))
theorem wk_wsX2_tick_0_2 : Cond.static yX2_requireWithin ∈ wsX2_tick := lf_wsX2_tick_0 _ (List.Mem.tail _ (List.Mem.tail _ (List.Mem.head _)))
theorem wk_wsX2_tick_0_3 : Cond.initialized RX2 ∈ wsX2_tick := lf_wsX2_tick_0 _ (List.Mem.tail _ (List.Mem.tail _ (List.Mem.tail _ (List.Mem.head _))))
theorem wk_wsX2_tick_0_10 : Cond.code yX2_passOneTick cX2_passOneTick 3 none ∈ wsX2_tick := lf_wsX2_tick_0 _ (List.Mem.tail _ (List.Mem.tail _ (List.Mem.tail _ (List.Mem.tail _ (List.Mem.tail _ (List.Mem.tail _ (List.Mem.tail _ (List.Mem.tail _ (List.Mem.tail _ (List.Mem.tail _ (List.Mem.head _)))))))))))
theorem wk_wsX2_tick_0_11 : Cond.fieldLink RX2 49 "TimeNet" "nodeCount" "I" ∈ wsX2_tick := lf_wsX2_tick_0 _ (List.Mem.tail _ (List.Mem.tail _ (List.Mem.tail _ (List.Mem.tail _ (List.Mem.tail _ (List.Mem.tail _ (List.Mem.tail _ (List.Mem.tail _ (List.Mem.tail _ (List.Mem.tail _ (List.Mem.tail _ (List.Mem.head _))))))))))))
theorem wk_wsX2_tick_0_12 : Cond.fieldLink RX2 22 "TimeNet" "offsetOf" "[J" ∈ wsX2_tick := lf_wsX2_tick_0 _ (List.Mem.tail _ (List.Mem.tail _ (List.Mem.tail _ (List.Mem.tail _ (List.Mem.tail _ (List.Mem.tail _ (List.Mem.tail _ (List.Mem.tail _ (List.Mem.tail _ (List.Mem.tail _ (List.Mem.tail _ (List.Mem.tail _ (List.Mem.head _)))))))))))))
theorem wk_wsX2_tick_0_13 : Cond.fieldLink RX2 19 "TimeNet" "driftOf" "[I" ∈ wsX2_tick := lf_wsX2_tick_0 _ (List.Mem.tail _ (List.Mem.tail _ (List.Mem.tail _ (List.Mem.tail _ (List.Mem.tail _ (List.Mem.tail _ (List.Mem.tail _ (List.Mem.tail _ (List.Mem.tail _ (List.Mem.tail _ (List.Mem.tail _ (List.Mem.tail _ (List.Mem.tail _ (List.Mem.head _))))))))))))))
theorem wk_wsX2_tick_0_14 : Cond.fieldLink RX2 26 "TimeNet" "rateOf" "[J" ∈ wsX2_tick := lf_wsX2_tick_0 _ (List.Mem.tail _ (List.Mem.tail _ (List.Mem.tail _ (List.Mem.tail _ (List.Mem.tail _ (List.Mem.tail _ (List.Mem.tail _ (List.Mem.tail _ (List.Mem.tail _ (List.Mem.tail _ (List.Mem.tail _ (List.Mem.tail _ (List.Mem.tail _ (List.Mem.tail _ (List.Mem.head _)))))))))))))))
theorem wk_wsX2_tick_0_15 : Cond.fieldLink RX2 39 "TimeNet" "known" "LTimeNet$Knowledge;" ∈ wsX2_tick := lf_wsX2_tick_0 _ (List.Mem.tail _ (List.Mem.tail _ (List.Mem.tail _ (List.Mem.tail _ (List.Mem.tail _ (List.Mem.tail _ (List.Mem.tail _ (List.Mem.tail _ (List.Mem.tail _ (List.Mem.tail _ (List.Mem.tail _ (List.Mem.tail _ (List.Mem.tail _ (List.Mem.tail _ (List.Mem.tail _ (List.Mem.head _))))))))))))))))
theorem wk_wsX2_tick_0_16 : Cond.methodLink RX2 180 yX2_announce ∈ wsX2_tick := lf_wsX2_tick_0 _ (List.Mem.tail _ (List.Mem.tail _ (List.Mem.tail _ (List.Mem.tail _ (List.Mem.tail _ (List.Mem.tail _ (List.Mem.tail _ (List.Mem.tail _ (List.Mem.tail _ (List.Mem.tail _ (List.Mem.tail _ (List.Mem.tail _ (List.Mem.tail _ (List.Mem.tail _ (List.Mem.tail _ (List.Mem.tail _ (List.Mem.head _)))))))))))))))))
theorem wk_wsX2_tick_0_17 : Cond.instanceMethod yX2_announce ∈ wsX2_tick := lf_wsX2_tick_0 _ (List.Mem.tail _ (List.Mem.tail _ (List.Mem.tail _ (List.Mem.tail _ (List.Mem.tail _ (List.Mem.tail _ (List.Mem.tail _ (List.Mem.tail _ (List.Mem.tail _ (List.Mem.tail _ (List.Mem.tail _ (List.Mem.tail _ (List.Mem.tail _ (List.Mem.tail _ (List.Mem.tail _ (List.Mem.tail _ (List.Mem.tail _ (List.Mem.head _))))))))))))))))))
theorem wk_wsX2_tick_0_18 : Cond.selects RX2 yX2_announce yX2_announce ∈ wsX2_tick := lf_wsX2_tick_0 _ (List.Mem.tail _ (List.Mem.tail _ (List.Mem.tail _ (List.Mem.tail _ (List.Mem.tail _ (List.Mem.tail _ (List.Mem.tail _ (List.Mem.tail _ (List.Mem.tail _ (List.Mem.tail _ (List.Mem.tail _ (List.Mem.tail _ (List.Mem.tail _ (List.Mem.tail _ (List.Mem.tail _ (List.Mem.tail _ (List.Mem.tail _ (List.Mem.tail _ (List.Mem.head _)))))))))))))))))))
theorem wk_wsX2_tick_0_19 : Cond.code yX2_announce cX2_announce 2 none ∈ wsX2_tick := lf_wsX2_tick_0 _ (List.Mem.tail _ (List.Mem.tail _ (List.Mem.tail _ (List.Mem.tail _ (List.Mem.tail _ (List.Mem.tail _ (List.Mem.tail _ (List.Mem.tail _ (List.Mem.tail _ (List.Mem.tail _ (List.Mem.tail _ (List.Mem.tail _ (List.Mem.tail _ (List.Mem.tail _ (List.Mem.tail _ (List.Mem.tail _ (List.Mem.tail _ (List.Mem.tail _ (List.Mem.tail _ (List.Mem.head _))))))))))))))))))))
theorem wk_wsX2_tick_0_20 : Cond.fieldLink RX2 43 "TimeNet" "heard" "LTimeNet$Knowledge;" ∈ wsX2_tick := lf_wsX2_tick_0 _ (List.Mem.tail _ (List.Mem.tail _ (List.Mem.tail _ (List.Mem.tail _ (List.Mem.tail _ (List.Mem.tail _ (List.Mem.tail _ (List.Mem.tail _ (List.Mem.tail _ (List.Mem.tail _ (List.Mem.tail _ (List.Mem.tail _ (List.Mem.tail _ (List.Mem.tail _ (List.Mem.tail _ (List.Mem.tail _ (List.Mem.tail _ (List.Mem.tail _ (List.Mem.tail _ (List.Mem.tail _ (List.Mem.head _)))))))))))))))))))))
theorem wk_wsX2_tick_0_21 : Cond.instanceMethod yX0_copyFrom ∈ wsX2_tick := lf_wsX2_tick_0 _ (List.Mem.tail _ (List.Mem.tail _ (List.Mem.tail _ (List.Mem.tail _ (List.Mem.tail _ (List.Mem.tail _ (List.Mem.tail _ (List.Mem.tail _ (List.Mem.tail _ (List.Mem.tail _ (List.Mem.tail _ (List.Mem.tail _ (List.Mem.tail _ (List.Mem.tail _ (List.Mem.tail _ (List.Mem.tail _ (List.Mem.tail _ (List.Mem.tail _ (List.Mem.tail _ (List.Mem.tail _ (List.Mem.tail _ (List.Mem.head _))))))))))))))))))))))
theorem wk_wsX2_tick_0_22 : Cond.initialized RX0 ∈ wsX2_tick := lf_wsX2_tick_0 _ (List.Mem.tail _ (List.Mem.tail _ (List.Mem.tail _ (List.Mem.tail _ (List.Mem.tail _ (List.Mem.tail _ (List.Mem.tail _ (List.Mem.tail _ (List.Mem.tail _ (List.Mem.tail _ (List.Mem.tail _ (List.Mem.tail _ (List.Mem.tail _ (List.Mem.tail _ (List.Mem.tail _ (List.Mem.tail _ (List.Mem.tail _ (List.Mem.tail _ (List.Mem.tail _ (List.Mem.tail _ (List.Mem.tail _ (List.Mem.tail _ (List.Mem.head _)))))))))))))))))))))))
theorem wk_wsX2_tick_0_23 : Cond.selects RX0 yX0_copyFrom yX0_copyFrom ∈ wsX2_tick := lf_wsX2_tick_0 _ (List.Mem.tail _ (List.Mem.tail _ (List.Mem.tail _ (List.Mem.tail _ (List.Mem.tail _ (List.Mem.tail _ (List.Mem.tail _ (List.Mem.tail _ (List.Mem.tail _ (List.Mem.tail _ (List.Mem.tail _ (List.Mem.tail _ (List.Mem.tail _ (List.Mem.tail _ (List.Mem.tail _ (List.Mem.tail _ (List.Mem.tail _ (List.Mem.tail _ (List.Mem.tail _ (List.Mem.tail _ (List.Mem.tail _ (List.Mem.tail _ (List.Mem.tail _ (List.Mem.head _))))))))))))))))))))))))
theorem wk_wsX2_tick_1_0 : Cond.code yX0_copyFrom cX0_copyFrom 3 none ∈ wsX2_tick := lf_wsX2_tick_1 _ (List.Mem.head _)
theorem wk_wsX2_tick_1_1 : Cond.fieldLink RX0 9 "TimeNet$Knowledge" "clockNode" "[I" ∈ wsX2_tick := lf_wsX2_tick_1 _ (List.Mem.tail _ (List.Mem.head _))
theorem wk_wsX2_tick_1_2 : Cond.fieldLink RX0 15 "TimeNet$Knowledge" "clockRank" "[I" ∈ wsX2_tick := lf_wsX2_tick_1 _ (List.Mem.tail _ (List.Mem.tail _ (List.Mem.head _)))
theorem wk_wsX2_tick_1_3 : Cond.fieldLink RX0 18 "TimeNet$Knowledge" "stepsAway" "[I" ∈ wsX2_tick := lf_wsX2_tick_1 _ (List.Mem.tail _ (List.Mem.tail _ (List.Mem.tail _ (List.Mem.head _))))
theorem wk_wsX2_tick_1_4 : Cond.fieldLink RX0 21 "TimeNet$Knowledge" "knownFrom" "[I" ∈ wsX2_tick := lf_wsX2_tick_1 _ (List.Mem.tail _ (List.Mem.tail _ (List.Mem.tail _ (List.Mem.tail _ (List.Mem.head _)))))
theorem wk_wsX2_tick_1_5 : Cond.methodLink RX2 167 yX2_listen ∈ wsX2_tick := lf_wsX2_tick_1 _ (List.Mem.tail _ (List.Mem.tail _ (List.Mem.tail _ (List.Mem.tail _ (List.Mem.tail _ (List.Mem.head _))))))
theorem wk_wsX2_tick_1_6 : Cond.instanceMethod yX2_listen ∈ wsX2_tick := lf_wsX2_tick_1 _ (List.Mem.tail _ (List.Mem.tail _ (List.Mem.tail _ (List.Mem.tail _ (List.Mem.tail _ (List.Mem.tail _ (List.Mem.head _)))))))
theorem wk_wsX2_tick_1_7 : Cond.selects RX2 yX2_listen yX2_listen ∈ wsX2_tick := lf_wsX2_tick_1 _ (List.Mem.tail _ (List.Mem.tail _ (List.Mem.tail _ (List.Mem.tail _ (List.Mem.tail _ (List.Mem.tail _ (List.Mem.tail _ (List.Mem.head _))))))))
theorem wk_wsX2_tick_1_8 : Cond.code yX2_listen cX2_listen 3 none ∈ wsX2_tick := lf_wsX2_tick_1 _ (List.Mem.tail _ (List.Mem.tail _ (List.Mem.tail _ (List.Mem.tail _ (List.Mem.tail _ (List.Mem.tail _ (List.Mem.tail _ (List.Mem.tail _ (List.Mem.head _)))))))))
theorem wk_wsX2_tick_1_9 : Cond.methodLink RX2 67 yX2_knowOnlyItself ∈ wsX2_tick := lf_wsX2_tick_1 _ (List.Mem.tail _ (List.Mem.tail _ (List.Mem.tail _ (List.Mem.tail _ (List.Mem.tail _ (List.Mem.tail _ (List.Mem.tail _ (List.Mem.tail _ (List.Mem.tail _ (List.Mem.head _))))))))))
theorem wsX2_passOneTick_r1_of_wsX2_tick : ∀ w ∈ wsX2_passOneTick_r1, w ∈ wsX2_tick := List.forall_mem_cons.mpr ⟨wk_wsX2_tick_0_11, List.forall_mem_cons.mpr ⟨wk_wsX2_tick_0_12, List.forall_mem_cons.mpr ⟨wk_wsX2_tick_0_13, List.forall_mem_cons.mpr ⟨wk_wsX2_tick_0_14, List.forall_mem_cons.mpr ⟨wk_wsX2_tick_0_15, List.forall_mem_cons.mpr ⟨wk_wsX2_tick_0_16, List.forall_mem_cons.mpr ⟨wk_wsX2_tick_0_17, List.forall_mem_cons.mpr ⟨wk_wsX2_tick_0_18, List.forall_mem_cons.mpr ⟨wk_wsX2_tick_0_3, List.forall_mem_cons.mpr ⟨wk_wsX2_tick_0_19, List.forall_mem_cons.mpr ⟨wk_wsX2_tick_0_20, List.forall_mem_cons.mpr ⟨wk_wsX2_tick_0_21, List.forall_mem_cons.mpr ⟨wk_wsX2_tick_0_22, List.forall_mem_cons.mpr ⟨wk_wsX2_tick_0_23, List.forall_mem_cons.mpr ⟨wk_wsX2_tick_1_0, List.forall_mem_cons.mpr ⟨wk_wsX2_tick_1_1, List.forall_mem_cons.mpr ⟨wk_wsX2_tick_1_2, List.forall_mem_cons.mpr ⟨wk_wsX2_tick_1_3, List.forall_mem_cons.mpr ⟨wk_wsX2_tick_1_4, List.forall_mem_cons.mpr ⟨wk_wsX2_tick_1_5, List.forall_mem_cons.mpr ⟨wk_wsX2_tick_1_6, List.forall_mem_cons.mpr ⟨wk_wsX2_tick_1_7, List.forall_mem_cons.mpr ⟨wk_wsX2_tick_1_8, List.forall_mem_cons.mpr ⟨wk_wsX2_tick_1_9, fun _ h => absurd h List.not_mem_nil⟩⟩⟩⟩⟩⟩⟩⟩⟩⟩⟩⟩⟩⟩⟩⟩⟩⟩⟩⟩⟩⟩⟩⟩
theorem wk_wsX2_tick_1_10 : Cond.instanceMethod yX2_knowOnlyItself ∈ wsX2_tick := lf_wsX2_tick_1 _ (List.Mem.tail _ (List.Mem.tail _ (List.Mem.tail _ (List.Mem.tail _ (List.Mem.tail _ (List.Mem.tail _ (List.Mem.tail _ (List.Mem.tail _ (List.Mem.tail _ (List.Mem.tail _ (List.Mem.head _)))))))))))
theorem wk_wsX2_tick_1_11 : Cond.selects RX2 yX2_knowOnlyItself yX2_knowOnlyItself ∈ wsX2_tick := lf_wsX2_tick_1 _ (List.Mem.tail _ (List.Mem.tail _ (List.Mem.tail _ (List.Mem.tail _ (List.Mem.tail _ (List.Mem.tail _ (List.Mem.tail _ (List.Mem.tail _ (List.Mem.tail _ (List.Mem.tail _ (List.Mem.tail _ (List.Mem.head _))))))))))))
theorem wk_wsX2_tick_1_12 : Cond.code yX2_knowOnlyItself cX2_knowOnlyItself 2 none ∈ wsX2_tick := lf_wsX2_tick_1 _ (List.Mem.tail _ (List.Mem.tail _ (List.Mem.tail _ (List.Mem.tail _ (List.Mem.tail _ (List.Mem.tail _ (List.Mem.tail _ (List.Mem.tail _ (List.Mem.tail _ (List.Mem.tail _ (List.Mem.tail _ (List.Mem.tail _ (List.Mem.head _)))))))))))))
theorem wk_wsX2_tick_1_13 : Cond.methodLink RX2 157 yX2_rankOf ∈ wsX2_tick := lf_wsX2_tick_1 _ (List.Mem.tail _ (List.Mem.tail _ (List.Mem.tail _ (List.Mem.tail _ (List.Mem.tail _ (List.Mem.tail _ (List.Mem.tail _ (List.Mem.tail _ (List.Mem.tail _ (List.Mem.tail _ (List.Mem.tail _ (List.Mem.tail _ (List.Mem.tail _ (List.Mem.head _))))))))))))))
theorem wk_wsX2_tick_1_14 : Cond.instanceMethod yX2_rankOf ∈ wsX2_tick := lf_wsX2_tick_1 _ (List.Mem.tail _ (List.Mem.tail _ (List.Mem.tail _ (List.Mem.tail _ (List.Mem.tail _ (List.Mem.tail _ (List.Mem.tail _ (List.Mem.tail _ (List.Mem.tail _ (List.Mem.tail _ (List.Mem.tail _ (List.Mem.tail _ (List.Mem.tail _ (List.Mem.tail _ (List.Mem.head _)))))))))))))))
theorem wk_wsX2_tick_1_15 : Cond.selects RX2 yX2_rankOf yX2_rankOf ∈ wsX2_tick := lf_wsX2_tick_1 _ (List.Mem.tail _ (List.Mem.tail _ (List.Mem.tail _ (List.Mem.tail _ (List.Mem.tail _ (List.Mem.tail _ (List.Mem.tail _ (List.Mem.tail _ (List.Mem.tail _ (List.Mem.tail _ (List.Mem.tail _ (List.Mem.tail _ (List.Mem.tail _ (List.Mem.tail _ (List.Mem.tail _ (List.Mem.head _))))))))))))))))
theorem wk_wsX2_tick_1_16 : Cond.code yX2_rankOf cX2_rankOf 2 (some .int) ∈ wsX2_tick := lf_wsX2_tick_1 _ (List.Mem.tail _ (List.Mem.tail _ (List.Mem.tail _ (List.Mem.tail _ (List.Mem.tail _ (List.Mem.tail _ (List.Mem.tail _ (List.Mem.tail _ (List.Mem.tail _ (List.Mem.tail _ (List.Mem.tail _ (List.Mem.tail _ (List.Mem.tail _ (List.Mem.tail _ (List.Mem.tail _ (List.Mem.tail _ (List.Mem.head _)))))))))))))))))
theorem wk_wsX2_tick_1_17 : Cond.fieldLink RX2 13 "TimeNet" "gradeOf" "[I" ∈ wsX2_tick := lf_wsX2_tick_1 _ (List.Mem.tail _ (List.Mem.tail _ (List.Mem.tail _ (List.Mem.tail _ (List.Mem.tail _ (List.Mem.tail _ (List.Mem.tail _ (List.Mem.tail _ (List.Mem.tail _ (List.Mem.tail _ (List.Mem.tail _ (List.Mem.tail _ (List.Mem.tail _ (List.Mem.tail _ (List.Mem.tail _ (List.Mem.tail _ (List.Mem.tail _ (List.Mem.head _))))))))))))))))))
theorem wk_wsX2_tick_1_18 : Cond.fieldLink RX2 16 "TimeNet" "varianceOf" "[I" ∈ wsX2_tick := lf_wsX2_tick_1 _ (List.Mem.tail _ (List.Mem.tail _ (List.Mem.tail _ (List.Mem.tail _ (List.Mem.tail _ (List.Mem.tail _ (List.Mem.tail _ (List.Mem.tail _ (List.Mem.tail _ (List.Mem.tail _ (List.Mem.tail _ (List.Mem.tail _ (List.Mem.tail _ (List.Mem.tail _ (List.Mem.tail _ (List.Mem.tail _ (List.Mem.tail _ (List.Mem.tail _ (List.Mem.head _)))))))))))))))))))
theorem wk_wsX2_tick_1_19 : Cond.instanceMethod yX0_start ∈ wsX2_tick := lf_wsX2_tick_1 _ (List.Mem.tail _ (List.Mem.tail _ (List.Mem.tail _ (List.Mem.tail _ (List.Mem.tail _ (List.Mem.tail _ (List.Mem.tail _ (List.Mem.tail _ (List.Mem.tail _ (List.Mem.tail _ (List.Mem.tail _ (List.Mem.tail _ (List.Mem.tail _ (List.Mem.tail _ (List.Mem.tail _ (List.Mem.tail _ (List.Mem.tail _ (List.Mem.tail _ (List.Mem.tail _ (List.Mem.head _))))))))))))))))))))
theorem wk_wsX2_tick_1_20 : Cond.selects RX0 yX0_start yX0_start ∈ wsX2_tick := lf_wsX2_tick_1 _ (List.Mem.tail _ (List.Mem.tail _ (List.Mem.tail _ (List.Mem.tail _ (List.Mem.tail _ (List.Mem.tail _ (List.Mem.tail _ (List.Mem.tail _ (List.Mem.tail _ (List.Mem.tail _ (List.Mem.tail _ (List.Mem.tail _ (List.Mem.tail _ (List.Mem.tail _ (List.Mem.tail _ (List.Mem.tail _ (List.Mem.tail _ (List.Mem.tail _ (List.Mem.tail _ (List.Mem.tail _ (List.Mem.head _)))))))))))))))))))))
theorem wk_wsX2_tick_1_21 : Cond.code yX0_start cX0_start 3 none ∈ wsX2_tick := lf_wsX2_tick_1 _ (List.Mem.tail _ (List.Mem.tail _ (List.Mem.tail _ (List.Mem.tail _ (List.Mem.tail _ (List.Mem.tail _ (List.Mem.tail _ (List.Mem.tail _ (List.Mem.tail _ (List.Mem.tail _ (List.Mem.tail _ (List.Mem.tail _ (List.Mem.tail _ (List.Mem.tail _ (List.Mem.tail _ (List.Mem.tail _ (List.Mem.tail _ (List.Mem.tail _ (List.Mem.tail _ (List.Mem.tail _ (List.Mem.tail _ (List.Mem.head _))))))))))))))))))))))
theorem wk_wsX2_tick_1_22 : Cond.methodLink RX2 122 yX2_areNeighbours ∈ wsX2_tick := lf_wsX2_tick_1 _ (List.Mem.tail _ (List.Mem.tail _ (List.Mem.tail _ (List.Mem.tail _ (List.Mem.tail _ (List.Mem.tail _ (List.Mem.tail _ (List.Mem.tail _ (List.Mem.tail _ (List.Mem.tail _ (List.Mem.tail _ (List.Mem.tail _ (List.Mem.tail _ (List.Mem.tail _ (List.Mem.tail _ (List.Mem.tail _ (List.Mem.tail _ (List.Mem.tail _ (List.Mem.tail _ (List.Mem.tail _ (List.Mem.tail _ (List.Mem.tail _ (List.Mem.head _)))))))))))))))))))))))
theorem wk_wsX2_tick_1_23 : Cond.instanceMethod yX2_areNeighbours ∈ wsX2_tick := lf_wsX2_tick_1 _ (List.Mem.tail _ (List.Mem.tail _ (List.Mem.tail _ (List.Mem.tail _ (List.Mem.tail _ (List.Mem.tail _ (List.Mem.tail _ (List.Mem.tail _ (List.Mem.tail _ (List.Mem.tail _ (List.Mem.tail _ (List.Mem.tail _ (List.Mem.tail _ (List.Mem.tail _ (List.Mem.tail _ (List.Mem.tail _ (List.Mem.tail _ (List.Mem.tail _ (List.Mem.tail _ (List.Mem.tail _ (List.Mem.tail _ (List.Mem.tail _ (List.Mem.tail _ (List.Mem.head _))))))))))))))))))))))))
theorem wk_wsX2_tick_2_0 : Cond.selects RX2 yX2_areNeighbours yX2_areNeighbours ∈ wsX2_tick := lf_wsX2_tick_2 _ (List.Mem.head _)
theorem wk_wsX2_tick_2_1 : Cond.code yX2_areNeighbours cX2_areNeighbours 3 (some .boolean) ∈ wsX2_tick := lf_wsX2_tick_2 _ (List.Mem.tail _ (List.Mem.head _))
theorem wk_wsX2_tick_2_2 : Cond.fieldLink RX2 9 "TimeNet" "domainOf" "[I" ∈ wsX2_tick := lf_wsX2_tick_2 _ (List.Mem.tail _ (List.Mem.tail _ (List.Mem.head _)))
theorem wk_wsX2_tick_2_3 : Cond.fieldLink RX2 32 "TimeNet" "wires" "LTimeNet$Wires;" ∈ wsX2_tick := lf_wsX2_tick_2 _ (List.Mem.tail _ (List.Mem.tail _ (List.Mem.tail _ (List.Mem.head _))))
theorem wk_wsX2_tick_2_4 : Cond.instanceMethod yX1_areLinked ∈ wsX2_tick := lf_wsX2_tick_2 _ (List.Mem.tail _ (List.Mem.tail _ (List.Mem.tail _ (List.Mem.tail _ (List.Mem.head _)))))
theorem wk_wsX2_tick_2_5 : Cond.initialized RX1 ∈ wsX2_tick := lf_wsX2_tick_2 _ (List.Mem.tail _ (List.Mem.tail _ (List.Mem.tail _ (List.Mem.tail _ (List.Mem.tail _ (List.Mem.head _))))))
theorem wk_wsX2_tick_2_6 : Cond.selects RX1 yX1_areLinked yX1_areLinked ∈ wsX2_tick := lf_wsX2_tick_2 _ (List.Mem.tail _ (List.Mem.tail _ (List.Mem.tail _ (List.Mem.tail _ (List.Mem.tail _ (List.Mem.tail _ (List.Mem.head _)))))))
theorem wk_wsX2_tick_2_7 : Cond.code yX1_areLinked cX1_areLinked 3 (some .boolean) ∈ wsX2_tick := lf_wsX2_tick_2 _ (List.Mem.tail _ (List.Mem.tail _ (List.Mem.tail _ (List.Mem.tail _ (List.Mem.tail _ (List.Mem.tail _ (List.Mem.tail _ (List.Mem.head _))))))))
theorem wk_wsX2_tick_2_8 : Cond.fieldLink RX1 9 "TimeNet$Wires" "laid" "[Z" ∈ wsX2_tick := lf_wsX2_tick_2 _ (List.Mem.tail _ (List.Mem.tail _ (List.Mem.tail _ (List.Mem.tail _ (List.Mem.tail _ (List.Mem.tail _ (List.Mem.tail _ (List.Mem.tail _ (List.Mem.head _)))))))))
theorem wk_wsX2_tick_2_9 : Cond.methodLink RX1 26 yX1_place ∈ wsX2_tick := lf_wsX2_tick_2 _ (List.Mem.tail _ (List.Mem.tail _ (List.Mem.tail _ (List.Mem.tail _ (List.Mem.tail _ (List.Mem.tail _ (List.Mem.tail _ (List.Mem.tail _ (List.Mem.tail _ (List.Mem.head _))))))))))
theorem wsX2_passOneTick_r2_of_wsX2_tick : ∀ w ∈ wsX2_passOneTick_r2, w ∈ wsX2_tick := List.forall_mem_cons.mpr ⟨wk_wsX2_tick_1_10, List.forall_mem_cons.mpr ⟨wk_wsX2_tick_1_11, List.forall_mem_cons.mpr ⟨wk_wsX2_tick_1_12, List.forall_mem_cons.mpr ⟨wk_wsX2_tick_1_13, List.forall_mem_cons.mpr ⟨wk_wsX2_tick_1_14, List.forall_mem_cons.mpr ⟨wk_wsX2_tick_1_15, List.forall_mem_cons.mpr ⟨wk_wsX2_tick_1_16, List.forall_mem_cons.mpr ⟨wk_wsX2_tick_1_17, List.forall_mem_cons.mpr ⟨wk_wsX2_tick_1_18, List.forall_mem_cons.mpr ⟨wk_wsX2_tick_1_19, List.forall_mem_cons.mpr ⟨wk_wsX2_tick_1_20, List.forall_mem_cons.mpr ⟨wk_wsX2_tick_1_21, List.forall_mem_cons.mpr ⟨wk_wsX2_tick_1_22, List.forall_mem_cons.mpr ⟨wk_wsX2_tick_1_23, List.forall_mem_cons.mpr ⟨wk_wsX2_tick_2_0, List.forall_mem_cons.mpr ⟨wk_wsX2_tick_2_1, List.forall_mem_cons.mpr ⟨wk_wsX2_tick_2_2, List.forall_mem_cons.mpr ⟨wk_wsX2_tick_2_3, List.forall_mem_cons.mpr ⟨wk_wsX2_tick_2_4, List.forall_mem_cons.mpr ⟨wk_wsX2_tick_2_5, List.forall_mem_cons.mpr ⟨wk_wsX2_tick_2_6, List.forall_mem_cons.mpr ⟨wk_wsX2_tick_2_7, List.forall_mem_cons.mpr ⟨wk_wsX2_tick_2_8, List.forall_mem_cons.mpr ⟨wk_wsX2_tick_2_9, fun _ h => absurd h List.not_mem_nil⟩⟩⟩⟩⟩⟩⟩⟩⟩⟩⟩⟩⟩⟩⟩⟩⟩⟩⟩⟩⟩⟩⟩⟩
theorem wk_wsX2_tick_2_10 : Cond.static yX1_place ∈ wsX2_tick := lf_wsX2_tick_2 _ (List.Mem.tail _ (List.Mem.tail _ (List.Mem.tail _ (List.Mem.tail _ (List.Mem.tail _ (List.Mem.tail _ (List.Mem.tail _ (List.Mem.tail _ (List.Mem.tail _ (List.Mem.tail _ (List.Mem.head _)))))))))))
theorem wk_wsX2_tick_2_11 : Cond.code yX1_place cX1_place 2 (some .int) ∈ wsX2_tick := lf_wsX2_tick_2 _ (List.Mem.tail _ (List.Mem.tail _ (List.Mem.tail _ (List.Mem.tail _ (List.Mem.tail _ (List.Mem.tail _ (List.Mem.tail _ (List.Mem.tail _ (List.Mem.tail _ (List.Mem.tail _ (List.Mem.tail _ (List.Mem.head _))))))))))))
theorem wk_wsX2_tick_2_12 : Cond.instanceMethod yX0_reaches ∈ wsX2_tick := lf_wsX2_tick_2 _ (List.Mem.tail _ (List.Mem.tail _ (List.Mem.tail _ (List.Mem.tail _ (List.Mem.tail _ (List.Mem.tail _ (List.Mem.tail _ (List.Mem.tail _ (List.Mem.tail _ (List.Mem.tail _ (List.Mem.tail _ (List.Mem.tail _ (List.Mem.head _)))))))))))))
theorem wk_wsX2_tick_2_13 : Cond.selects RX0 yX0_reaches yX0_reaches ∈ wsX2_tick := lf_wsX2_tick_2 _ (List.Mem.tail _ (List.Mem.tail _ (List.Mem.tail _ (List.Mem.tail _ (List.Mem.tail _ (List.Mem.tail _ (List.Mem.tail _ (List.Mem.tail _ (List.Mem.tail _ (List.Mem.tail _ (List.Mem.tail _ (List.Mem.tail _ (List.Mem.tail _ (List.Mem.head _))))))))))))))
theorem wk_wsX2_tick_2_14 : Cond.code yX0_reaches cX0_reaches 3 (some .boolean) ∈ wsX2_tick := lf_wsX2_tick_2 _ (List.Mem.tail _ (List.Mem.tail _ (List.Mem.tail _ (List.Mem.tail _ (List.Mem.tail _ (List.Mem.tail _ (List.Mem.tail _ (List.Mem.tail _ (List.Mem.tail _ (List.Mem.tail _ (List.Mem.tail _ (List.Mem.tail _ (List.Mem.tail _ (List.Mem.tail _ (List.Mem.head _)))))))))))))))
theorem wk_wsX2_tick_2_15 : Cond.instanceMethod yX0_takeIfBetter ∈ wsX2_tick := lf_wsX2_tick_2 _ (List.Mem.tail _ (List.Mem.tail _ (List.Mem.tail _ (List.Mem.tail _ (List.Mem.tail _ (List.Mem.tail _ (List.Mem.tail _ (List.Mem.tail _ (List.Mem.tail _ (List.Mem.tail _ (List.Mem.tail _ (List.Mem.tail _ (List.Mem.tail _ (List.Mem.tail _ (List.Mem.tail _ (List.Mem.head _))))))))))))))))
theorem wk_wsX2_tick_2_16 : Cond.selects RX0 yX0_takeIfBetter yX0_takeIfBetter ∈ wsX2_tick := lf_wsX2_tick_2 _ (List.Mem.tail _ (List.Mem.tail _ (List.Mem.tail _ (List.Mem.tail _ (List.Mem.tail _ (List.Mem.tail _ (List.Mem.tail _ (List.Mem.tail _ (List.Mem.tail _ (List.Mem.tail _ (List.Mem.tail _ (List.Mem.tail _ (List.Mem.tail _ (List.Mem.tail _ (List.Mem.tail _ (List.Mem.tail _ (List.Mem.head _)))))))))))))))))
theorem wk_wsX2_tick_2_17 : Cond.code yX0_takeIfBetter cX0_takeIfBetter 6 none ∈ wsX2_tick := lf_wsX2_tick_2 _ (List.Mem.tail _ (List.Mem.tail _ (List.Mem.tail _ (List.Mem.tail _ (List.Mem.tail _ (List.Mem.tail _ (List.Mem.tail _ (List.Mem.tail _ (List.Mem.tail _ (List.Mem.tail _ (List.Mem.tail _ (List.Mem.tail _ (List.Mem.tail _ (List.Mem.tail _ (List.Mem.tail _ (List.Mem.tail _ (List.Mem.tail _ (List.Mem.head _))))))))))))))))))
theorem wk_wsX2_tick_2_18 : Cond.methodLink RX2 183 yX2_steer ∈ wsX2_tick := lf_wsX2_tick_2 _ (List.Mem.tail _ (List.Mem.tail _ (List.Mem.tail _ (List.Mem.tail _ (List.Mem.tail _ (List.Mem.tail _ (List.Mem.tail _ (List.Mem.tail _ (List.Mem.tail _ (List.Mem.tail _ (List.Mem.tail _ (List.Mem.tail _ (List.Mem.tail _ (List.Mem.tail _ (List.Mem.tail _ (List.Mem.tail _ (List.Mem.tail _ (List.Mem.tail _ (List.Mem.head _)))))))))))))))))))
theorem wk_wsX2_tick_2_19 : Cond.instanceMethod yX2_steer ∈ wsX2_tick := lf_wsX2_tick_2 _ (List.Mem.tail _ (List.Mem.tail _ (List.Mem.tail _ (List.Mem.tail _ (List.Mem.tail _ (List.Mem.tail _ (List.Mem.tail _ (List.Mem.tail _ (List.Mem.tail _ (List.Mem.tail _ (List.Mem.tail _ (List.Mem.tail _ (List.Mem.tail _ (List.Mem.tail _ (List.Mem.tail _ (List.Mem.tail _ (List.Mem.tail _ (List.Mem.tail _ (List.Mem.tail _ (List.Mem.head _))))))))))))))))))))
theorem wk_wsX2_tick_2_20 : Cond.selects RX2 yX2_steer yX2_steer ∈ wsX2_tick := lf_wsX2_tick_2 _ (List.Mem.tail _ (List.Mem.tail _ (List.Mem.tail _ (List.Mem.tail _ (List.Mem.tail _ (List.Mem.tail _ (List.Mem.tail _ (List.Mem.tail _ (List.Mem.tail _ (List.Mem.tail _ (List.Mem.tail _ (List.Mem.tail _ (List.Mem.tail _ (List.Mem.tail _ (List.Mem.tail _ (List.Mem.tail _ (List.Mem.tail _ (List.Mem.tail _ (List.Mem.tail _ (List.Mem.tail _ (List.Mem.head _)))))))))))))))))))))
theorem wk_wsX2_tick_2_21 : Cond.code yX2_steer cX2_steer 5 none ∈ wsX2_tick := lf_wsX2_tick_2 _ (List.Mem.tail _ (List.Mem.tail _ (List.Mem.tail _ (List.Mem.tail _ (List.Mem.tail _ (List.Mem.tail _ (List.Mem.tail _ (List.Mem.tail _ (List.Mem.tail _ (List.Mem.tail _ (List.Mem.tail _ (List.Mem.tail _ (List.Mem.tail _ (List.Mem.tail _ (List.Mem.tail _ (List.Mem.tail _ (List.Mem.tail _ (List.Mem.tail _ (List.Mem.tail _ (List.Mem.tail _ (List.Mem.tail _ (List.Mem.head _))))))))))))))))))))))
theorem wk_wsX2_tick_2_22 : Cond.constantLong RX2 190 (2) ∈ wsX2_tick := lf_wsX2_tick_2 _ (List.Mem.tail _ (List.Mem.tail _ (List.Mem.tail _ (List.Mem.tail _ (List.Mem.tail _ (List.Mem.tail _ (List.Mem.tail _ (List.Mem.tail _ (List.Mem.tail _ (List.Mem.tail _ (List.Mem.tail _ (List.Mem.tail _ (List.Mem.tail _ (List.Mem.tail _ (List.Mem.tail _ (List.Mem.tail _ (List.Mem.tail _ (List.Mem.tail _ (List.Mem.tail _ (List.Mem.tail _ (List.Mem.tail _ (List.Mem.tail _ (List.Mem.head _)))))))))))))))))))))))
theorem wk_wsX2_tick_2_23 : Cond.constantLong RX2 192 (16) ∈ wsX2_tick := lf_wsX2_tick_2 _ (List.Mem.tail _ (List.Mem.tail _ (List.Mem.tail _ (List.Mem.tail _ (List.Mem.tail _ (List.Mem.tail _ (List.Mem.tail _ (List.Mem.tail _ (List.Mem.tail _ (List.Mem.tail _ (List.Mem.tail _ (List.Mem.tail _ (List.Mem.tail _ (List.Mem.tail _ (List.Mem.tail _ (List.Mem.tail _ (List.Mem.tail _ (List.Mem.tail _ (List.Mem.tail _ (List.Mem.tail _ (List.Mem.tail _ (List.Mem.tail _ (List.Mem.tail _ (List.Mem.head _))))))))))))))))))))))))
theorem wk_wsX2_tick_3_0 : Cond.methodLink RX2 144 yX2_isNode ∈ wsX2_tick := lf_wsX2_tick_3 _ (List.Mem.head _)
theorem wk_wsX2_tick_3_1 : Cond.instanceMethod yX2_isNode ∈ wsX2_tick := lf_wsX2_tick_3 _ (List.Mem.tail _ (List.Mem.head _))
theorem wk_wsX2_tick_3_2 : Cond.selects RX2 yX2_isNode yX2_isNode ∈ wsX2_tick := lf_wsX2_tick_3 _ (List.Mem.tail _ (List.Mem.tail _ (List.Mem.head _)))
theorem wk_wsX2_tick_3_3 : Cond.code yX2_isNode cX2_isNode 2 (some .boolean) ∈ wsX2_tick := lf_wsX2_tick_3 _ (List.Mem.tail _ (List.Mem.tail _ (List.Mem.tail _ (List.Mem.head _))))
theorem wk_wsX2_tick_3_4 : Cond.instanceMethod yX1_errorFrom ∈ wsX2_tick := lf_wsX2_tick_3 _ (List.Mem.tail _ (List.Mem.tail _ (List.Mem.tail _ (List.Mem.tail _ (List.Mem.head _)))))
theorem wk_wsX2_tick_3_5 : Cond.selects RX1 yX1_errorFrom yX1_errorFrom ∈ wsX2_tick := lf_wsX2_tick_3 _ (List.Mem.tail _ (List.Mem.tail _ (List.Mem.tail _ (List.Mem.tail _ (List.Mem.tail _ (List.Mem.head _))))))
theorem wk_wsX2_tick_3_6 : Cond.code yX1_errorFrom cX1_errorFrom 5 (some .int) ∈ wsX2_tick := lf_wsX2_tick_3 _ (List.Mem.tail _ (List.Mem.tail _ (List.Mem.tail _ (List.Mem.tail _ (List.Mem.tail _ (List.Mem.tail _ (List.Mem.head _)))))))
theorem wk_wsX2_tick_3_7 : Cond.fieldLink RX1 15 "TimeNet$Wires" "delay" "[I" ∈ wsX2_tick := lf_wsX2_tick_3 _ (List.Mem.tail _ (List.Mem.tail _ (List.Mem.tail _ (List.Mem.tail _ (List.Mem.tail _ (List.Mem.tail _ (List.Mem.tail _ (List.Mem.head _))))))))
theorem wk_wsX2_tick_3_8 : Cond.fieldLink RX1 19 "TimeNet$Wires" "told" "[I" ∈ wsX2_tick := lf_wsX2_tick_3 _ (List.Mem.tail _ (List.Mem.tail _ (List.Mem.tail _ (List.Mem.tail _ (List.Mem.tail _ (List.Mem.tail _ (List.Mem.tail _ (List.Mem.tail _ (List.Mem.head _)))))))))
theorem wsX2_passOneTick_r3_of_wsX2_tick : ∀ w ∈ wsX2_passOneTick_r3, w ∈ wsX2_tick := List.forall_mem_cons.mpr ⟨wk_wsX2_tick_2_10, List.forall_mem_cons.mpr ⟨wk_wsX2_tick_2_11, List.forall_mem_cons.mpr ⟨wk_wsX2_tick_2_12, List.forall_mem_cons.mpr ⟨wk_wsX2_tick_2_13, List.forall_mem_cons.mpr ⟨wk_wsX2_tick_2_14, List.forall_mem_cons.mpr ⟨wk_wsX2_tick_2_15, List.forall_mem_cons.mpr ⟨wk_wsX2_tick_2_16, List.forall_mem_cons.mpr ⟨wk_wsX2_tick_2_17, List.forall_mem_cons.mpr ⟨wk_wsX2_tick_2_18, List.forall_mem_cons.mpr ⟨wk_wsX2_tick_2_19, List.forall_mem_cons.mpr ⟨wk_wsX2_tick_2_20, List.forall_mem_cons.mpr ⟨wk_wsX2_tick_2_21, List.forall_mem_cons.mpr ⟨wk_wsX2_tick_2_22, List.forall_mem_cons.mpr ⟨wk_wsX2_tick_2_23, List.forall_mem_cons.mpr ⟨wk_wsX2_tick_3_0, List.forall_mem_cons.mpr ⟨wk_wsX2_tick_3_1, List.forall_mem_cons.mpr ⟨wk_wsX2_tick_3_2, List.forall_mem_cons.mpr ⟨wk_wsX2_tick_3_3, List.forall_mem_cons.mpr ⟨wk_wsX2_tick_3_4, List.forall_mem_cons.mpr ⟨wk_wsX2_tick_3_5, List.forall_mem_cons.mpr ⟨wk_wsX2_tick_3_6, List.forall_mem_cons.mpr ⟨wk_wsX2_tick_3_7, List.forall_mem_cons.mpr ⟨wk_wsX2_tick_3_8, fun _ h => absurd h List.not_mem_nil⟩⟩⟩⟩⟩⟩⟩⟩⟩⟩⟩⟩⟩⟩⟩⟩⟩⟩⟩⟩⟩⟩⟩
theorem wk_wsX2_tick_0_7 : Cond.methodLink RX2 110 yX2_passOneTick ∈ wsX2_tick := lf_wsX2_tick_0 _ (List.Mem.tail _ (List.Mem.tail _ (List.Mem.tail _ (List.Mem.tail _ (List.Mem.tail _ (List.Mem.tail _ (List.Mem.tail _ (List.Mem.head _))))))))
theorem wk_wsX2_tick_0_8 : Cond.instanceMethod yX2_passOneTick ∈ wsX2_tick := lf_wsX2_tick_0 _ (List.Mem.tail _ (List.Mem.tail _ (List.Mem.tail _ (List.Mem.tail _ (List.Mem.tail _ (List.Mem.tail _ (List.Mem.tail _ (List.Mem.tail _ (List.Mem.head _)))))))))
theorem wk_wsX2_tick_0_9 : Cond.selects RX2 yX2_passOneTick yX2_passOneTick ∈ wsX2_tick := lf_wsX2_tick_0 _ (List.Mem.tail _ (List.Mem.tail _ (List.Mem.tail _ (List.Mem.tail _ (List.Mem.tail _ (List.Mem.tail _ (List.Mem.tail _ (List.Mem.tail _ (List.Mem.tail _ (List.Mem.head _))))))))))
theorem lf_wsX2_best_0 : ∀ w ∈ ([.fieldLink RX2 39 "TimeNet" "known" "LTimeNet$Knowledge;", .methodLink RX2 71 yX2_requireNode, .instanceMethod yX2_requireNode, .selects RX2 yX2_requireNode yX2_requireNode, .initialized RX2, .code yX2_requireNode cX2_requireNode 2 none, .classLink RX2 148 "java/lang/IndexOutOfBoundsException", .initialized "java/lang/IndexOutOfBoundsException", .methodLink RX2 144 yX2_isNode, .instanceMethod yX2_isNode, .selects RX2 yX2_isNode yX2_isNode, .code yX2_isNode cX2_isNode 2 (some .boolean), .fieldLink RX2 49 "TimeNet" "nodeCount" "I"] : List Cond), w ∈ wsX2_best := fun w h => (List.mem_cons_of_mem _ (List.mem_append_left _ (List.mem_append_left _ (List.mem_append_left _ h))))
theorem lf_wsX2_best_1 : ∀ w ∈ wsX20, w ∈ wsX2_best := fun w h => (List.mem_cons_of_mem _ (List.mem_append_left _ (List.mem_append_left _ (List.mem_append_right _ h))))
theorem lf_wsX2_best_2 : ∀ w ∈ wsX00, w ∈ wsX2_best := fun w h => (List.mem_cons_of_mem _ (List.mem_append_left _ (List.mem_append_right _ h)))
theorem wk_wsX2_best_0_5 : Cond.code yX2_requireNode cX2_requireNode 2 none ∈ wsX2_best := lf_wsX2_best_0 _ (List.Mem.tail _ (List.Mem.tail _ (List.Mem.tail _ (List.Mem.tail _ (List.Mem.tail _ (List.Mem.head _))))))
theorem wk_wsX2_best_0_6 : Cond.classLink RX2 148 "java/lang/IndexOutOfBoundsException" ∈ wsX2_best := lf_wsX2_best_0 _ (List.Mem.tail _ (List.Mem.tail _ (List.Mem.tail _ (List.Mem.tail _ (List.Mem.tail _ (List.Mem.tail _ (List.Mem.head _)))))))
theorem wk_wsX2_best_0_7 : Cond.initialized "java/lang/IndexOutOfBoundsException" ∈ wsX2_best := lf_wsX2_best_0 _ (List.Mem.tail _ (List.Mem.tail _ (List.Mem.tail _ (List.Mem.tail _ (List.Mem.tail _ (List.Mem.tail _ (List.Mem.tail _ (List.Mem.head _))))))))
theorem wk_wsX2_best_0_8 : Cond.methodLink RX2 144 yX2_isNode ∈ wsX2_best := lf_wsX2_best_0 _ (List.Mem.tail _ (List.Mem.tail _ (List.Mem.tail _ (List.Mem.tail _ (List.Mem.tail _ (List.Mem.tail _ (List.Mem.tail _ (List.Mem.tail _ (List.Mem.head _)))))))))
theorem wk_wsX2_best_0_9 : Cond.instanceMethod yX2_isNode ∈ wsX2_best := lf_wsX2_best_0 _ (List.Mem.tail _ (List.Mem.tail _ (List.Mem.tail _ (List.Mem.tail _ (List.Mem.tail _ (List.Mem.tail _ (List.Mem.tail _ (List.Mem.tail _ (List.Mem.tail _ (List.Mem.head _))))))))))
theorem wk_wsX2_best_0_10 : Cond.selects RX2 yX2_isNode yX2_isNode ∈ wsX2_best := lf_wsX2_best_0 _ (List.Mem.tail _ (List.Mem.tail _ (List.Mem.tail _ (List.Mem.tail _ (List.Mem.tail _ (List.Mem.tail _ (List.Mem.tail _ (List.Mem.tail _ (List.Mem.tail _ (List.Mem.tail _ (List.Mem.head _)))))))))))
theorem wk_wsX2_best_0_4 : Cond.initialized RX2 ∈ wsX2_best := lf_wsX2_best_0 _ (List.Mem.tail _ (List.Mem.tail _ (List.Mem.tail _ (List.Mem.tail _ (List.Mem.head _)))))
theorem wk_wsX2_best_0_11 : Cond.code yX2_isNode cX2_isNode 2 (some .boolean) ∈ wsX2_best := lf_wsX2_best_0 _ (List.Mem.tail _ (List.Mem.tail _ (List.Mem.tail _ (List.Mem.tail _ (List.Mem.tail _ (List.Mem.tail _ (List.Mem.tail _ (List.Mem.tail _ (List.Mem.tail _ (List.Mem.tail _ (List.Mem.tail _ (List.Mem.head _))))))))))))
theorem wk_wsX2_best_0_12 : Cond.fieldLink RX2 49 "TimeNet" "nodeCount" "I" ∈ wsX2_best := lf_wsX2_best_0 _ (List.Mem.tail _ (List.Mem.tail _ (List.Mem.tail _ (List.Mem.tail _ (List.Mem.tail _ (List.Mem.tail _ (List.Mem.tail _ (List.Mem.tail _ (List.Mem.tail _ (List.Mem.tail _ (List.Mem.tail _ (List.Mem.tail _ (List.Mem.head _)))))))))))))
theorem wk_wsX2_best_0_1 : Cond.methodLink RX2 71 yX2_requireNode ∈ wsX2_best := lf_wsX2_best_0 _ (List.Mem.tail _ (List.Mem.head _))
theorem wk_wsX2_best_0_2 : Cond.instanceMethod yX2_requireNode ∈ wsX2_best := lf_wsX2_best_0 _ (List.Mem.tail _ (List.Mem.tail _ (List.Mem.head _)))
theorem wk_wsX2_best_0_3 : Cond.selects RX2 yX2_requireNode yX2_requireNode ∈ wsX2_best := lf_wsX2_best_0 _ (List.Mem.tail _ (List.Mem.tail _ (List.Mem.tail _ (List.Mem.head _))))
theorem lf_wsX2_steps_0 : ∀ w ∈ ([.fieldLink RX2 39 "TimeNet" "known" "LTimeNet$Knowledge;", .methodLink RX2 71 yX2_requireNode, .instanceMethod yX2_requireNode, .selects RX2 yX2_requireNode yX2_requireNode, .initialized RX2, .code yX2_requireNode cX2_requireNode 2 none, .classLink RX2 148 "java/lang/IndexOutOfBoundsException", .initialized "java/lang/IndexOutOfBoundsException", .methodLink RX2 144 yX2_isNode, .instanceMethod yX2_isNode, .selects RX2 yX2_isNode yX2_isNode, .code yX2_isNode cX2_isNode 2 (some .boolean), .fieldLink RX2 49 "TimeNet" "nodeCount" "I"] : List Cond), w ∈ wsX2_steps := fun w h => (List.mem_cons_of_mem _ (List.mem_append_left _ (List.mem_append_left _ (List.mem_append_left _ h))))
theorem lf_wsX2_steps_1 : ∀ w ∈ wsX20, w ∈ wsX2_steps := fun w h => (List.mem_cons_of_mem _ (List.mem_append_left _ (List.mem_append_left _ (List.mem_append_right _ h))))
theorem lf_wsX2_steps_2 : ∀ w ∈ wsX00, w ∈ wsX2_steps := fun w h => (List.mem_cons_of_mem _ (List.mem_append_left _ (List.mem_append_right _ h)))
theorem wk_wsX2_steps_0_5 : Cond.code yX2_requireNode cX2_requireNode 2 none ∈ wsX2_steps := lf_wsX2_steps_0 _ (List.Mem.tail _ (List.Mem.tail _ (List.Mem.tail _ (List.Mem.tail _ (List.Mem.tail _ (List.Mem.head _))))))
theorem wk_wsX2_steps_0_6 : Cond.classLink RX2 148 "java/lang/IndexOutOfBoundsException" ∈ wsX2_steps := lf_wsX2_steps_0 _ (List.Mem.tail _ (List.Mem.tail _ (List.Mem.tail _ (List.Mem.tail _ (List.Mem.tail _ (List.Mem.tail _ (List.Mem.head _)))))))
theorem wk_wsX2_steps_0_7 : Cond.initialized "java/lang/IndexOutOfBoundsException" ∈ wsX2_steps := lf_wsX2_steps_0 _ (List.Mem.tail _ (List.Mem.tail _ (List.Mem.tail _ (List.Mem.tail _ (List.Mem.tail _ (List.Mem.tail _ (List.Mem.tail _ (List.Mem.head _))))))))
theorem wk_wsX2_steps_0_8 : Cond.methodLink RX2 144 yX2_isNode ∈ wsX2_steps := lf_wsX2_steps_0 _ (List.Mem.tail _ (List.Mem.tail _ (List.Mem.tail _ (List.Mem.tail _ (List.Mem.tail _ (List.Mem.tail _ (List.Mem.tail _ (List.Mem.tail _ (List.Mem.head _)))))))))
theorem wk_wsX2_steps_0_9 : Cond.instanceMethod yX2_isNode ∈ wsX2_steps := lf_wsX2_steps_0 _ (List.Mem.tail _ (List.Mem.tail _ (List.Mem.tail _ (List.Mem.tail _ (List.Mem.tail _ (List.Mem.tail _ (List.Mem.tail _ (List.Mem.tail _ (List.Mem.tail _ (List.Mem.head _))))))))))
theorem wk_wsX2_steps_0_10 : Cond.selects RX2 yX2_isNode yX2_isNode ∈ wsX2_steps := lf_wsX2_steps_0 _ (List.Mem.tail _ (List.Mem.tail _ (List.Mem.tail _ (List.Mem.tail _ (List.Mem.tail _ (List.Mem.tail _ (List.Mem.tail _ (List.Mem.tail _ (List.Mem.tail _ (List.Mem.tail _ (List.Mem.head _)))))))))))
theorem wk_wsX2_steps_0_4 : Cond.initialized RX2 ∈ wsX2_steps := lf_wsX2_steps_0 _ (List.Mem.tail _ (List.Mem.tail _ (List.Mem.tail _ (List.Mem.tail _ (List.Mem.head _)))))
theorem wk_wsX2_steps_0_11 : Cond.code yX2_isNode cX2_isNode 2 (some .boolean) ∈ wsX2_steps := lf_wsX2_steps_0 _ (List.Mem.tail _ (List.Mem.tail _ (List.Mem.tail _ (List.Mem.tail _ (List.Mem.tail _ (List.Mem.tail _ (List.Mem.tail _ (List.Mem.tail _ (List.Mem.tail _ (List.Mem.tail _ (List.Mem.tail _ (List.Mem.head _))))))))))))
theorem wk_wsX2_steps_0_12 : Cond.fieldLink RX2 49 "TimeNet" "nodeCount" "I" ∈ wsX2_steps := lf_wsX2_steps_0 _ (List.Mem.tail _ (List.Mem.tail _ (List.Mem.tail _ (List.Mem.tail _ (List.Mem.tail _ (List.Mem.tail _ (List.Mem.tail _ (List.Mem.tail _ (List.Mem.tail _ (List.Mem.tail _ (List.Mem.tail _ (List.Mem.tail _ (List.Mem.head _)))))))))))))
theorem wk_wsX2_steps_0_1 : Cond.methodLink RX2 71 yX2_requireNode ∈ wsX2_steps := lf_wsX2_steps_0 _ (List.Mem.tail _ (List.Mem.head _))
theorem wk_wsX2_steps_0_2 : Cond.instanceMethod yX2_requireNode ∈ wsX2_steps := lf_wsX2_steps_0 _ (List.Mem.tail _ (List.Mem.tail _ (List.Mem.head _)))
theorem wk_wsX2_steps_0_3 : Cond.selects RX2 yX2_requireNode yX2_requireNode ∈ wsX2_steps := lf_wsX2_steps_0 _ (List.Mem.tail _ (List.Mem.tail _ (List.Mem.tail _ (List.Mem.head _))))
theorem lf_wsX2_parent_0 : ∀ w ∈ ([.fieldLink RX2 39 "TimeNet" "known" "LTimeNet$Knowledge;", .methodLink RX2 71 yX2_requireNode, .instanceMethod yX2_requireNode, .selects RX2 yX2_requireNode yX2_requireNode, .initialized RX2, .code yX2_requireNode cX2_requireNode 2 none, .classLink RX2 148 "java/lang/IndexOutOfBoundsException", .initialized "java/lang/IndexOutOfBoundsException", .methodLink RX2 144 yX2_isNode, .instanceMethod yX2_isNode, .selects RX2 yX2_isNode yX2_isNode, .code yX2_isNode cX2_isNode 2 (some .boolean), .fieldLink RX2 49 "TimeNet" "nodeCount" "I"] : List Cond), w ∈ wsX2_parent := fun w h => (List.mem_cons_of_mem _ (List.mem_append_left _ (List.mem_append_left _ (List.mem_append_left _ h))))
theorem lf_wsX2_parent_1 : ∀ w ∈ wsX20, w ∈ wsX2_parent := fun w h => (List.mem_cons_of_mem _ (List.mem_append_left _ (List.mem_append_left _ (List.mem_append_right _ h))))
theorem lf_wsX2_parent_2 : ∀ w ∈ wsX00, w ∈ wsX2_parent := fun w h => (List.mem_cons_of_mem _ (List.mem_append_left _ (List.mem_append_right _ h)))
theorem wk_wsX2_parent_0_5 : Cond.code yX2_requireNode cX2_requireNode 2 none ∈ wsX2_parent := lf_wsX2_parent_0 _ (List.Mem.tail _ (List.Mem.tail _ (List.Mem.tail _ (List.Mem.tail _ (List.Mem.tail _ (List.Mem.head _))))))
theorem wk_wsX2_parent_0_6 : Cond.classLink RX2 148 "java/lang/IndexOutOfBoundsException" ∈ wsX2_parent := lf_wsX2_parent_0 _ (List.Mem.tail _ (List.Mem.tail _ (List.Mem.tail _ (List.Mem.tail _ (List.Mem.tail _ (List.Mem.tail _ (List.Mem.head _)))))))
theorem wk_wsX2_parent_0_7 : Cond.initialized "java/lang/IndexOutOfBoundsException" ∈ wsX2_parent := lf_wsX2_parent_0 _ (List.Mem.tail _ (List.Mem.tail _ (List.Mem.tail _ (List.Mem.tail _ (List.Mem.tail _ (List.Mem.tail _ (List.Mem.tail _ (List.Mem.head _))))))))
theorem wk_wsX2_parent_0_8 : Cond.methodLink RX2 144 yX2_isNode ∈ wsX2_parent := lf_wsX2_parent_0 _ (List.Mem.tail _ (List.Mem.tail _ (List.Mem.tail _ (List.Mem.tail _ (List.Mem.tail _ (List.Mem.tail _ (List.Mem.tail _ (List.Mem.tail _ (List.Mem.head _)))))))))
theorem wk_wsX2_parent_0_9 : Cond.instanceMethod yX2_isNode ∈ wsX2_parent := lf_wsX2_parent_0 _ (List.Mem.tail _ (List.Mem.tail _ (List.Mem.tail _ (List.Mem.tail _ (List.Mem.tail _ (List.Mem.tail _ (List.Mem.tail _ (List.Mem.tail _ (List.Mem.tail _ (List.Mem.head _))))))))))
theorem wk_wsX2_parent_0_10 : Cond.selects RX2 yX2_isNode yX2_isNode ∈ wsX2_parent := lf_wsX2_parent_0 _ (List.Mem.tail _ (List.Mem.tail _ (List.Mem.tail _ (List.Mem.tail _ (List.Mem.tail _ (List.Mem.tail _ (List.Mem.tail _ (List.Mem.tail _ (List.Mem.tail _ (List.Mem.tail _ (List.Mem.head _)))))))))))
theorem wk_wsX2_parent_0_4 : Cond.initialized RX2 ∈ wsX2_parent := lf_wsX2_parent_0 _ (List.Mem.tail _ (List.Mem.tail _ (List.Mem.tail _ (List.Mem.tail _ (List.Mem.head _)))))
theorem wk_wsX2_parent_0_11 : Cond.code yX2_isNode cX2_isNode 2 (some .boolean) ∈ wsX2_parent := lf_wsX2_parent_0 _ (List.Mem.tail _ (List.Mem.tail _ (List.Mem.tail _ (List.Mem.tail _ (List.Mem.tail _ (List.Mem.tail _ (List.Mem.tail _ (List.Mem.tail _ (List.Mem.tail _ (List.Mem.tail _ (List.Mem.tail _ (List.Mem.head _))))))))))))
theorem wk_wsX2_parent_0_12 : Cond.fieldLink RX2 49 "TimeNet" "nodeCount" "I" ∈ wsX2_parent := lf_wsX2_parent_0 _ (List.Mem.tail _ (List.Mem.tail _ (List.Mem.tail _ (List.Mem.tail _ (List.Mem.tail _ (List.Mem.tail _ (List.Mem.tail _ (List.Mem.tail _ (List.Mem.tail _ (List.Mem.tail _ (List.Mem.tail _ (List.Mem.tail _ (List.Mem.head _)))))))))))))
theorem wk_wsX2_parent_0_1 : Cond.methodLink RX2 71 yX2_requireNode ∈ wsX2_parent := lf_wsX2_parent_0 _ (List.Mem.tail _ (List.Mem.head _))
theorem wk_wsX2_parent_0_2 : Cond.instanceMethod yX2_requireNode ∈ wsX2_parent := lf_wsX2_parent_0 _ (List.Mem.tail _ (List.Mem.tail _ (List.Mem.head _)))
theorem wk_wsX2_parent_0_3 : Cond.selects RX2 yX2_requireNode yX2_requireNode ∈ wsX2_parent := lf_wsX2_parent_0 _ (List.Mem.tail _ (List.Mem.tail _ (List.Mem.tail _ (List.Mem.head _))))
theorem lf_wsX2_port_0 : ∀ w ∈ wsX2_port_r1, w ∈ wsX2_port := fun w h => (List.mem_cons_of_mem _ (List.mem_append_left _ (List.mem_append_left _ (List.mem_append_left _ (List.mem_append_left _ (List.mem_append_left _ h))))))
theorem lf_wsX2_port_1 : ∀ w ∈ wsX2_port_r2, w ∈ wsX2_port := fun w h => (List.mem_cons_of_mem _ (List.mem_append_left _ (List.mem_append_left _ (List.mem_append_left _ (List.mem_append_left _ (List.mem_append_right _ h))))))
theorem lf_wsX2_port_2 : ∀ w ∈ wsX20, w ∈ wsX2_port := fun w h => (List.mem_cons_of_mem _ (List.mem_append_left _ (List.mem_append_left _ (List.mem_append_left _ (List.mem_append_right _ h)))))
theorem lf_wsX2_port_3 : ∀ w ∈ wsX00, w ∈ wsX2_port := fun w h => (List.mem_cons_of_mem _ (List.mem_append_left _ (List.mem_append_left _ (List.mem_append_right _ h))))
theorem lf_wsX2_port_4 : ∀ w ∈ wsX10, w ∈ wsX2_port := fun w h => (List.mem_cons_of_mem _ (List.mem_append_left _ (List.mem_append_right _ h)))
theorem wk_wsX2_port_0_5 : Cond.code yX2_requireNode cX2_requireNode 2 none ∈ wsX2_port := lf_wsX2_port_0 _ (List.Mem.tail _ (List.Mem.tail _ (List.Mem.tail _ (List.Mem.tail _ (List.Mem.tail _ (List.Mem.head _))))))
theorem wk_wsX2_port_0_6 : Cond.classLink RX2 148 "java/lang/IndexOutOfBoundsException" ∈ wsX2_port := lf_wsX2_port_0 _ (List.Mem.tail _ (List.Mem.tail _ (List.Mem.tail _ (List.Mem.tail _ (List.Mem.tail _ (List.Mem.tail _ (List.Mem.head _)))))))
theorem wk_wsX2_port_0_7 : Cond.initialized "java/lang/IndexOutOfBoundsException" ∈ wsX2_port := lf_wsX2_port_0 _ (List.Mem.tail _ (List.Mem.tail _ (List.Mem.tail _ (List.Mem.tail _ (List.Mem.tail _ (List.Mem.tail _ (List.Mem.tail _ (List.Mem.head _))))))))
theorem wk_wsX2_port_0_8 : Cond.methodLink RX2 144 yX2_isNode ∈ wsX2_port := lf_wsX2_port_0 _ (List.Mem.tail _ (List.Mem.tail _ (List.Mem.tail _ (List.Mem.tail _ (List.Mem.tail _ (List.Mem.tail _ (List.Mem.tail _ (List.Mem.tail _ (List.Mem.head _)))))))))
theorem wk_wsX2_port_0_9 : Cond.instanceMethod yX2_isNode ∈ wsX2_port := lf_wsX2_port_0 _ (List.Mem.tail _ (List.Mem.tail _ (List.Mem.tail _ (List.Mem.tail _ (List.Mem.tail _ (List.Mem.tail _ (List.Mem.tail _ (List.Mem.tail _ (List.Mem.tail _ (List.Mem.head _))))))))))
theorem wk_wsX2_port_0_10 : Cond.selects RX2 yX2_isNode yX2_isNode ∈ wsX2_port := lf_wsX2_port_0 _ (List.Mem.tail _ (List.Mem.tail _ (List.Mem.tail _ (List.Mem.tail _ (List.Mem.tail _ (List.Mem.tail _ (List.Mem.tail _ (List.Mem.tail _ (List.Mem.tail _ (List.Mem.tail _ (List.Mem.head _)))))))))))
theorem wk_wsX2_port_0_4 : Cond.initialized RX2 ∈ wsX2_port := lf_wsX2_port_0 _ (List.Mem.tail _ (List.Mem.tail _ (List.Mem.tail _ (List.Mem.tail _ (List.Mem.head _)))))
theorem wk_wsX2_port_0_11 : Cond.code yX2_isNode cX2_isNode 2 (some .boolean) ∈ wsX2_port := lf_wsX2_port_0 _ (List.Mem.tail _ (List.Mem.tail _ (List.Mem.tail _ (List.Mem.tail _ (List.Mem.tail _ (List.Mem.tail _ (List.Mem.tail _ (List.Mem.tail _ (List.Mem.tail _ (List.Mem.tail _ (List.Mem.tail _ (List.Mem.head _))))))))))))
theorem wk_wsX2_port_0_12 : Cond.fieldLink RX2 49 "TimeNet" "nodeCount" "I" ∈ wsX2_port := lf_wsX2_port_0 _ (List.Mem.tail _ (List.Mem.tail _ (List.Mem.tail _ (List.Mem.tail _ (List.Mem.tail _ (List.Mem.tail _ (List.Mem.tail _ (List.Mem.tail _ (List.Mem.tail _ (List.Mem.tail _ (List.Mem.tail _ (List.Mem.tail _ (List.Mem.head _)))))))))))))
theorem wk_wsX2_port_0_1 : Cond.methodLink RX2 71 yX2_requireNode ∈ wsX2_port := lf_wsX2_port_0 _ (List.Mem.tail _ (List.Mem.head _))
theorem wk_wsX2_port_0_2 : Cond.instanceMethod yX2_requireNode ∈ wsX2_port := lf_wsX2_port_0 _ (List.Mem.tail _ (List.Mem.tail _ (List.Mem.head _)))
theorem wk_wsX2_port_0_3 : Cond.selects RX2 yX2_requireNode yX2_requireNode ∈ wsX2_port := lf_wsX2_port_0 _ (List.Mem.tail _ (List.Mem.tail _ (List.Mem.tail _ (List.Mem.head _))))
theorem wk_wsX2_port_0_16 : Cond.code yX2_areNeighbours cX2_areNeighbours 3 (some .boolean) ∈ wsX2_port := lf_wsX2_port_0 _ (List.Mem.tail _ (List.Mem.tail _ (List.Mem.tail _ (List.Mem.tail _ (List.Mem.tail _ (List.Mem.tail _ (List.Mem.tail _ (List.Mem.tail _ (List.Mem.tail _ (List.Mem.tail _ (List.Mem.tail _ (List.Mem.tail _ (List.Mem.tail _ (List.Mem.tail _ (List.Mem.tail _ (List.Mem.tail _ (List.Mem.head _)))))))))))))))))
theorem wk_wsX2_port_0_17 : Cond.fieldLink RX2 9 "TimeNet" "domainOf" "[I" ∈ wsX2_port := lf_wsX2_port_0 _ (List.Mem.tail _ (List.Mem.tail _ (List.Mem.tail _ (List.Mem.tail _ (List.Mem.tail _ (List.Mem.tail _ (List.Mem.tail _ (List.Mem.tail _ (List.Mem.tail _ (List.Mem.tail _ (List.Mem.tail _ (List.Mem.tail _ (List.Mem.tail _ (List.Mem.tail _ (List.Mem.tail _ (List.Mem.tail _ (List.Mem.tail _ (List.Mem.head _))))))))))))))))))
theorem wk_wsX2_port_0_18 : Cond.fieldLink RX2 32 "TimeNet" "wires" "LTimeNet$Wires;" ∈ wsX2_port := lf_wsX2_port_0 _ (List.Mem.tail _ (List.Mem.tail _ (List.Mem.tail _ (List.Mem.tail _ (List.Mem.tail _ (List.Mem.tail _ (List.Mem.tail _ (List.Mem.tail _ (List.Mem.tail _ (List.Mem.tail _ (List.Mem.tail _ (List.Mem.tail _ (List.Mem.tail _ (List.Mem.tail _ (List.Mem.tail _ (List.Mem.tail _ (List.Mem.tail _ (List.Mem.tail _ (List.Mem.head _)))))))))))))))))))
theorem wk_wsX2_port_0_19 : Cond.instanceMethod yX1_areLinked ∈ wsX2_port := lf_wsX2_port_0 _ (List.Mem.tail _ (List.Mem.tail _ (List.Mem.tail _ (List.Mem.tail _ (List.Mem.tail _ (List.Mem.tail _ (List.Mem.tail _ (List.Mem.tail _ (List.Mem.tail _ (List.Mem.tail _ (List.Mem.tail _ (List.Mem.tail _ (List.Mem.tail _ (List.Mem.tail _ (List.Mem.tail _ (List.Mem.tail _ (List.Mem.tail _ (List.Mem.tail _ (List.Mem.tail _ (List.Mem.head _))))))))))))))))))))
theorem wk_wsX2_port_0_20 : Cond.initialized RX1 ∈ wsX2_port := lf_wsX2_port_0 _ (List.Mem.tail _ (List.Mem.tail _ (List.Mem.tail _ (List.Mem.tail _ (List.Mem.tail _ (List.Mem.tail _ (List.Mem.tail _ (List.Mem.tail _ (List.Mem.tail _ (List.Mem.tail _ (List.Mem.tail _ (List.Mem.tail _ (List.Mem.tail _ (List.Mem.tail _ (List.Mem.tail _ (List.Mem.tail _ (List.Mem.tail _ (List.Mem.tail _ (List.Mem.tail _ (List.Mem.tail _ (List.Mem.head _)))))))))))))))))))))
theorem wk_wsX2_port_0_21 : Cond.selects RX1 yX1_areLinked yX1_areLinked ∈ wsX2_port := lf_wsX2_port_0 _ (List.Mem.tail _ (List.Mem.tail _ (List.Mem.tail _ (List.Mem.tail _ (List.Mem.tail _ (List.Mem.tail _ (List.Mem.tail _ (List.Mem.tail _ (List.Mem.tail _ (List.Mem.tail _ (List.Mem.tail _ (List.Mem.tail _ (List.Mem.tail _ (List.Mem.tail _ (List.Mem.tail _ (List.Mem.tail _ (List.Mem.tail _ (List.Mem.tail _ (List.Mem.tail _ (List.Mem.tail _ (List.Mem.tail _ (List.Mem.head _))))))))))))))))))))))
theorem wk_wsX2_port_0_22 : Cond.code yX1_areLinked cX1_areLinked 3 (some .boolean) ∈ wsX2_port := lf_wsX2_port_0 _ (List.Mem.tail _ (List.Mem.tail _ (List.Mem.tail _ (List.Mem.tail _ (List.Mem.tail _ (List.Mem.tail _ (List.Mem.tail _ (List.Mem.tail _ (List.Mem.tail _ (List.Mem.tail _ (List.Mem.tail _ (List.Mem.tail _ (List.Mem.tail _ (List.Mem.tail _ (List.Mem.tail _ (List.Mem.tail _ (List.Mem.tail _ (List.Mem.tail _ (List.Mem.tail _ (List.Mem.tail _ (List.Mem.tail _ (List.Mem.tail _ (List.Mem.head _)))))))))))))))))))))))
theorem wk_wsX2_port_0_23 : Cond.fieldLink RX1 9 "TimeNet$Wires" "laid" "[Z" ∈ wsX2_port := lf_wsX2_port_0 _ (List.Mem.tail _ (List.Mem.tail _ (List.Mem.tail _ (List.Mem.tail _ (List.Mem.tail _ (List.Mem.tail _ (List.Mem.tail _ (List.Mem.tail _ (List.Mem.tail _ (List.Mem.tail _ (List.Mem.tail _ (List.Mem.tail _ (List.Mem.tail _ (List.Mem.tail _ (List.Mem.tail _ (List.Mem.tail _ (List.Mem.tail _ (List.Mem.tail _ (List.Mem.tail _ (List.Mem.tail _ (List.Mem.tail _ (List.Mem.tail _ (List.Mem.tail _ (List.Mem.head _))))))))))))))))))))))))
theorem wk_wsX2_port_1_0 : Cond.methodLink RX1 26 yX1_place ∈ wsX2_port := lf_wsX2_port_1 _ (List.Mem.head _)
theorem wk_wsX2_port_1_1 : Cond.static yX1_place ∈ wsX2_port := lf_wsX2_port_1 _ (List.Mem.tail _ (List.Mem.head _))
theorem wk_wsX2_port_1_2 : Cond.code yX1_place cX1_place 2 (some .int) ∈ wsX2_port := lf_wsX2_port_1 _ (List.Mem.tail _ (List.Mem.tail _ (List.Mem.head _)))
theorem wk_wsX2_port_0_13 : Cond.methodLink RX2 122 yX2_areNeighbours ∈ wsX2_port := lf_wsX2_port_0 _ (List.Mem.tail _ (List.Mem.tail _ (List.Mem.tail _ (List.Mem.tail _ (List.Mem.tail _ (List.Mem.tail _ (List.Mem.tail _ (List.Mem.tail _ (List.Mem.tail _ (List.Mem.tail _ (List.Mem.tail _ (List.Mem.tail _ (List.Mem.tail _ (List.Mem.head _))))))))))))))
theorem wk_wsX2_port_0_14 : Cond.instanceMethod yX2_areNeighbours ∈ wsX2_port := lf_wsX2_port_0 _ (List.Mem.tail _ (List.Mem.tail _ (List.Mem.tail _ (List.Mem.tail _ (List.Mem.tail _ (List.Mem.tail _ (List.Mem.tail _ (List.Mem.tail _ (List.Mem.tail _ (List.Mem.tail _ (List.Mem.tail _ (List.Mem.tail _ (List.Mem.tail _ (List.Mem.tail _ (List.Mem.head _)))))))))))))))
theorem wk_wsX2_port_0_15 : Cond.selects RX2 yX2_areNeighbours yX2_areNeighbours ∈ wsX2_port := lf_wsX2_port_0 _ (List.Mem.tail _ (List.Mem.tail _ (List.Mem.tail _ (List.Mem.tail _ (List.Mem.tail _ (List.Mem.tail _ (List.Mem.tail _ (List.Mem.tail _ (List.Mem.tail _ (List.Mem.tail _ (List.Mem.tail _ (List.Mem.tail _ (List.Mem.tail _ (List.Mem.tail _ (List.Mem.tail _ (List.Mem.head _))))))))))))))))
theorem wk_wsX2_port_1_6 : Cond.code yX2_isNearer cX2_isNearer 5 (some .boolean) ∈ wsX2_port := lf_wsX2_port_1 _ (List.Mem.tail _ (List.Mem.tail _ (List.Mem.tail _ (List.Mem.tail _ (List.Mem.tail _ (List.Mem.tail _ (List.Mem.head _)))))))
theorem wk_wsX2_port_0_0 : Cond.fieldLink RX2 39 "TimeNet" "known" "LTimeNet$Knowledge;" ∈ wsX2_port := lf_wsX2_port_0 _ (List.Mem.head _)
theorem wk_wsX2_port_1_3 : Cond.methodLink RX2 125 yX2_isNearer ∈ wsX2_port := lf_wsX2_port_1 _ (List.Mem.tail _ (List.Mem.tail _ (List.Mem.tail _ (List.Mem.head _))))
theorem wk_wsX2_port_1_4 : Cond.instanceMethod yX2_isNearer ∈ wsX2_port := lf_wsX2_port_1 _ (List.Mem.tail _ (List.Mem.tail _ (List.Mem.tail _ (List.Mem.tail _ (List.Mem.head _)))))
theorem wk_wsX2_port_1_5 : Cond.selects RX2 yX2_isNearer yX2_isNearer ∈ wsX2_port := lf_wsX2_port_1 _ (List.Mem.tail _ (List.Mem.tail _ (List.Mem.tail _ (List.Mem.tail _ (List.Mem.tail _ (List.Mem.head _))))))
theorem lf_wsX2_bestByGraph_0 : ∀ w ∈ wsX2_bestByGraph_r1, w ∈ wsX2_bestByGraph := fun w h => (List.mem_cons_of_mem _ (List.mem_append_left _ (List.mem_append_left _ (List.mem_append_left _ (List.mem_append_left _ h)))))
theorem lf_wsX2_bestByGraph_1 : ∀ w ∈ wsX2_bestByGraph_r2, w ∈ wsX2_bestByGraph := fun w h => (List.mem_cons_of_mem _ (List.mem_append_left _ (List.mem_append_left _ (List.mem_append_left _ (List.mem_append_right _ h)))))
theorem lf_wsX2_bestByGraph_2 : ∀ w ∈ wsX20, w ∈ wsX2_bestByGraph := fun w h => (List.mem_cons_of_mem _ (List.mem_append_left _ (List.mem_append_left _ (List.mem_append_right _ h))))
theorem lf_wsX2_bestByGraph_3 : ∀ w ∈ wsX10, w ∈ wsX2_bestByGraph := fun w h => (List.mem_cons_of_mem _ (List.mem_append_left _ (List.mem_append_right _ h)))
theorem wk_wsX2_bestByGraph_0_4 : Cond.code yX2_requireNode cX2_requireNode 2 none ∈ wsX2_bestByGraph := lf_wsX2_bestByGraph_0 _ (List.Mem.tail _ (List.Mem.tail _ (List.Mem.tail _ (List.Mem.tail _ (List.Mem.head _)))))
theorem wk_wsX2_bestByGraph_0_5 : Cond.classLink RX2 148 "java/lang/IndexOutOfBoundsException" ∈ wsX2_bestByGraph := lf_wsX2_bestByGraph_0 _ (List.Mem.tail _ (List.Mem.tail _ (List.Mem.tail _ (List.Mem.tail _ (List.Mem.tail _ (List.Mem.head _))))))
theorem wk_wsX2_bestByGraph_0_6 : Cond.initialized "java/lang/IndexOutOfBoundsException" ∈ wsX2_bestByGraph := lf_wsX2_bestByGraph_0 _ (List.Mem.tail _ (List.Mem.tail _ (List.Mem.tail _ (List.Mem.tail _ (List.Mem.tail _ (List.Mem.tail _ (List.Mem.head _)))))))
theorem wk_wsX2_bestByGraph_0_7 : Cond.methodLink RX2 144 yX2_isNode ∈ wsX2_bestByGraph := lf_wsX2_bestByGraph_0 _ (List.Mem.tail _ (List.Mem.tail _ (List.Mem.tail _ (List.Mem.tail _ (List.Mem.tail _ (List.Mem.tail _ (List.Mem.tail _ (List.Mem.head _))))))))
theorem wk_wsX2_bestByGraph_0_8 : Cond.instanceMethod yX2_isNode ∈ wsX2_bestByGraph := lf_wsX2_bestByGraph_0 _ (List.Mem.tail _ (List.Mem.tail _ (List.Mem.tail _ (List.Mem.tail _ (List.Mem.tail _ (List.Mem.tail _ (List.Mem.tail _ (List.Mem.tail _ (List.Mem.head _)))))))))
theorem wk_wsX2_bestByGraph_0_9 : Cond.selects RX2 yX2_isNode yX2_isNode ∈ wsX2_bestByGraph := lf_wsX2_bestByGraph_0 _ (List.Mem.tail _ (List.Mem.tail _ (List.Mem.tail _ (List.Mem.tail _ (List.Mem.tail _ (List.Mem.tail _ (List.Mem.tail _ (List.Mem.tail _ (List.Mem.tail _ (List.Mem.head _))))))))))
theorem wk_wsX2_bestByGraph_0_3 : Cond.initialized RX2 ∈ wsX2_bestByGraph := lf_wsX2_bestByGraph_0 _ (List.Mem.tail _ (List.Mem.tail _ (List.Mem.tail _ (List.Mem.head _))))
theorem wk_wsX2_bestByGraph_0_10 : Cond.code yX2_isNode cX2_isNode 2 (some .boolean) ∈ wsX2_bestByGraph := lf_wsX2_bestByGraph_0 _ (List.Mem.tail _ (List.Mem.tail _ (List.Mem.tail _ (List.Mem.tail _ (List.Mem.tail _ (List.Mem.tail _ (List.Mem.tail _ (List.Mem.tail _ (List.Mem.tail _ (List.Mem.tail _ (List.Mem.head _)))))))))))
theorem wk_wsX2_bestByGraph_0_11 : Cond.fieldLink RX2 49 "TimeNet" "nodeCount" "I" ∈ wsX2_bestByGraph := lf_wsX2_bestByGraph_0 _ (List.Mem.tail _ (List.Mem.tail _ (List.Mem.tail _ (List.Mem.tail _ (List.Mem.tail _ (List.Mem.tail _ (List.Mem.tail _ (List.Mem.tail _ (List.Mem.tail _ (List.Mem.tail _ (List.Mem.tail _ (List.Mem.head _))))))))))))
theorem wk_wsX2_bestByGraph_0_0 : Cond.methodLink RX2 71 yX2_requireNode ∈ wsX2_bestByGraph := lf_wsX2_bestByGraph_0 _ (List.Mem.head _)
theorem wk_wsX2_bestByGraph_0_1 : Cond.instanceMethod yX2_requireNode ∈ wsX2_bestByGraph := lf_wsX2_bestByGraph_0 _ (List.Mem.tail _ (List.Mem.head _))
theorem wk_wsX2_bestByGraph_0_2 : Cond.selects RX2 yX2_requireNode yX2_requireNode ∈ wsX2_bestByGraph := lf_wsX2_bestByGraph_0 _ (List.Mem.tail _ (List.Mem.tail _ (List.Mem.head _)))
theorem wk_wsX2_bestByGraph_0_15 : Cond.code yX2_measureDistances cX2_measureDistances 4 none ∈ wsX2_bestByGraph := lf_wsX2_bestByGraph_0 _ (List.Mem.tail _ (List.Mem.tail _ (List.Mem.tail _ (List.Mem.tail _ (List.Mem.tail _ (List.Mem.tail _ (List.Mem.tail _ (List.Mem.tail _ (List.Mem.tail _ (List.Mem.tail _ (List.Mem.tail _ (List.Mem.tail _ (List.Mem.tail _ (List.Mem.tail _ (List.Mem.tail _ (List.Mem.head _))))))))))))))))
theorem wk_wsX2_bestByGraph_0_16 : Cond.fieldLink RX2 46 "TimeNet" "distanceTo" "[I" ∈ wsX2_bestByGraph := lf_wsX2_bestByGraph_0 _ (List.Mem.tail _ (List.Mem.tail _ (List.Mem.tail _ (List.Mem.tail _ (List.Mem.tail _ (List.Mem.tail _ (List.Mem.tail _ (List.Mem.tail _ (List.Mem.tail _ (List.Mem.tail _ (List.Mem.tail _ (List.Mem.tail _ (List.Mem.tail _ (List.Mem.tail _ (List.Mem.tail _ (List.Mem.tail _ (List.Mem.head _)))))))))))))))))
theorem wk_wsX2_bestByGraph_0_17 : Cond.methodLink RX2 177 yX2_reachNeighbours ∈ wsX2_bestByGraph := lf_wsX2_bestByGraph_0 _ (List.Mem.tail _ (List.Mem.tail _ (List.Mem.tail _ (List.Mem.tail _ (List.Mem.tail _ (List.Mem.tail _ (List.Mem.tail _ (List.Mem.tail _ (List.Mem.tail _ (List.Mem.tail _ (List.Mem.tail _ (List.Mem.tail _ (List.Mem.tail _ (List.Mem.tail _ (List.Mem.tail _ (List.Mem.tail _ (List.Mem.tail _ (List.Mem.head _))))))))))))))))))
theorem wk_wsX2_bestByGraph_0_18 : Cond.instanceMethod yX2_reachNeighbours ∈ wsX2_bestByGraph := lf_wsX2_bestByGraph_0 _ (List.Mem.tail _ (List.Mem.tail _ (List.Mem.tail _ (List.Mem.tail _ (List.Mem.tail _ (List.Mem.tail _ (List.Mem.tail _ (List.Mem.tail _ (List.Mem.tail _ (List.Mem.tail _ (List.Mem.tail _ (List.Mem.tail _ (List.Mem.tail _ (List.Mem.tail _ (List.Mem.tail _ (List.Mem.tail _ (List.Mem.tail _ (List.Mem.tail _ (List.Mem.head _)))))))))))))))))))
theorem wk_wsX2_bestByGraph_0_19 : Cond.selects RX2 yX2_reachNeighbours yX2_reachNeighbours ∈ wsX2_bestByGraph := lf_wsX2_bestByGraph_0 _ (List.Mem.tail _ (List.Mem.tail _ (List.Mem.tail _ (List.Mem.tail _ (List.Mem.tail _ (List.Mem.tail _ (List.Mem.tail _ (List.Mem.tail _ (List.Mem.tail _ (List.Mem.tail _ (List.Mem.tail _ (List.Mem.tail _ (List.Mem.tail _ (List.Mem.tail _ (List.Mem.tail _ (List.Mem.tail _ (List.Mem.tail _ (List.Mem.tail _ (List.Mem.tail _ (List.Mem.head _))))))))))))))))))))
theorem wk_wsX2_bestByGraph_0_20 : Cond.code yX2_reachNeighbours cX2_reachNeighbours 4 none ∈ wsX2_bestByGraph := lf_wsX2_bestByGraph_0 _ (List.Mem.tail _ (List.Mem.tail _ (List.Mem.tail _ (List.Mem.tail _ (List.Mem.tail _ (List.Mem.tail _ (List.Mem.tail _ (List.Mem.tail _ (List.Mem.tail _ (List.Mem.tail _ (List.Mem.tail _ (List.Mem.tail _ (List.Mem.tail _ (List.Mem.tail _ (List.Mem.tail _ (List.Mem.tail _ (List.Mem.tail _ (List.Mem.tail _ (List.Mem.tail _ (List.Mem.tail _ (List.Mem.head _)))))))))))))))))))))
theorem wk_wsX2_bestByGraph_0_21 : Cond.methodLink RX2 122 yX2_areNeighbours ∈ wsX2_bestByGraph := lf_wsX2_bestByGraph_0 _ (List.Mem.tail _ (List.Mem.tail _ (List.Mem.tail _ (List.Mem.tail _ (List.Mem.tail _ (List.Mem.tail _ (List.Mem.tail _ (List.Mem.tail _ (List.Mem.tail _ (List.Mem.tail _ (List.Mem.tail _ (List.Mem.tail _ (List.Mem.tail _ (List.Mem.tail _ (List.Mem.tail _ (List.Mem.tail _ (List.Mem.tail _ (List.Mem.tail _ (List.Mem.tail _ (List.Mem.tail _ (List.Mem.tail _ (List.Mem.head _))))))))))))))))))))))
theorem wk_wsX2_bestByGraph_0_22 : Cond.instanceMethod yX2_areNeighbours ∈ wsX2_bestByGraph := lf_wsX2_bestByGraph_0 _ (List.Mem.tail _ (List.Mem.tail _ (List.Mem.tail _ (List.Mem.tail _ (List.Mem.tail _ (List.Mem.tail _ (List.Mem.tail _ (List.Mem.tail _ (List.Mem.tail _ (List.Mem.tail _ (List.Mem.tail _ (List.Mem.tail _ (List.Mem.tail _ (List.Mem.tail _ (List.Mem.tail _ (List.Mem.tail _ (List.Mem.tail _ (List.Mem.tail _ (List.Mem.tail _ (List.Mem.tail _ (List.Mem.tail _ (List.Mem.tail _ (List.Mem.head _)))))))))))))))))))))))
theorem wk_wsX2_bestByGraph_0_23 : Cond.selects RX2 yX2_areNeighbours yX2_areNeighbours ∈ wsX2_bestByGraph := lf_wsX2_bestByGraph_0 _ (List.Mem.tail _ (List.Mem.tail _ (List.Mem.tail _ (List.Mem.tail _ (List.Mem.tail _ (List.Mem.tail _ (List.Mem.tail _ (List.Mem.tail _ (List.Mem.tail _ (List.Mem.tail _ (List.Mem.tail _ (List.Mem.tail _ (List.Mem.tail _ (List.Mem.tail _ (List.Mem.tail _ (List.Mem.tail _ (List.Mem.tail _ (List.Mem.tail _ (List.Mem.tail _ (List.Mem.tail _ (List.Mem.tail _ (List.Mem.tail _ (List.Mem.tail _ (List.Mem.head _))))))))))))))))))))))))
theorem wk_wsX2_bestByGraph_1_0 : Cond.code yX2_areNeighbours cX2_areNeighbours 3 (some .boolean) ∈ wsX2_bestByGraph := lf_wsX2_bestByGraph_1 _ (List.Mem.head _)
theorem wk_wsX2_bestByGraph_1_1 : Cond.fieldLink RX2 9 "TimeNet" "domainOf" "[I" ∈ wsX2_bestByGraph := lf_wsX2_bestByGraph_1 _ (List.Mem.tail _ (List.Mem.head _))
theorem wk_wsX2_bestByGraph_1_2 : Cond.fieldLink RX2 32 "TimeNet" "wires" "LTimeNet$Wires;" ∈ wsX2_bestByGraph := lf_wsX2_bestByGraph_1 _ (List.Mem.tail _ (List.Mem.tail _ (List.Mem.head _)))
theorem wk_wsX2_bestByGraph_1_3 : Cond.instanceMethod yX1_areLinked ∈ wsX2_bestByGraph := lf_wsX2_bestByGraph_1 _ (List.Mem.tail _ (List.Mem.tail _ (List.Mem.tail _ (List.Mem.head _))))
theorem wk_wsX2_bestByGraph_1_4 : Cond.initialized RX1 ∈ wsX2_bestByGraph := lf_wsX2_bestByGraph_1 _ (List.Mem.tail _ (List.Mem.tail _ (List.Mem.tail _ (List.Mem.tail _ (List.Mem.head _)))))
theorem wk_wsX2_bestByGraph_1_5 : Cond.selects RX1 yX1_areLinked yX1_areLinked ∈ wsX2_bestByGraph := lf_wsX2_bestByGraph_1 _ (List.Mem.tail _ (List.Mem.tail _ (List.Mem.tail _ (List.Mem.tail _ (List.Mem.tail _ (List.Mem.head _))))))
theorem wk_wsX2_bestByGraph_1_6 : Cond.code yX1_areLinked cX1_areLinked 3 (some .boolean) ∈ wsX2_bestByGraph := lf_wsX2_bestByGraph_1 _ (List.Mem.tail _ (List.Mem.tail _ (List.Mem.tail _ (List.Mem.tail _ (List.Mem.tail _ (List.Mem.tail _ (List.Mem.head _)))))))
theorem wk_wsX2_bestByGraph_1_7 : Cond.fieldLink RX1 9 "TimeNet$Wires" "laid" "[Z" ∈ wsX2_bestByGraph := lf_wsX2_bestByGraph_1 _ (List.Mem.tail _ (List.Mem.tail _ (List.Mem.tail _ (List.Mem.tail _ (List.Mem.tail _ (List.Mem.tail _ (List.Mem.tail _ (List.Mem.head _))))))))
theorem wk_wsX2_bestByGraph_1_8 : Cond.methodLink RX1 26 yX1_place ∈ wsX2_bestByGraph := lf_wsX2_bestByGraph_1 _ (List.Mem.tail _ (List.Mem.tail _ (List.Mem.tail _ (List.Mem.tail _ (List.Mem.tail _ (List.Mem.tail _ (List.Mem.tail _ (List.Mem.tail _ (List.Mem.head _)))))))))
theorem wk_wsX2_bestByGraph_1_9 : Cond.static yX1_place ∈ wsX2_bestByGraph := lf_wsX2_bestByGraph_1 _ (List.Mem.tail _ (List.Mem.tail _ (List.Mem.tail _ (List.Mem.tail _ (List.Mem.tail _ (List.Mem.tail _ (List.Mem.tail _ (List.Mem.tail _ (List.Mem.tail _ (List.Mem.head _))))))))))
theorem wk_wsX2_bestByGraph_1_10 : Cond.code yX1_place cX1_place 2 (some .int) ∈ wsX2_bestByGraph := lf_wsX2_bestByGraph_1 _ (List.Mem.tail _ (List.Mem.tail _ (List.Mem.tail _ (List.Mem.tail _ (List.Mem.tail _ (List.Mem.tail _ (List.Mem.tail _ (List.Mem.tail _ (List.Mem.tail _ (List.Mem.tail _ (List.Mem.head _)))))))))))
theorem wk_wsX2_bestByGraph_0_12 : Cond.methodLink RX2 128 yX2_measureDistances ∈ wsX2_bestByGraph := lf_wsX2_bestByGraph_0 _ (List.Mem.tail _ (List.Mem.tail _ (List.Mem.tail _ (List.Mem.tail _ (List.Mem.tail _ (List.Mem.tail _ (List.Mem.tail _ (List.Mem.tail _ (List.Mem.tail _ (List.Mem.tail _ (List.Mem.tail _ (List.Mem.tail _ (List.Mem.head _)))))))))))))
theorem wk_wsX2_bestByGraph_0_13 : Cond.instanceMethod yX2_measureDistances ∈ wsX2_bestByGraph := lf_wsX2_bestByGraph_0 _ (List.Mem.tail _ (List.Mem.tail _ (List.Mem.tail _ (List.Mem.tail _ (List.Mem.tail _ (List.Mem.tail _ (List.Mem.tail _ (List.Mem.tail _ (List.Mem.tail _ (List.Mem.tail _ (List.Mem.tail _ (List.Mem.tail _ (List.Mem.tail _ (List.Mem.head _))))))))))))))
theorem wk_wsX2_bestByGraph_0_14 : Cond.selects RX2 yX2_measureDistances yX2_measureDistances ∈ wsX2_bestByGraph := lf_wsX2_bestByGraph_0 _ (List.Mem.tail _ (List.Mem.tail _ (List.Mem.tail _ (List.Mem.tail _ (List.Mem.tail _ (List.Mem.tail _ (List.Mem.tail _ (List.Mem.tail _ (List.Mem.tail _ (List.Mem.tail _ (List.Mem.tail _ (List.Mem.tail _ (List.Mem.tail _ (List.Mem.tail _ (List.Mem.head _)))))))))))))))
theorem wk_wsX2_bestByGraph_1_14 : Cond.code yX2_bestInReach cX2_bestInReach 4 (some .int) ∈ wsX2_bestByGraph := lf_wsX2_bestByGraph_1 _ (List.Mem.tail _ (List.Mem.tail _ (List.Mem.tail _ (List.Mem.tail _ (List.Mem.tail _ (List.Mem.tail _ (List.Mem.tail _ (List.Mem.tail _ (List.Mem.tail _ (List.Mem.tail _ (List.Mem.tail _ (List.Mem.tail _ (List.Mem.tail _ (List.Mem.tail _ (List.Mem.head _)))))))))))))))
theorem wk_wsX2_bestByGraph_1_15 : Cond.methodLink RX2 157 yX2_rankOf ∈ wsX2_bestByGraph := lf_wsX2_bestByGraph_1 _ (List.Mem.tail _ (List.Mem.tail _ (List.Mem.tail _ (List.Mem.tail _ (List.Mem.tail _ (List.Mem.tail _ (List.Mem.tail _ (List.Mem.tail _ (List.Mem.tail _ (List.Mem.tail _ (List.Mem.tail _ (List.Mem.tail _ (List.Mem.tail _ (List.Mem.tail _ (List.Mem.tail _ (List.Mem.head _))))))))))))))))
theorem wk_wsX2_bestByGraph_1_16 : Cond.instanceMethod yX2_rankOf ∈ wsX2_bestByGraph := lf_wsX2_bestByGraph_1 _ (List.Mem.tail _ (List.Mem.tail _ (List.Mem.tail _ (List.Mem.tail _ (List.Mem.tail _ (List.Mem.tail _ (List.Mem.tail _ (List.Mem.tail _ (List.Mem.tail _ (List.Mem.tail _ (List.Mem.tail _ (List.Mem.tail _ (List.Mem.tail _ (List.Mem.tail _ (List.Mem.tail _ (List.Mem.tail _ (List.Mem.head _)))))))))))))))))
theorem wk_wsX2_bestByGraph_1_17 : Cond.selects RX2 yX2_rankOf yX2_rankOf ∈ wsX2_bestByGraph := lf_wsX2_bestByGraph_1 _ (List.Mem.tail _ (List.Mem.tail _ (List.Mem.tail _ (List.Mem.tail _ (List.Mem.tail _ (List.Mem.tail _ (List.Mem.tail _ (List.Mem.tail _ (List.Mem.tail _ (List.Mem.tail _ (List.Mem.tail _ (List.Mem.tail _ (List.Mem.tail _ (List.Mem.tail _ (List.Mem.tail _ (List.Mem.tail _ (List.Mem.tail _ (List.Mem.head _))))))))))))))))))
theorem wk_wsX2_bestByGraph_1_18 : Cond.code yX2_rankOf cX2_rankOf 2 (some .int) ∈ wsX2_bestByGraph := lf_wsX2_bestByGraph_1 _ (List.Mem.tail _ (List.Mem.tail _ (List.Mem.tail _ (List.Mem.tail _ (List.Mem.tail _ (List.Mem.tail _ (List.Mem.tail _ (List.Mem.tail _ (List.Mem.tail _ (List.Mem.tail _ (List.Mem.tail _ (List.Mem.tail _ (List.Mem.tail _ (List.Mem.tail _ (List.Mem.tail _ (List.Mem.tail _ (List.Mem.tail _ (List.Mem.tail _ (List.Mem.head _)))))))))))))))))))
theorem wk_wsX2_bestByGraph_1_19 : Cond.fieldLink RX2 13 "TimeNet" "gradeOf" "[I" ∈ wsX2_bestByGraph := lf_wsX2_bestByGraph_1 _ (List.Mem.tail _ (List.Mem.tail _ (List.Mem.tail _ (List.Mem.tail _ (List.Mem.tail _ (List.Mem.tail _ (List.Mem.tail _ (List.Mem.tail _ (List.Mem.tail _ (List.Mem.tail _ (List.Mem.tail _ (List.Mem.tail _ (List.Mem.tail _ (List.Mem.tail _ (List.Mem.tail _ (List.Mem.tail _ (List.Mem.tail _ (List.Mem.tail _ (List.Mem.tail _ (List.Mem.head _))))))))))))))))))))
theorem wk_wsX2_bestByGraph_1_20 : Cond.fieldLink RX2 16 "TimeNet" "varianceOf" "[I" ∈ wsX2_bestByGraph := lf_wsX2_bestByGraph_1 _ (List.Mem.tail _ (List.Mem.tail _ (List.Mem.tail _ (List.Mem.tail _ (List.Mem.tail _ (List.Mem.tail _ (List.Mem.tail _ (List.Mem.tail _ (List.Mem.tail _ (List.Mem.tail _ (List.Mem.tail _ (List.Mem.tail _ (List.Mem.tail _ (List.Mem.tail _ (List.Mem.tail _ (List.Mem.tail _ (List.Mem.tail _ (List.Mem.tail _ (List.Mem.tail _ (List.Mem.tail _ (List.Mem.head _)))))))))))))))))))))
theorem wk_wsX2_bestByGraph_1_11 : Cond.methodLink RX2 131 yX2_bestInReach ∈ wsX2_bestByGraph := lf_wsX2_bestByGraph_1 _ (List.Mem.tail _ (List.Mem.tail _ (List.Mem.tail _ (List.Mem.tail _ (List.Mem.tail _ (List.Mem.tail _ (List.Mem.tail _ (List.Mem.tail _ (List.Mem.tail _ (List.Mem.tail _ (List.Mem.tail _ (List.Mem.head _))))))))))))
theorem wk_wsX2_bestByGraph_1_12 : Cond.instanceMethod yX2_bestInReach ∈ wsX2_bestByGraph := lf_wsX2_bestByGraph_1 _ (List.Mem.tail _ (List.Mem.tail _ (List.Mem.tail _ (List.Mem.tail _ (List.Mem.tail _ (List.Mem.tail _ (List.Mem.tail _ (List.Mem.tail _ (List.Mem.tail _ (List.Mem.tail _ (List.Mem.tail _ (List.Mem.tail _ (List.Mem.head _)))))))))))))
theorem wk_wsX2_bestByGraph_1_13 : Cond.selects RX2 yX2_bestInReach yX2_bestInReach ∈ wsX2_bestByGraph := lf_wsX2_bestByGraph_1 _ (List.Mem.tail _ (List.Mem.tail _ (List.Mem.tail _ (List.Mem.tail _ (List.Mem.tail _ (List.Mem.tail _ (List.Mem.tail _ (List.Mem.tail _ (List.Mem.tail _ (List.Mem.tail _ (List.Mem.tail _ (List.Mem.tail _ (List.Mem.tail _ (List.Mem.head _))))))))))))))
theorem lf_wsX2_stepsByGraph_0 : ∀ w ∈ wsX2_stepsByGraph_r1, w ∈ wsX2_stepsByGraph := fun w h => (List.mem_cons_of_mem _ (List.mem_append_left _ (List.mem_append_left _ (List.mem_append_left _ (List.mem_append_left _ h)))))
theorem lf_wsX2_stepsByGraph_1 : ∀ w ∈ wsX2_stepsByGraph_r2, w ∈ wsX2_stepsByGraph := fun w h => (List.mem_cons_of_mem _ (List.mem_append_left _ (List.mem_append_left _ (List.mem_append_left _ (List.mem_append_right _ h)))))
theorem lf_wsX2_stepsByGraph_2 : ∀ w ∈ wsX20, w ∈ wsX2_stepsByGraph := fun w h => (List.mem_cons_of_mem _ (List.mem_append_left _ (List.mem_append_left _ (List.mem_append_right _ h))))
theorem lf_wsX2_stepsByGraph_3 : ∀ w ∈ wsX10, w ∈ wsX2_stepsByGraph := fun w h => (List.mem_cons_of_mem _ (List.mem_append_left _ (List.mem_append_right _ h)))
theorem wk_wsX2_stepsByGraph_0_5 : Cond.code yX2_requireNode cX2_requireNode 2 none ∈ wsX2_stepsByGraph := lf_wsX2_stepsByGraph_0 _ (List.Mem.tail _ (List.Mem.tail _ (List.Mem.tail _ (List.Mem.tail _ (List.Mem.tail _ (List.Mem.head _))))))
theorem wk_wsX2_stepsByGraph_0_6 : Cond.classLink RX2 148 "java/lang/IndexOutOfBoundsException" ∈ wsX2_stepsByGraph := lf_wsX2_stepsByGraph_0 _ (List.Mem.tail _ (List.Mem.tail _ (List.Mem.tail _ (List.Mem.tail _ (List.Mem.tail _ (List.Mem.tail _ (List.Mem.head _)))))))
theorem wk_wsX2_stepsByGraph_0_7 : Cond.initialized "java/lang/IndexOutOfBoundsException" ∈ wsX2_stepsByGraph := lf_wsX2_stepsByGraph_0 _ (List.Mem.tail _ (List.Mem.tail _ (List.Mem.tail _ (List.Mem.tail _ (List.Mem.tail _ (List.Mem.tail _ (List.Mem.tail _ (List.Mem.head _))))))))
theorem wk_wsX2_stepsByGraph_0_8 : Cond.methodLink RX2 144 yX2_isNode ∈ wsX2_stepsByGraph := lf_wsX2_stepsByGraph_0 _ (List.Mem.tail _ (List.Mem.tail _ (List.Mem.tail _ (List.Mem.tail _ (List.Mem.tail _ (List.Mem.tail _ (List.Mem.tail _ (List.Mem.tail _ (List.Mem.head _)))))))))
theorem wk_wsX2_stepsByGraph_0_9 : Cond.instanceMethod yX2_isNode ∈ wsX2_stepsByGraph := lf_wsX2_stepsByGraph_0 _ (List.Mem.tail _ (List.Mem.tail _ (List.Mem.tail _ (List.Mem.tail _ (List.Mem.tail _ (List.Mem.tail _ (List.Mem.tail _ (List.Mem.tail _ (List.Mem.tail _ (List.Mem.head _))))))))))
theorem wk_wsX2_stepsByGraph_0_10 : Cond.selects RX2 yX2_isNode yX2_isNode ∈ wsX2_stepsByGraph := lf_wsX2_stepsByGraph_0 _ (List.Mem.tail _ (List.Mem.tail _ (List.Mem.tail _ (List.Mem.tail _ (List.Mem.tail _ (List.Mem.tail _ (List.Mem.tail _ (List.Mem.tail _ (List.Mem.tail _ (List.Mem.tail _ (List.Mem.head _)))))))))))
theorem wk_wsX2_stepsByGraph_0_4 : Cond.initialized RX2 ∈ wsX2_stepsByGraph := lf_wsX2_stepsByGraph_0 _ (List.Mem.tail _ (List.Mem.tail _ (List.Mem.tail _ (List.Mem.tail _ (List.Mem.head _)))))
theorem wk_wsX2_stepsByGraph_0_11 : Cond.code yX2_isNode cX2_isNode 2 (some .boolean) ∈ wsX2_stepsByGraph := lf_wsX2_stepsByGraph_0 _ (List.Mem.tail _ (List.Mem.tail _ (List.Mem.tail _ (List.Mem.tail _ (List.Mem.tail _ (List.Mem.tail _ (List.Mem.tail _ (List.Mem.tail _ (List.Mem.tail _ (List.Mem.tail _ (List.Mem.tail _ (List.Mem.head _))))))))))))
theorem wk_wsX2_stepsByGraph_0_12 : Cond.fieldLink RX2 49 "TimeNet" "nodeCount" "I" ∈ wsX2_stepsByGraph := lf_wsX2_stepsByGraph_0 _ (List.Mem.tail _ (List.Mem.tail _ (List.Mem.tail _ (List.Mem.tail _ (List.Mem.tail _ (List.Mem.tail _ (List.Mem.tail _ (List.Mem.tail _ (List.Mem.tail _ (List.Mem.tail _ (List.Mem.tail _ (List.Mem.tail _ (List.Mem.head _)))))))))))))
theorem wk_wsX2_stepsByGraph_0_1 : Cond.methodLink RX2 71 yX2_requireNode ∈ wsX2_stepsByGraph := lf_wsX2_stepsByGraph_0 _ (List.Mem.tail _ (List.Mem.head _))
theorem wk_wsX2_stepsByGraph_0_2 : Cond.instanceMethod yX2_requireNode ∈ wsX2_stepsByGraph := lf_wsX2_stepsByGraph_0 _ (List.Mem.tail _ (List.Mem.tail _ (List.Mem.head _)))
theorem wk_wsX2_stepsByGraph_0_3 : Cond.selects RX2 yX2_requireNode yX2_requireNode ∈ wsX2_stepsByGraph := lf_wsX2_stepsByGraph_0 _ (List.Mem.tail _ (List.Mem.tail _ (List.Mem.tail _ (List.Mem.head _))))
theorem wk_wsX2_stepsByGraph_0_16 : Cond.code yX2_measureDistances cX2_measureDistances 4 none ∈ wsX2_stepsByGraph := lf_wsX2_stepsByGraph_0 _ (List.Mem.tail _ (List.Mem.tail _ (List.Mem.tail _ (List.Mem.tail _ (List.Mem.tail _ (List.Mem.tail _ (List.Mem.tail _ (List.Mem.tail _ (List.Mem.tail _ (List.Mem.tail _ (List.Mem.tail _ (List.Mem.tail _ (List.Mem.tail _ (List.Mem.tail _ (List.Mem.tail _ (List.Mem.tail _ (List.Mem.head _)))))))))))))))))
theorem wk_wsX2_stepsByGraph_0_0 : Cond.fieldLink RX2 46 "TimeNet" "distanceTo" "[I" ∈ wsX2_stepsByGraph := lf_wsX2_stepsByGraph_0 _ (List.Mem.head _)
theorem wk_wsX2_stepsByGraph_0_17 : Cond.methodLink RX2 177 yX2_reachNeighbours ∈ wsX2_stepsByGraph := lf_wsX2_stepsByGraph_0 _ (List.Mem.tail _ (List.Mem.tail _ (List.Mem.tail _ (List.Mem.tail _ (List.Mem.tail _ (List.Mem.tail _ (List.Mem.tail _ (List.Mem.tail _ (List.Mem.tail _ (List.Mem.tail _ (List.Mem.tail _ (List.Mem.tail _ (List.Mem.tail _ (List.Mem.tail _ (List.Mem.tail _ (List.Mem.tail _ (List.Mem.tail _ (List.Mem.head _))))))))))))))))))
theorem wk_wsX2_stepsByGraph_0_18 : Cond.instanceMethod yX2_reachNeighbours ∈ wsX2_stepsByGraph := lf_wsX2_stepsByGraph_0 _ (List.Mem.tail _ (List.Mem.tail _ (List.Mem.tail _ (List.Mem.tail _ (List.Mem.tail _ (List.Mem.tail _ (List.Mem.tail _ (List.Mem.tail _ (List.Mem.tail _ (List.Mem.tail _ (List.Mem.tail _ (List.Mem.tail _ (List.Mem.tail _ (List.Mem.tail _ (List.Mem.tail _ (List.Mem.tail _ (List.Mem.tail _ (List.Mem.tail _ (List.Mem.head _)))))))))))))))))))
theorem wk_wsX2_stepsByGraph_0_19 : Cond.selects RX2 yX2_reachNeighbours yX2_reachNeighbours ∈ wsX2_stepsByGraph := lf_wsX2_stepsByGraph_0 _ (List.Mem.tail _ (List.Mem.tail _ (List.Mem.tail _ (List.Mem.tail _ (List.Mem.tail _ (List.Mem.tail _ (List.Mem.tail _ (List.Mem.tail _ (List.Mem.tail _ (List.Mem.tail _ (List.Mem.tail _ (List.Mem.tail _ (List.Mem.tail _ (List.Mem.tail _ (List.Mem.tail _ (List.Mem.tail _ (List.Mem.tail _ (List.Mem.tail _ (List.Mem.tail _ (List.Mem.head _))))))))))))))))))))
theorem wk_wsX2_stepsByGraph_0_20 : Cond.code yX2_reachNeighbours cX2_reachNeighbours 4 none ∈ wsX2_stepsByGraph := lf_wsX2_stepsByGraph_0 _ (List.Mem.tail _ (List.Mem.tail _ (List.Mem.tail _ (List.Mem.tail _ (List.Mem.tail _ (List.Mem.tail _ (List.Mem.tail _ (List.Mem.tail _ (List.Mem.tail _ (List.Mem.tail _ (List.Mem.tail _ (List.Mem.tail _ (List.Mem.tail _ (List.Mem.tail _ (List.Mem.tail _ (List.Mem.tail _ (List.Mem.tail _ (List.Mem.tail _ (List.Mem.tail _ (List.Mem.tail _ (List.Mem.head _)))))))))))))))))))))
theorem wk_wsX2_stepsByGraph_0_21 : Cond.methodLink RX2 122 yX2_areNeighbours ∈ wsX2_stepsByGraph := lf_wsX2_stepsByGraph_0 _ (List.Mem.tail _ (List.Mem.tail _ (List.Mem.tail _ (List.Mem.tail _ (List.Mem.tail _ (List.Mem.tail _ (List.Mem.tail _ (List.Mem.tail _ (List.Mem.tail _ (List.Mem.tail _ (List.Mem.tail _ (List.Mem.tail _ (List.Mem.tail _ (List.Mem.tail _ (List.Mem.tail _ (List.Mem.tail _ (List.Mem.tail _ (List.Mem.tail _ (List.Mem.tail _ (List.Mem.tail _ (List.Mem.tail _ (List.Mem.head _))))))))))))))))))))))
theorem wk_wsX2_stepsByGraph_0_22 : Cond.instanceMethod yX2_areNeighbours ∈ wsX2_stepsByGraph := lf_wsX2_stepsByGraph_0 _ (List.Mem.tail _ (List.Mem.tail _ (List.Mem.tail _ (List.Mem.tail _ (List.Mem.tail _ (List.Mem.tail _ (List.Mem.tail _ (List.Mem.tail _ (List.Mem.tail _ (List.Mem.tail _ (List.Mem.tail _ (List.Mem.tail _ (List.Mem.tail _ (List.Mem.tail _ (List.Mem.tail _ (List.Mem.tail _ (List.Mem.tail _ (List.Mem.tail _ (List.Mem.tail _ (List.Mem.tail _ (List.Mem.tail _ (List.Mem.tail _ (List.Mem.head _)))))))))))))))))))))))
theorem wk_wsX2_stepsByGraph_0_23 : Cond.selects RX2 yX2_areNeighbours yX2_areNeighbours ∈ wsX2_stepsByGraph := lf_wsX2_stepsByGraph_0 _ (List.Mem.tail _ (List.Mem.tail _ (List.Mem.tail _ (List.Mem.tail _ (List.Mem.tail _ (List.Mem.tail _ (List.Mem.tail _ (List.Mem.tail _ (List.Mem.tail _ (List.Mem.tail _ (List.Mem.tail _ (List.Mem.tail _ (List.Mem.tail _ (List.Mem.tail _ (List.Mem.tail _ (List.Mem.tail _ (List.Mem.tail _ (List.Mem.tail _ (List.Mem.tail _ (List.Mem.tail _ (List.Mem.tail _ (List.Mem.tail _ (List.Mem.tail _ (List.Mem.head _))))))))))))))))))))))))
theorem wk_wsX2_stepsByGraph_1_0 : Cond.code yX2_areNeighbours cX2_areNeighbours 3 (some .boolean) ∈ wsX2_stepsByGraph := lf_wsX2_stepsByGraph_1 _ (List.Mem.head _)
theorem wk_wsX2_stepsByGraph_1_1 : Cond.fieldLink RX2 9 "TimeNet" "domainOf" "[I" ∈ wsX2_stepsByGraph := lf_wsX2_stepsByGraph_1 _ (List.Mem.tail _ (List.Mem.head _))
theorem wk_wsX2_stepsByGraph_1_2 : Cond.fieldLink RX2 32 "TimeNet" "wires" "LTimeNet$Wires;" ∈ wsX2_stepsByGraph := lf_wsX2_stepsByGraph_1 _ (List.Mem.tail _ (List.Mem.tail _ (List.Mem.head _)))
theorem wk_wsX2_stepsByGraph_1_3 : Cond.instanceMethod yX1_areLinked ∈ wsX2_stepsByGraph := lf_wsX2_stepsByGraph_1 _ (List.Mem.tail _ (List.Mem.tail _ (List.Mem.tail _ (List.Mem.head _))))
theorem wk_wsX2_stepsByGraph_1_4 : Cond.initialized RX1 ∈ wsX2_stepsByGraph := lf_wsX2_stepsByGraph_1 _ (List.Mem.tail _ (List.Mem.tail _ (List.Mem.tail _ (List.Mem.tail _ (List.Mem.head _)))))
theorem wk_wsX2_stepsByGraph_1_5 : Cond.selects RX1 yX1_areLinked yX1_areLinked ∈ wsX2_stepsByGraph := lf_wsX2_stepsByGraph_1 _ (List.Mem.tail _ (List.Mem.tail _ (List.Mem.tail _ (List.Mem.tail _ (List.Mem.tail _ (List.Mem.head _))))))
theorem wk_wsX2_stepsByGraph_1_6 : Cond.code yX1_areLinked cX1_areLinked 3 (some .boolean) ∈ wsX2_stepsByGraph := lf_wsX2_stepsByGraph_1 _ (List.Mem.tail _ (List.Mem.tail _ (List.Mem.tail _ (List.Mem.tail _ (List.Mem.tail _ (List.Mem.tail _ (List.Mem.head _)))))))
theorem wk_wsX2_stepsByGraph_1_7 : Cond.fieldLink RX1 9 "TimeNet$Wires" "laid" "[Z" ∈ wsX2_stepsByGraph := lf_wsX2_stepsByGraph_1 _ (List.Mem.tail _ (List.Mem.tail _ (List.Mem.tail _ (List.Mem.tail _ (List.Mem.tail _ (List.Mem.tail _ (List.Mem.tail _ (List.Mem.head _))))))))
theorem wk_wsX2_stepsByGraph_1_8 : Cond.methodLink RX1 26 yX1_place ∈ wsX2_stepsByGraph := lf_wsX2_stepsByGraph_1 _ (List.Mem.tail _ (List.Mem.tail _ (List.Mem.tail _ (List.Mem.tail _ (List.Mem.tail _ (List.Mem.tail _ (List.Mem.tail _ (List.Mem.tail _ (List.Mem.head _)))))))))
theorem wk_wsX2_stepsByGraph_1_9 : Cond.static yX1_place ∈ wsX2_stepsByGraph := lf_wsX2_stepsByGraph_1 _ (List.Mem.tail _ (List.Mem.tail _ (List.Mem.tail _ (List.Mem.tail _ (List.Mem.tail _ (List.Mem.tail _ (List.Mem.tail _ (List.Mem.tail _ (List.Mem.tail _ (List.Mem.head _))))))))))
theorem wk_wsX2_stepsByGraph_1_10 : Cond.code yX1_place cX1_place 2 (some .int) ∈ wsX2_stepsByGraph := lf_wsX2_stepsByGraph_1 _ (List.Mem.tail _ (List.Mem.tail _ (List.Mem.tail _ (List.Mem.tail _ (List.Mem.tail _ (List.Mem.tail _ (List.Mem.tail _ (List.Mem.tail _ (List.Mem.tail _ (List.Mem.tail _ (List.Mem.head _)))))))))))
theorem wk_wsX2_stepsByGraph_0_13 : Cond.methodLink RX2 128 yX2_measureDistances ∈ wsX2_stepsByGraph := lf_wsX2_stepsByGraph_0 _ (List.Mem.tail _ (List.Mem.tail _ (List.Mem.tail _ (List.Mem.tail _ (List.Mem.tail _ (List.Mem.tail _ (List.Mem.tail _ (List.Mem.tail _ (List.Mem.tail _ (List.Mem.tail _ (List.Mem.tail _ (List.Mem.tail _ (List.Mem.tail _ (List.Mem.head _))))))))))))))
theorem wk_wsX2_stepsByGraph_0_14 : Cond.instanceMethod yX2_measureDistances ∈ wsX2_stepsByGraph := lf_wsX2_stepsByGraph_0 _ (List.Mem.tail _ (List.Mem.tail _ (List.Mem.tail _ (List.Mem.tail _ (List.Mem.tail _ (List.Mem.tail _ (List.Mem.tail _ (List.Mem.tail _ (List.Mem.tail _ (List.Mem.tail _ (List.Mem.tail _ (List.Mem.tail _ (List.Mem.tail _ (List.Mem.tail _ (List.Mem.head _)))))))))))))))
theorem wk_wsX2_stepsByGraph_0_15 : Cond.selects RX2 yX2_measureDistances yX2_measureDistances ∈ wsX2_stepsByGraph := lf_wsX2_stepsByGraph_0 _ (List.Mem.tail _ (List.Mem.tail _ (List.Mem.tail _ (List.Mem.tail _ (List.Mem.tail _ (List.Mem.tail _ (List.Mem.tail _ (List.Mem.tail _ (List.Mem.tail _ (List.Mem.tail _ (List.Mem.tail _ (List.Mem.tail _ (List.Mem.tail _ (List.Mem.tail _ (List.Mem.tail _ (List.Mem.head _))))))))))))))))
theorem wk_wsX2_stepsByGraph_1_14 : Cond.code yX2_bestInReach cX2_bestInReach 4 (some .int) ∈ wsX2_stepsByGraph := lf_wsX2_stepsByGraph_1 _ (List.Mem.tail _ (List.Mem.tail _ (List.Mem.tail _ (List.Mem.tail _ (List.Mem.tail _ (List.Mem.tail _ (List.Mem.tail _ (List.Mem.tail _ (List.Mem.tail _ (List.Mem.tail _ (List.Mem.tail _ (List.Mem.tail _ (List.Mem.tail _ (List.Mem.tail _ (List.Mem.head _)))))))))))))))
theorem wk_wsX2_stepsByGraph_1_15 : Cond.methodLink RX2 157 yX2_rankOf ∈ wsX2_stepsByGraph := lf_wsX2_stepsByGraph_1 _ (List.Mem.tail _ (List.Mem.tail _ (List.Mem.tail _ (List.Mem.tail _ (List.Mem.tail _ (List.Mem.tail _ (List.Mem.tail _ (List.Mem.tail _ (List.Mem.tail _ (List.Mem.tail _ (List.Mem.tail _ (List.Mem.tail _ (List.Mem.tail _ (List.Mem.tail _ (List.Mem.tail _ (List.Mem.head _))))))))))))))))
theorem wk_wsX2_stepsByGraph_1_16 : Cond.instanceMethod yX2_rankOf ∈ wsX2_stepsByGraph := lf_wsX2_stepsByGraph_1 _ (List.Mem.tail _ (List.Mem.tail _ (List.Mem.tail _ (List.Mem.tail _ (List.Mem.tail _ (List.Mem.tail _ (List.Mem.tail _ (List.Mem.tail _ (List.Mem.tail _ (List.Mem.tail _ (List.Mem.tail _ (List.Mem.tail _ (List.Mem.tail _ (List.Mem.tail _ (List.Mem.tail _ (List.Mem.tail _ (List.Mem.head _)))))))))))))))))
theorem wk_wsX2_stepsByGraph_1_17 : Cond.selects RX2 yX2_rankOf yX2_rankOf ∈ wsX2_stepsByGraph := lf_wsX2_stepsByGraph_1 _ (List.Mem.tail _ (List.Mem.tail _ (List.Mem.tail _ (List.Mem.tail _ (List.Mem.tail _ (List.Mem.tail _ (List.Mem.tail _ (List.Mem.tail _ (List.Mem.tail _ (List.Mem.tail _ (List.Mem.tail _ (List.Mem.tail _ (List.Mem.tail _ (List.Mem.tail _ (List.Mem.tail _ (List.Mem.tail _ (List.Mem.tail _ (List.Mem.head _))))))))))))))))))
theorem wk_wsX2_stepsByGraph_1_18 : Cond.code yX2_rankOf cX2_rankOf 2 (some .int) ∈ wsX2_stepsByGraph := lf_wsX2_stepsByGraph_1 _ (List.Mem.tail _ (List.Mem.tail _ (List.Mem.tail _ (List.Mem.tail _ (List.Mem.tail _ (List.Mem.tail _ (List.Mem.tail _ (List.Mem.tail _ (List.Mem.tail _ (List.Mem.tail _ (List.Mem.tail _ (List.Mem.tail _ (List.Mem.tail _ (List.Mem.tail _ (List.Mem.tail _ (List.Mem.tail _ (List.Mem.tail _ (List.Mem.tail _ (List.Mem.head _)))))))))))))))))))
theorem wk_wsX2_stepsByGraph_1_19 : Cond.fieldLink RX2 13 "TimeNet" "gradeOf" "[I" ∈ wsX2_stepsByGraph := lf_wsX2_stepsByGraph_1 _ (List.Mem.tail _ (List.Mem.tail _ (List.Mem.tail _ (List.Mem.tail _ (List.Mem.tail _ (List.Mem.tail _ (List.Mem.tail _ (List.Mem.tail _ (List.Mem.tail _ (List.Mem.tail _ (List.Mem.tail _ (List.Mem.tail _ (List.Mem.tail _ (List.Mem.tail _ (List.Mem.tail _ (List.Mem.tail _ (List.Mem.tail _ (List.Mem.tail _ (List.Mem.tail _ (List.Mem.head _))))))))))))))))))))
theorem wk_wsX2_stepsByGraph_1_20 : Cond.fieldLink RX2 16 "TimeNet" "varianceOf" "[I" ∈ wsX2_stepsByGraph := lf_wsX2_stepsByGraph_1 _ (List.Mem.tail _ (List.Mem.tail _ (List.Mem.tail _ (List.Mem.tail _ (List.Mem.tail _ (List.Mem.tail _ (List.Mem.tail _ (List.Mem.tail _ (List.Mem.tail _ (List.Mem.tail _ (List.Mem.tail _ (List.Mem.tail _ (List.Mem.tail _ (List.Mem.tail _ (List.Mem.tail _ (List.Mem.tail _ (List.Mem.tail _ (List.Mem.tail _ (List.Mem.tail _ (List.Mem.tail _ (List.Mem.head _)))))))))))))))))))))
theorem wk_wsX2_stepsByGraph_1_11 : Cond.methodLink RX2 131 yX2_bestInReach ∈ wsX2_stepsByGraph := lf_wsX2_stepsByGraph_1 _ (List.Mem.tail _ (List.Mem.tail _ (List.Mem.tail _ (List.Mem.tail _ (List.Mem.tail _ (List.Mem.tail _ (List.Mem.tail _ (List.Mem.tail _ (List.Mem.tail _ (List.Mem.tail _ (List.Mem.tail _ (List.Mem.head _))))))))))))
theorem wk_wsX2_stepsByGraph_1_12 : Cond.instanceMethod yX2_bestInReach ∈ wsX2_stepsByGraph := lf_wsX2_stepsByGraph_1 _ (List.Mem.tail _ (List.Mem.tail _ (List.Mem.tail _ (List.Mem.tail _ (List.Mem.tail _ (List.Mem.tail _ (List.Mem.tail _ (List.Mem.tail _ (List.Mem.tail _ (List.Mem.tail _ (List.Mem.tail _ (List.Mem.tail _ (List.Mem.head _)))))))))))))
theorem wk_wsX2_stepsByGraph_1_13 : Cond.selects RX2 yX2_bestInReach yX2_bestInReach ∈ wsX2_stepsByGraph := lf_wsX2_stepsByGraph_1 _ (List.Mem.tail _ (List.Mem.tail _ (List.Mem.tail _ (List.Mem.tail _ (List.Mem.tail _ (List.Mem.tail _ (List.Mem.tail _ (List.Mem.tail _ (List.Mem.tail _ (List.Mem.tail _ (List.Mem.tail _ (List.Mem.tail _ (List.Mem.tail _ (List.Mem.head _))))))))))))))
theorem lf_wsX2_isSettled_0 : ∀ w ∈ wsX2_isSettled_r1, w ∈ wsX2_isSettled := fun w h => (List.mem_cons_of_mem _ (List.mem_append_left _ (List.mem_append_left _ (List.mem_append_left _ (List.mem_append_left _ h)))))
theorem lf_wsX2_isSettled_1 : ∀ w ∈ wsX2_isSettled_r2, w ∈ wsX2_isSettled := fun w h => (List.mem_cons_of_mem _ (List.mem_append_left _ (List.mem_append_left _ (List.mem_append_left _ (List.mem_append_right _ h)))))
theorem lf_wsX2_isSettled_2 : ∀ w ∈ wsX20, w ∈ wsX2_isSettled := fun w h => (List.mem_cons_of_mem _ (List.mem_append_left _ (List.mem_append_left _ (List.mem_append_right _ h))))
theorem lf_wsX2_isSettled_3 : ∀ w ∈ wsX00, w ∈ wsX2_isSettled := fun w h => (List.mem_cons_of_mem _ (List.mem_append_left _ (List.mem_append_right _ h)))
theorem lf_wsX2_isSettled_4 : ∀ w ∈ wsX10, w ∈ wsX2_isSettled := fun w h => (List.mem_cons_of_mem _ (List.mem_append_right _ h))
theorem wk_wsX2_isSettled_0_7 : Cond.code yX2_measureDistances cX2_measureDistances 4 none ∈ wsX2_isSettled := lf_wsX2_isSettled_0 _ (List.Mem.tail _ (List.Mem.tail _ (List.Mem.tail _ (List.Mem.tail _ (List.Mem.tail _ (List.Mem.tail _ (List.Mem.tail _ (List.Mem.head _))))))))
theorem wk_wsX2_isSettled_0_0 : Cond.fieldLink RX2 49 "TimeNet" "nodeCount" "I" ∈ wsX2_isSettled := lf_wsX2_isSettled_0 _ (List.Mem.head _)
theorem wk_wsX2_isSettled_0_2 : Cond.fieldLink RX2 46 "TimeNet" "distanceTo" "[I" ∈ wsX2_isSettled := lf_wsX2_isSettled_0 _ (List.Mem.tail _ (List.Mem.tail _ (List.Mem.head _)))
theorem wk_wsX2_isSettled_0_8 : Cond.methodLink RX2 177 yX2_reachNeighbours ∈ wsX2_isSettled := lf_wsX2_isSettled_0 _ (List.Mem.tail _ (List.Mem.tail _ (List.Mem.tail _ (List.Mem.tail _ (List.Mem.tail _ (List.Mem.tail _ (List.Mem.tail _ (List.Mem.tail _ (List.Mem.head _)))))))))
theorem wk_wsX2_isSettled_0_9 : Cond.instanceMethod yX2_reachNeighbours ∈ wsX2_isSettled := lf_wsX2_isSettled_0 _ (List.Mem.tail _ (List.Mem.tail _ (List.Mem.tail _ (List.Mem.tail _ (List.Mem.tail _ (List.Mem.tail _ (List.Mem.tail _ (List.Mem.tail _ (List.Mem.tail _ (List.Mem.head _))))))))))
theorem wk_wsX2_isSettled_0_10 : Cond.selects RX2 yX2_reachNeighbours yX2_reachNeighbours ∈ wsX2_isSettled := lf_wsX2_isSettled_0 _ (List.Mem.tail _ (List.Mem.tail _ (List.Mem.tail _ (List.Mem.tail _ (List.Mem.tail _ (List.Mem.tail _ (List.Mem.tail _ (List.Mem.tail _ (List.Mem.tail _ (List.Mem.tail _ (List.Mem.head _)))))))))))
theorem wk_wsX2_isSettled_0_6 : Cond.initialized RX2 ∈ wsX2_isSettled := lf_wsX2_isSettled_0 _ (List.Mem.tail _ (List.Mem.tail _ (List.Mem.tail _ (List.Mem.tail _ (List.Mem.tail _ (List.Mem.tail _ (List.Mem.head _)))))))
theorem wk_wsX2_isSettled_0_11 : Cond.code yX2_reachNeighbours cX2_reachNeighbours 4 none ∈ wsX2_isSettled := lf_wsX2_isSettled_0 _ (List.Mem.tail _ (List.Mem.tail _ (List.Mem.tail _ (List.Mem.tail _ (List.Mem.tail _ (List.Mem.tail _ (List.Mem.tail _ (List.Mem.tail _ (List.Mem.tail _ (List.Mem.tail _ (List.Mem.tail _ (List.Mem.head _))))))))))))
theorem wk_wsX2_isSettled_0_12 : Cond.methodLink RX2 122 yX2_areNeighbours ∈ wsX2_isSettled := lf_wsX2_isSettled_0 _ (List.Mem.tail _ (List.Mem.tail _ (List.Mem.tail _ (List.Mem.tail _ (List.Mem.tail _ (List.Mem.tail _ (List.Mem.tail _ (List.Mem.tail _ (List.Mem.tail _ (List.Mem.tail _ (List.Mem.tail _ (List.Mem.tail _ (List.Mem.head _)))))))))))))
theorem wk_wsX2_isSettled_0_13 : Cond.instanceMethod yX2_areNeighbours ∈ wsX2_isSettled := lf_wsX2_isSettled_0 _ (List.Mem.tail _ (List.Mem.tail _ (List.Mem.tail _ (List.Mem.tail _ (List.Mem.tail _ (List.Mem.tail _ (List.Mem.tail _ (List.Mem.tail _ (List.Mem.tail _ (List.Mem.tail _ (List.Mem.tail _ (List.Mem.tail _ (List.Mem.tail _ (List.Mem.head _))))))))))))))
theorem wk_wsX2_isSettled_0_14 : Cond.selects RX2 yX2_areNeighbours yX2_areNeighbours ∈ wsX2_isSettled := lf_wsX2_isSettled_0 _ (List.Mem.tail _ (List.Mem.tail _ (List.Mem.tail _ (List.Mem.tail _ (List.Mem.tail _ (List.Mem.tail _ (List.Mem.tail _ (List.Mem.tail _ (List.Mem.tail _ (List.Mem.tail _ (List.Mem.tail _ (List.Mem.tail _ (List.Mem.tail _ (List.Mem.tail _ (List.Mem.head _)))))))))))))))
theorem wk_wsX2_isSettled_0_15 : Cond.code yX2_areNeighbours cX2_areNeighbours 3 (some .boolean) ∈ wsX2_isSettled := lf_wsX2_isSettled_0 _ (List.Mem.tail _ (List.Mem.tail _ (List.Mem.tail _ (List.Mem.tail _ (List.Mem.tail _ (List.Mem.tail _ (List.Mem.tail _ (List.Mem.tail _ (List.Mem.tail _ (List.Mem.tail _ (List.Mem.tail _ (List.Mem.tail _ (List.Mem.tail _ (List.Mem.tail _ (List.Mem.tail _ (List.Mem.head _))))))))))))))))
theorem wk_wsX2_isSettled_0_16 : Cond.fieldLink RX2 9 "TimeNet" "domainOf" "[I" ∈ wsX2_isSettled := lf_wsX2_isSettled_0 _ (List.Mem.tail _ (List.Mem.tail _ (List.Mem.tail _ (List.Mem.tail _ (List.Mem.tail _ (List.Mem.tail _ (List.Mem.tail _ (List.Mem.tail _ (List.Mem.tail _ (List.Mem.tail _ (List.Mem.tail _ (List.Mem.tail _ (List.Mem.tail _ (List.Mem.tail _ (List.Mem.tail _ (List.Mem.tail _ (List.Mem.head _)))))))))))))))))
theorem wk_wsX2_isSettled_0_17 : Cond.fieldLink RX2 32 "TimeNet" "wires" "LTimeNet$Wires;" ∈ wsX2_isSettled := lf_wsX2_isSettled_0 _ (List.Mem.tail _ (List.Mem.tail _ (List.Mem.tail _ (List.Mem.tail _ (List.Mem.tail _ (List.Mem.tail _ (List.Mem.tail _ (List.Mem.tail _ (List.Mem.tail _ (List.Mem.tail _ (List.Mem.tail _ (List.Mem.tail _ (List.Mem.tail _ (List.Mem.tail _ (List.Mem.tail _ (List.Mem.tail _ (List.Mem.tail _ (List.Mem.head _))))))))))))))))))
theorem wk_wsX2_isSettled_0_18 : Cond.instanceMethod yX1_areLinked ∈ wsX2_isSettled := lf_wsX2_isSettled_0 _ (List.Mem.tail _ (List.Mem.tail _ (List.Mem.tail _ (List.Mem.tail _ (List.Mem.tail _ (List.Mem.tail _ (List.Mem.tail _ (List.Mem.tail _ (List.Mem.tail _ (List.Mem.tail _ (List.Mem.tail _ (List.Mem.tail _ (List.Mem.tail _ (List.Mem.tail _ (List.Mem.tail _ (List.Mem.tail _ (List.Mem.tail _ (List.Mem.tail _ (List.Mem.head _)))))))))))))))))))
theorem wk_wsX2_isSettled_0_19 : Cond.initialized RX1 ∈ wsX2_isSettled := lf_wsX2_isSettled_0 _ (List.Mem.tail _ (List.Mem.tail _ (List.Mem.tail _ (List.Mem.tail _ (List.Mem.tail _ (List.Mem.tail _ (List.Mem.tail _ (List.Mem.tail _ (List.Mem.tail _ (List.Mem.tail _ (List.Mem.tail _ (List.Mem.tail _ (List.Mem.tail _ (List.Mem.tail _ (List.Mem.tail _ (List.Mem.tail _ (List.Mem.tail _ (List.Mem.tail _ (List.Mem.tail _ (List.Mem.head _))))))))))))))))))))
theorem wk_wsX2_isSettled_0_20 : Cond.selects RX1 yX1_areLinked yX1_areLinked ∈ wsX2_isSettled := lf_wsX2_isSettled_0 _ (List.Mem.tail _ (List.Mem.tail _ (List.Mem.tail _ (List.Mem.tail _ (List.Mem.tail _ (List.Mem.tail _ (List.Mem.tail _ (List.Mem.tail _ (List.Mem.tail _ (List.Mem.tail _ (List.Mem.tail _ (List.Mem.tail _ (List.Mem.tail _ (List.Mem.tail _ (List.Mem.tail _ (List.Mem.tail _ (List.Mem.tail _ (List.Mem.tail _ (List.Mem.tail _ (List.Mem.tail _ (List.Mem.head _)))))))))))))))))))))
theorem wk_wsX2_isSettled_0_21 : Cond.code yX1_areLinked cX1_areLinked 3 (some .boolean) ∈ wsX2_isSettled := lf_wsX2_isSettled_0 _ (List.Mem.tail _ (List.Mem.tail _ (List.Mem.tail _ (List.Mem.tail _ (List.Mem.tail _ (List.Mem.tail _ (List.Mem.tail _ (List.Mem.tail _ (List.Mem.tail _ (List.Mem.tail _ (List.Mem.tail _ (List.Mem.tail _ (List.Mem.tail _ (List.Mem.tail _ (List.Mem.tail _ (List.Mem.tail _ (List.Mem.tail _ (List.Mem.tail _ (List.Mem.tail _ (List.Mem.tail _ (List.Mem.tail _ (List.Mem.head _))))))))))))))))))))))
theorem wk_wsX2_isSettled_0_22 : Cond.fieldLink RX1 9 "TimeNet$Wires" "laid" "[Z" ∈ wsX2_isSettled := lf_wsX2_isSettled_0 _ (List.Mem.tail _ (List.Mem.tail _ (List.Mem.tail _ (List.Mem.tail _ (List.Mem.tail _ (List.Mem.tail _ (List.Mem.tail _ (List.Mem.tail _ (List.Mem.tail _ (List.Mem.tail _ (List.Mem.tail _ (List.Mem.tail _ (List.Mem.tail _ (List.Mem.tail _ (List.Mem.tail _ (List.Mem.tail _ (List.Mem.tail _ (List.Mem.tail _ (List.Mem.tail _ (List.Mem.tail _ (List.Mem.tail _ (List.Mem.tail _ (List.Mem.head _)))))))))))))))))))))))
theorem wk_wsX2_isSettled_0_23 : Cond.methodLink RX1 26 yX1_place ∈ wsX2_isSettled := lf_wsX2_isSettled_0 _ (List.Mem.tail _ (List.Mem.tail _ (List.Mem.tail _ (List.Mem.tail _ (List.Mem.tail _ (List.Mem.tail _ (List.Mem.tail _ (List.Mem.tail _ (List.Mem.tail _ (List.Mem.tail _ (List.Mem.tail _ (List.Mem.tail _ (List.Mem.tail _ (List.Mem.tail _ (List.Mem.tail _ (List.Mem.tail _ (List.Mem.tail _ (List.Mem.tail _ (List.Mem.tail _ (List.Mem.tail _ (List.Mem.tail _ (List.Mem.tail _ (List.Mem.tail _ (List.Mem.head _))))))))))))))))))))))))
theorem wk_wsX2_isSettled_1_0 : Cond.static yX1_place ∈ wsX2_isSettled := lf_wsX2_isSettled_1 _ (List.Mem.head _)
theorem wk_wsX2_isSettled_1_1 : Cond.code yX1_place cX1_place 2 (some .int) ∈ wsX2_isSettled := lf_wsX2_isSettled_1 _ (List.Mem.tail _ (List.Mem.head _))
theorem wk_wsX2_isSettled_0_3 : Cond.methodLink RX2 128 yX2_measureDistances ∈ wsX2_isSettled := lf_wsX2_isSettled_0 _ (List.Mem.tail _ (List.Mem.tail _ (List.Mem.tail _ (List.Mem.head _))))
theorem wk_wsX2_isSettled_0_4 : Cond.instanceMethod yX2_measureDistances ∈ wsX2_isSettled := lf_wsX2_isSettled_0 _ (List.Mem.tail _ (List.Mem.tail _ (List.Mem.tail _ (List.Mem.tail _ (List.Mem.head _)))))
theorem wk_wsX2_isSettled_0_5 : Cond.selects RX2 yX2_measureDistances yX2_measureDistances ∈ wsX2_isSettled := lf_wsX2_isSettled_0 _ (List.Mem.tail _ (List.Mem.tail _ (List.Mem.tail _ (List.Mem.tail _ (List.Mem.tail _ (List.Mem.head _))))))
theorem wk_wsX2_isSettled_1_5 : Cond.code yX2_bestInReach cX2_bestInReach 4 (some .int) ∈ wsX2_isSettled := lf_wsX2_isSettled_1 _ (List.Mem.tail _ (List.Mem.tail _ (List.Mem.tail _ (List.Mem.tail _ (List.Mem.tail _ (List.Mem.head _))))))
theorem wk_wsX2_isSettled_1_6 : Cond.methodLink RX2 157 yX2_rankOf ∈ wsX2_isSettled := lf_wsX2_isSettled_1 _ (List.Mem.tail _ (List.Mem.tail _ (List.Mem.tail _ (List.Mem.tail _ (List.Mem.tail _ (List.Mem.tail _ (List.Mem.head _)))))))
theorem wk_wsX2_isSettled_1_7 : Cond.instanceMethod yX2_rankOf ∈ wsX2_isSettled := lf_wsX2_isSettled_1 _ (List.Mem.tail _ (List.Mem.tail _ (List.Mem.tail _ (List.Mem.tail _ (List.Mem.tail _ (List.Mem.tail _ (List.Mem.tail _ (List.Mem.head _))))))))
theorem wk_wsX2_isSettled_1_8 : Cond.selects RX2 yX2_rankOf yX2_rankOf ∈ wsX2_isSettled := lf_wsX2_isSettled_1 _ (List.Mem.tail _ (List.Mem.tail _ (List.Mem.tail _ (List.Mem.tail _ (List.Mem.tail _ (List.Mem.tail _ (List.Mem.tail _ (List.Mem.tail _ (List.Mem.head _)))))))))
theorem wk_wsX2_isSettled_1_9 : Cond.code yX2_rankOf cX2_rankOf 2 (some .int) ∈ wsX2_isSettled := lf_wsX2_isSettled_1 _ (List.Mem.tail _ (List.Mem.tail _ (List.Mem.tail _ (List.Mem.tail _ (List.Mem.tail _ (List.Mem.tail _ (List.Mem.tail _ (List.Mem.tail _ (List.Mem.tail _ (List.Mem.head _))))))))))
theorem wk_wsX2_isSettled_1_10 : Cond.fieldLink RX2 13 "TimeNet" "gradeOf" "[I" ∈ wsX2_isSettled := lf_wsX2_isSettled_1 _ (List.Mem.tail _ (List.Mem.tail _ (List.Mem.tail _ (List.Mem.tail _ (List.Mem.tail _ (List.Mem.tail _ (List.Mem.tail _ (List.Mem.tail _ (List.Mem.tail _ (List.Mem.tail _ (List.Mem.head _)))))))))))
theorem wk_wsX2_isSettled_1_11 : Cond.fieldLink RX2 16 "TimeNet" "varianceOf" "[I" ∈ wsX2_isSettled := lf_wsX2_isSettled_1 _ (List.Mem.tail _ (List.Mem.tail _ (List.Mem.tail _ (List.Mem.tail _ (List.Mem.tail _ (List.Mem.tail _ (List.Mem.tail _ (List.Mem.tail _ (List.Mem.tail _ (List.Mem.tail _ (List.Mem.tail _ (List.Mem.head _))))))))))))
theorem wk_wsX2_isSettled_1_2 : Cond.methodLink RX2 131 yX2_bestInReach ∈ wsX2_isSettled := lf_wsX2_isSettled_1 _ (List.Mem.tail _ (List.Mem.tail _ (List.Mem.head _)))
theorem wk_wsX2_isSettled_1_3 : Cond.instanceMethod yX2_bestInReach ∈ wsX2_isSettled := lf_wsX2_isSettled_1 _ (List.Mem.tail _ (List.Mem.tail _ (List.Mem.tail _ (List.Mem.head _))))
theorem wk_wsX2_isSettled_1_4 : Cond.selects RX2 yX2_bestInReach yX2_bestInReach ∈ wsX2_isSettled := lf_wsX2_isSettled_1 _ (List.Mem.tail _ (List.Mem.tail _ (List.Mem.tail _ (List.Mem.tail _ (List.Mem.head _)))))
theorem lf_wsX2_offset_0 : ∀ w ∈ ([.fieldLink RX2 22 "TimeNet" "offsetOf" "[J", .methodLink RX2 71 yX2_requireNode, .instanceMethod yX2_requireNode, .selects RX2 yX2_requireNode yX2_requireNode, .initialized RX2, .code yX2_requireNode cX2_requireNode 2 none, .classLink RX2 148 "java/lang/IndexOutOfBoundsException", .initialized "java/lang/IndexOutOfBoundsException", .methodLink RX2 144 yX2_isNode, .instanceMethod yX2_isNode, .selects RX2 yX2_isNode yX2_isNode, .code yX2_isNode cX2_isNode 2 (some .boolean), .fieldLink RX2 49 "TimeNet" "nodeCount" "I"] : List Cond), w ∈ wsX2_offset := fun w h => (List.mem_cons_of_mem _ (List.mem_append_left _ (List.mem_append_left _ h)))
theorem lf_wsX2_offset_1 : ∀ w ∈ wsX20, w ∈ wsX2_offset := fun w h => (List.mem_cons_of_mem _ (List.mem_append_left _ (List.mem_append_right _ h)))
theorem wk_wsX2_offset_0_5 : Cond.code yX2_requireNode cX2_requireNode 2 none ∈ wsX2_offset := lf_wsX2_offset_0 _ (List.Mem.tail _ (List.Mem.tail _ (List.Mem.tail _ (List.Mem.tail _ (List.Mem.tail _ (List.Mem.head _))))))
theorem wk_wsX2_offset_0_6 : Cond.classLink RX2 148 "java/lang/IndexOutOfBoundsException" ∈ wsX2_offset := lf_wsX2_offset_0 _ (List.Mem.tail _ (List.Mem.tail _ (List.Mem.tail _ (List.Mem.tail _ (List.Mem.tail _ (List.Mem.tail _ (List.Mem.head _)))))))
theorem wk_wsX2_offset_0_7 : Cond.initialized "java/lang/IndexOutOfBoundsException" ∈ wsX2_offset := lf_wsX2_offset_0 _ (List.Mem.tail _ (List.Mem.tail _ (List.Mem.tail _ (List.Mem.tail _ (List.Mem.tail _ (List.Mem.tail _ (List.Mem.tail _ (List.Mem.head _))))))))
theorem wk_wsX2_offset_0_8 : Cond.methodLink RX2 144 yX2_isNode ∈ wsX2_offset := lf_wsX2_offset_0 _ (List.Mem.tail _ (List.Mem.tail _ (List.Mem.tail _ (List.Mem.tail _ (List.Mem.tail _ (List.Mem.tail _ (List.Mem.tail _ (List.Mem.tail _ (List.Mem.head _)))))))))
theorem wk_wsX2_offset_0_9 : Cond.instanceMethod yX2_isNode ∈ wsX2_offset := lf_wsX2_offset_0 _ (List.Mem.tail _ (List.Mem.tail _ (List.Mem.tail _ (List.Mem.tail _ (List.Mem.tail _ (List.Mem.tail _ (List.Mem.tail _ (List.Mem.tail _ (List.Mem.tail _ (List.Mem.head _))))))))))
theorem wk_wsX2_offset_0_10 : Cond.selects RX2 yX2_isNode yX2_isNode ∈ wsX2_offset := lf_wsX2_offset_0 _ (List.Mem.tail _ (List.Mem.tail _ (List.Mem.tail _ (List.Mem.tail _ (List.Mem.tail _ (List.Mem.tail _ (List.Mem.tail _ (List.Mem.tail _ (List.Mem.tail _ (List.Mem.tail _ (List.Mem.head _)))))))))))
theorem wk_wsX2_offset_0_4 : Cond.initialized RX2 ∈ wsX2_offset := lf_wsX2_offset_0 _ (List.Mem.tail _ (List.Mem.tail _ (List.Mem.tail _ (List.Mem.tail _ (List.Mem.head _)))))
theorem wk_wsX2_offset_0_11 : Cond.code yX2_isNode cX2_isNode 2 (some .boolean) ∈ wsX2_offset := lf_wsX2_offset_0 _ (List.Mem.tail _ (List.Mem.tail _ (List.Mem.tail _ (List.Mem.tail _ (List.Mem.tail _ (List.Mem.tail _ (List.Mem.tail _ (List.Mem.tail _ (List.Mem.tail _ (List.Mem.tail _ (List.Mem.tail _ (List.Mem.head _))))))))))))
theorem wk_wsX2_offset_0_12 : Cond.fieldLink RX2 49 "TimeNet" "nodeCount" "I" ∈ wsX2_offset := lf_wsX2_offset_0 _ (List.Mem.tail _ (List.Mem.tail _ (List.Mem.tail _ (List.Mem.tail _ (List.Mem.tail _ (List.Mem.tail _ (List.Mem.tail _ (List.Mem.tail _ (List.Mem.tail _ (List.Mem.tail _ (List.Mem.tail _ (List.Mem.tail _ (List.Mem.head _)))))))))))))
theorem wk_wsX2_offset_0_1 : Cond.methodLink RX2 71 yX2_requireNode ∈ wsX2_offset := lf_wsX2_offset_0 _ (List.Mem.tail _ (List.Mem.head _))
theorem wk_wsX2_offset_0_2 : Cond.instanceMethod yX2_requireNode ∈ wsX2_offset := lf_wsX2_offset_0 _ (List.Mem.tail _ (List.Mem.tail _ (List.Mem.head _)))
theorem wk_wsX2_offset_0_3 : Cond.selects RX2 yX2_requireNode yX2_requireNode ∈ wsX2_offset := lf_wsX2_offset_0 _ (List.Mem.tail _ (List.Mem.tail _ (List.Mem.tail _ (List.Mem.head _))))
theorem lf_wsX2_rate_0 : ∀ w ∈ ([.fieldLink RX2 26 "TimeNet" "rateOf" "[J", .methodLink RX2 71 yX2_requireNode, .instanceMethod yX2_requireNode, .selects RX2 yX2_requireNode yX2_requireNode, .initialized RX2, .code yX2_requireNode cX2_requireNode 2 none, .classLink RX2 148 "java/lang/IndexOutOfBoundsException", .initialized "java/lang/IndexOutOfBoundsException", .methodLink RX2 144 yX2_isNode, .instanceMethod yX2_isNode, .selects RX2 yX2_isNode yX2_isNode, .code yX2_isNode cX2_isNode 2 (some .boolean), .fieldLink RX2 49 "TimeNet" "nodeCount" "I"] : List Cond), w ∈ wsX2_rate := fun w h => (List.mem_cons_of_mem _ (List.mem_append_left _ (List.mem_append_left _ h)))
theorem lf_wsX2_rate_1 : ∀ w ∈ wsX20, w ∈ wsX2_rate := fun w h => (List.mem_cons_of_mem _ (List.mem_append_left _ (List.mem_append_right _ h)))
theorem wk_wsX2_rate_0_5 : Cond.code yX2_requireNode cX2_requireNode 2 none ∈ wsX2_rate := lf_wsX2_rate_0 _ (List.Mem.tail _ (List.Mem.tail _ (List.Mem.tail _ (List.Mem.tail _ (List.Mem.tail _ (List.Mem.head _))))))
theorem wk_wsX2_rate_0_6 : Cond.classLink RX2 148 "java/lang/IndexOutOfBoundsException" ∈ wsX2_rate := lf_wsX2_rate_0 _ (List.Mem.tail _ (List.Mem.tail _ (List.Mem.tail _ (List.Mem.tail _ (List.Mem.tail _ (List.Mem.tail _ (List.Mem.head _)))))))
theorem wk_wsX2_rate_0_7 : Cond.initialized "java/lang/IndexOutOfBoundsException" ∈ wsX2_rate := lf_wsX2_rate_0 _ (List.Mem.tail _ (List.Mem.tail _ (List.Mem.tail _ (List.Mem.tail _ (List.Mem.tail _ (List.Mem.tail _ (List.Mem.tail _ (List.Mem.head _))))))))
theorem wk_wsX2_rate_0_8 : Cond.methodLink RX2 144 yX2_isNode ∈ wsX2_rate := lf_wsX2_rate_0 _ (List.Mem.tail _ (List.Mem.tail _ (List.Mem.tail _ (List.Mem.tail _ (List.Mem.tail _ (List.Mem.tail _ (List.Mem.tail _ (List.Mem.tail _ (List.Mem.head _)))))))))
theorem wk_wsX2_rate_0_9 : Cond.instanceMethod yX2_isNode ∈ wsX2_rate := lf_wsX2_rate_0 _ (List.Mem.tail _ (List.Mem.tail _ (List.Mem.tail _ (List.Mem.tail _ (List.Mem.tail _ (List.Mem.tail _ (List.Mem.tail _ (List.Mem.tail _ (List.Mem.tail _ (List.Mem.head _))))))))))
theorem wk_wsX2_rate_0_10 : Cond.selects RX2 yX2_isNode yX2_isNode ∈ wsX2_rate := lf_wsX2_rate_0 _ (List.Mem.tail _ (List.Mem.tail _ (List.Mem.tail _ (List.Mem.tail _ (List.Mem.tail _ (List.Mem.tail _ (List.Mem.tail _ (List.Mem.tail _ (List.Mem.tail _ (List.Mem.tail _ (List.Mem.head _)))))))))))
theorem wk_wsX2_rate_0_4 : Cond.initialized RX2 ∈ wsX2_rate := lf_wsX2_rate_0 _ (List.Mem.tail _ (List.Mem.tail _ (List.Mem.tail _ (List.Mem.tail _ (List.Mem.head _)))))
theorem wk_wsX2_rate_0_11 : Cond.code yX2_isNode cX2_isNode 2 (some .boolean) ∈ wsX2_rate := lf_wsX2_rate_0 _ (List.Mem.tail _ (List.Mem.tail _ (List.Mem.tail _ (List.Mem.tail _ (List.Mem.tail _ (List.Mem.tail _ (List.Mem.tail _ (List.Mem.tail _ (List.Mem.tail _ (List.Mem.tail _ (List.Mem.tail _ (List.Mem.head _))))))))))))
theorem wk_wsX2_rate_0_12 : Cond.fieldLink RX2 49 "TimeNet" "nodeCount" "I" ∈ wsX2_rate := lf_wsX2_rate_0 _ (List.Mem.tail _ (List.Mem.tail _ (List.Mem.tail _ (List.Mem.tail _ (List.Mem.tail _ (List.Mem.tail _ (List.Mem.tail _ (List.Mem.tail _ (List.Mem.tail _ (List.Mem.tail _ (List.Mem.tail _ (List.Mem.tail _ (List.Mem.head _)))))))))))))
theorem wk_wsX2_rate_0_1 : Cond.methodLink RX2 71 yX2_requireNode ∈ wsX2_rate := lf_wsX2_rate_0 _ (List.Mem.tail _ (List.Mem.head _))
theorem wk_wsX2_rate_0_2 : Cond.instanceMethod yX2_requireNode ∈ wsX2_rate := lf_wsX2_rate_0 _ (List.Mem.tail _ (List.Mem.tail _ (List.Mem.head _)))
theorem wk_wsX2_rate_0_3 : Cond.selects RX2 yX2_requireNode yX2_requireNode ∈ wsX2_rate := lf_wsX2_rate_0 _ (List.Mem.tail _ (List.Mem.tail _ (List.Mem.tail _ (List.Mem.head _))))
theorem lf_wsX2_spread_0 : ∀ w ∈ ([.fieldLink RX2 49 "TimeNet" "nodeCount" "I", .fieldLink RX2 9 "TimeNet" "domainOf" "[I", .fieldLink RX2 22 "TimeNet" "offsetOf" "[J", .methodLink RX2 135 Lib.MathLoose.min_long.x, .static Lib.MathLoose.min_long.x, .initialized "java/lang/Math", .code Lib.MathLoose.min_long.x Lib.MathLoose.min_long.code 4 (some .long), .methodLink RX2 141 Lib.MathLoose.max_long.x, .static Lib.MathLoose.max_long.x, .code Lib.MathLoose.max_long.x Lib.MathLoose.max_long.code 4 (some .long), .methodLink RX2 56 yX2_requireWithin, .static yX2_requireWithin, .initialized RX2, .code yX2_requireWithin cX2_requireWithin 3 none, .classLink RX2 76 "java/lang/IllegalArgumentException", .initialized "java/lang/IllegalArgumentException"] : List Cond), w ∈ wsX2_spread := fun w h => (List.mem_cons_of_mem _ (List.mem_append_left _ (List.mem_append_left _ h)))
theorem lf_wsX2_spread_1 : ∀ w ∈ wsX20, w ∈ wsX2_spread := fun w h => (List.mem_cons_of_mem _ (List.mem_append_left _ (List.mem_append_right _ h)))
theorem wk_wsX2_spread_0_13 : Cond.code yX2_requireWithin cX2_requireWithin 3 none ∈ wsX2_spread := lf_wsX2_spread_0 _ (List.Mem.tail _ (List.Mem.tail _ (List.Mem.tail _ (List.Mem.tail _ (List.Mem.tail _ (List.Mem.tail _ (List.Mem.tail _ (List.Mem.tail _ (List.Mem.tail _ (List.Mem.tail _ (List.Mem.tail _ (List.Mem.tail _ (List.Mem.tail _ (List.Mem.head _))))))))))))))
theorem wk_wsX2_spread_0_14 : Cond.classLink RX2 76 "java/lang/IllegalArgumentException" ∈ wsX2_spread := lf_wsX2_spread_0 _ (List.Mem.tail _ (List.Mem.tail _ (List.Mem.tail _ (List.Mem.tail _ (List.Mem.tail _ (List.Mem.tail _ (List.Mem.tail _ (List.Mem.tail _ (List.Mem.tail _ (List.Mem.tail _ (List.Mem.tail _ (List.Mem.tail _ (List.Mem.tail _ (List.Mem.tail _ (List.Mem.head _)))))))))))))))
theorem wk_wsX2_spread_0_15 : Cond.initialized "java/lang/IllegalArgumentException" ∈ wsX2_spread := lf_wsX2_spread_0 _ (List.Mem.tail _ (List.Mem.tail _ (List.Mem.tail _ (List.Mem.tail _ (List.Mem.tail _ (List.Mem.tail _ (List.Mem.tail _ (List.Mem.tail _ (List.Mem.tail _ (List.Mem.tail _ (List.Mem.tail _ (List.Mem.tail _ (List.Mem.tail _ (List.Mem.tail _ (List.Mem.tail _ (List.Mem.head _))))))))))))))))
theorem wk_wsX2_spread_0_10 : Cond.methodLink RX2 56 yX2_requireWithin ∈ wsX2_spread := lf_wsX2_spread_0 _ (List.Mem.tail _ (List.Mem.tail _ (List.Mem.tail _ (List.Mem.tail _ (List.Mem.tail _ (List.Mem.tail _ (List.Mem.tail _ (List.Mem.tail _ (List.Mem.tail _ (List.Mem.tail _ (List.Mem.head _)))))))))))
theorem wk_wsX2_spread_0_11 : Cond.static yX2_requireWithin ∈ wsX2_spread := lf_wsX2_spread_0 _ (List.Mem.tail _ (List.Mem.tail _ (List.Mem.tail _ (List.Mem.tail _ (List.Mem.tail _ (List.Mem.tail _ (List.Mem.tail _ (List.Mem.tail _ (List.Mem.tail _ (List.Mem.tail _ (List.Mem.tail _ (List.Mem.head _))))))))))))
theorem wk_wsX2_spread_0_12 : Cond.initialized RX2 ∈ wsX2_spread := lf_wsX2_spread_0 _ (List.Mem.tail _ (List.Mem.tail _ (List.Mem.tail _ (List.Mem.tail _ (List.Mem.tail _ (List.Mem.tail _ (List.Mem.tail _ (List.Mem.tail _ (List.Mem.tail _ (List.Mem.tail _ (List.Mem.tail _ (List.Mem.tail _ (List.Mem.head _)))))))))))))
theorem lf_wsX2_requireNode_0 : ∀ w ∈ ([.classLink RX2 148 "java/lang/IndexOutOfBoundsException", .initialized "java/lang/IndexOutOfBoundsException", .methodLink RX2 144 yX2_isNode, .instanceMethod yX2_isNode, .selects RX2 yX2_isNode yX2_isNode, .initialized RX2, .code yX2_isNode cX2_isNode 2 (some .boolean), .fieldLink RX2 49 "TimeNet" "nodeCount" "I"] : List Cond), w ∈ wsX2_requireNode := fun w h => (List.mem_cons_of_mem _ (List.mem_append_left _ (List.mem_append_left _ h)))
theorem lf_wsX2_requireNode_1 : ∀ w ∈ wsX20, w ∈ wsX2_requireNode := fun w h => (List.mem_cons_of_mem _ (List.mem_append_left _ (List.mem_append_right _ h)))
theorem wk_wsX2_requireNode_0_6 : Cond.code yX2_isNode cX2_isNode 2 (some .boolean) ∈ wsX2_requireNode := lf_wsX2_requireNode_0 _ (List.Mem.tail _ (List.Mem.tail _ (List.Mem.tail _ (List.Mem.tail _ (List.Mem.tail _ (List.Mem.tail _ (List.Mem.head _)))))))
theorem wk_wsX2_requireNode_0_7 : Cond.fieldLink RX2 49 "TimeNet" "nodeCount" "I" ∈ wsX2_requireNode := lf_wsX2_requireNode_0 _ (List.Mem.tail _ (List.Mem.tail _ (List.Mem.tail _ (List.Mem.tail _ (List.Mem.tail _ (List.Mem.tail _ (List.Mem.tail _ (List.Mem.head _))))))))
theorem wk_wsX2_requireNode_0_2 : Cond.methodLink RX2 144 yX2_isNode ∈ wsX2_requireNode := lf_wsX2_requireNode_0 _ (List.Mem.tail _ (List.Mem.tail _ (List.Mem.head _)))
theorem wk_wsX2_requireNode_0_3 : Cond.instanceMethod yX2_isNode ∈ wsX2_requireNode := lf_wsX2_requireNode_0 _ (List.Mem.tail _ (List.Mem.tail _ (List.Mem.tail _ (List.Mem.head _))))
theorem wk_wsX2_requireNode_0_4 : Cond.selects RX2 yX2_isNode yX2_isNode ∈ wsX2_requireNode := lf_wsX2_requireNode_0 _ (List.Mem.tail _ (List.Mem.tail _ (List.Mem.tail _ (List.Mem.tail _ (List.Mem.head _)))))
theorem wk_wsX2_requireNode_0_5 : Cond.initialized RX2 ∈ wsX2_requireNode := lf_wsX2_requireNode_0 _ (List.Mem.tail _ (List.Mem.tail _ (List.Mem.tail _ (List.Mem.tail _ (List.Mem.tail _ (List.Mem.head _))))))
theorem lf_wsX2_requireLinked_0 : ∀ w ∈ ([.classLink RX2 60 "java/lang/IllegalStateException", .initialized "java/lang/IllegalStateException", .fieldLink RX2 32 "TimeNet" "wires" "LTimeNet$Wires;", .instanceMethod yX1_areLinked, .initialized RX1, .selects RX1 yX1_areLinked yX1_areLinked, .code yX1_areLinked cX1_areLinked 3 (some .boolean), .fieldLink RX1 9 "TimeNet$Wires" "laid" "[Z", .methodLink RX1 26 yX1_place, .static yX1_place, .code yX1_place cX1_place 2 (some .int)] : List Cond), w ∈ wsX2_requireLinked := fun w h => (List.mem_cons_of_mem _ (List.mem_append_left _ (List.mem_append_left _ (List.mem_append_left _ h))))
theorem lf_wsX2_requireLinked_1 : ∀ w ∈ wsX20, w ∈ wsX2_requireLinked := fun w h => (List.mem_cons_of_mem _ (List.mem_append_left _ (List.mem_append_left _ (List.mem_append_right _ h))))
theorem lf_wsX2_requireLinked_2 : ∀ w ∈ wsX10, w ∈ wsX2_requireLinked := fun w h => (List.mem_cons_of_mem _ (List.mem_append_left _ (List.mem_append_right _ h)))
theorem wk_wsX2_requireLinked_0_6 : Cond.code yX1_areLinked cX1_areLinked 3 (some .boolean) ∈ wsX2_requireLinked := lf_wsX2_requireLinked_0 _ (List.Mem.tail _ (List.Mem.tail _ (List.Mem.tail _ (List.Mem.tail _ (List.Mem.tail _ (List.Mem.tail _ (List.Mem.head _)))))))
theorem wk_wsX2_requireLinked_0_7 : Cond.fieldLink RX1 9 "TimeNet$Wires" "laid" "[Z" ∈ wsX2_requireLinked := lf_wsX2_requireLinked_0 _ (List.Mem.tail _ (List.Mem.tail _ (List.Mem.tail _ (List.Mem.tail _ (List.Mem.tail _ (List.Mem.tail _ (List.Mem.tail _ (List.Mem.head _))))))))
theorem wk_wsX2_requireLinked_0_8 : Cond.methodLink RX1 26 yX1_place ∈ wsX2_requireLinked := lf_wsX2_requireLinked_0 _ (List.Mem.tail _ (List.Mem.tail _ (List.Mem.tail _ (List.Mem.tail _ (List.Mem.tail _ (List.Mem.tail _ (List.Mem.tail _ (List.Mem.tail _ (List.Mem.head _)))))))))
theorem wk_wsX2_requireLinked_0_9 : Cond.static yX1_place ∈ wsX2_requireLinked := lf_wsX2_requireLinked_0 _ (List.Mem.tail _ (List.Mem.tail _ (List.Mem.tail _ (List.Mem.tail _ (List.Mem.tail _ (List.Mem.tail _ (List.Mem.tail _ (List.Mem.tail _ (List.Mem.tail _ (List.Mem.head _))))))))))
theorem wk_wsX2_requireLinked_0_4 : Cond.initialized RX1 ∈ wsX2_requireLinked := lf_wsX2_requireLinked_0 _ (List.Mem.tail _ (List.Mem.tail _ (List.Mem.tail _ (List.Mem.tail _ (List.Mem.head _)))))
theorem wk_wsX2_requireLinked_0_10 : Cond.code yX1_place cX1_place 2 (some .int) ∈ wsX2_requireLinked := lf_wsX2_requireLinked_0 _ (List.Mem.tail _ (List.Mem.tail _ (List.Mem.tail _ (List.Mem.tail _ (List.Mem.tail _ (List.Mem.tail _ (List.Mem.tail _ (List.Mem.tail _ (List.Mem.tail _ (List.Mem.tail _ (List.Mem.head _)))))))))))
theorem lf_wsX2_areNeighbours_0 : ∀ w ∈ ([.fieldLink RX2 9 "TimeNet" "domainOf" "[I", .fieldLink RX2 32 "TimeNet" "wires" "LTimeNet$Wires;", .instanceMethod yX1_areLinked, .initialized RX1, .selects RX1 yX1_areLinked yX1_areLinked, .code yX1_areLinked cX1_areLinked 3 (some .boolean), .fieldLink RX1 9 "TimeNet$Wires" "laid" "[Z", .methodLink RX1 26 yX1_place, .static yX1_place, .code yX1_place cX1_place 2 (some .int)] : List Cond), w ∈ wsX2_areNeighbours := fun w h => (List.mem_cons_of_mem _ (List.mem_append_left _ (List.mem_append_left _ h)))
theorem lf_wsX2_areNeighbours_1 : ∀ w ∈ wsX20, w ∈ wsX2_areNeighbours := fun w h => (List.mem_cons_of_mem _ (List.mem_append_left _ (List.mem_append_right _ h)))
theorem lf_wsX2_areNeighbours_2 : ∀ w ∈ wsX10, w ∈ wsX2_areNeighbours := fun w h => (List.mem_cons_of_mem _ (List.mem_append_right _ h))
theorem wk_wsX2_areNeighbours_0_5 : Cond.code yX1_areLinked cX1_areLinked 3 (some .boolean) ∈ wsX2_areNeighbours := lf_wsX2_areNeighbours_0 _ (List.Mem.tail _ (List.Mem.tail _ (List.Mem.tail _ (List.Mem.tail _ (List.Mem.tail _ (List.Mem.head _))))))
theorem wk_wsX2_areNeighbours_0_6 : Cond.fieldLink RX1 9 "TimeNet$Wires" "laid" "[Z" ∈ wsX2_areNeighbours := lf_wsX2_areNeighbours_0 _ (List.Mem.tail _ (List.Mem.tail _ (List.Mem.tail _ (List.Mem.tail _ (List.Mem.tail _ (List.Mem.tail _ (List.Mem.head _)))))))
theorem wk_wsX2_areNeighbours_0_7 : Cond.methodLink RX1 26 yX1_place ∈ wsX2_areNeighbours := lf_wsX2_areNeighbours_0 _ (List.Mem.tail _ (List.Mem.tail _ (List.Mem.tail _ (List.Mem.tail _ (List.Mem.tail _ (List.Mem.tail _ (List.Mem.tail _ (List.Mem.head _))))))))
theorem wk_wsX2_areNeighbours_0_8 : Cond.static yX1_place ∈ wsX2_areNeighbours := lf_wsX2_areNeighbours_0 _ (List.Mem.tail _ (List.Mem.tail _ (List.Mem.tail _ (List.Mem.tail _ (List.Mem.tail _ (List.Mem.tail _ (List.Mem.tail _ (List.Mem.tail _ (List.Mem.head _)))))))))
theorem wk_wsX2_areNeighbours_0_3 : Cond.initialized RX1 ∈ wsX2_areNeighbours := lf_wsX2_areNeighbours_0 _ (List.Mem.tail _ (List.Mem.tail _ (List.Mem.tail _ (List.Mem.head _))))
theorem wk_wsX2_areNeighbours_0_9 : Cond.code yX1_place cX1_place 2 (some .int) ∈ wsX2_areNeighbours := lf_wsX2_areNeighbours_0 _ (List.Mem.tail _ (List.Mem.tail _ (List.Mem.tail _ (List.Mem.tail _ (List.Mem.tail _ (List.Mem.tail _ (List.Mem.tail _ (List.Mem.tail _ (List.Mem.tail _ (List.Mem.head _))))))))))
theorem lf_wsX2_knowOnlyItself_0 : ∀ w ∈ ([.fieldLink RX2 39 "TimeNet" "known" "LTimeNet$Knowledge;", .methodLink RX2 157 yX2_rankOf, .instanceMethod yX2_rankOf, .selects RX2 yX2_rankOf yX2_rankOf, .initialized RX2, .code yX2_rankOf cX2_rankOf 2 (some .int), .fieldLink RX2 13 "TimeNet" "gradeOf" "[I", .fieldLink RX2 16 "TimeNet" "varianceOf" "[I", .instanceMethod yX0_start, .initialized RX0, .selects RX0 yX0_start yX0_start, .code yX0_start cX0_start 3 none, .fieldLink RX0 9 "TimeNet$Knowledge" "clockNode" "[I", .fieldLink RX0 15 "TimeNet$Knowledge" "clockRank" "[I", .fieldLink RX0 18 "TimeNet$Knowledge" "stepsAway" "[I", .fieldLink RX0 21 "TimeNet$Knowledge" "knownFrom" "[I"] : List Cond), w ∈ wsX2_knowOnlyItself := fun w h => (List.mem_cons_of_mem _ (List.mem_append_left _ (List.mem_append_left _ h)))
theorem lf_wsX2_knowOnlyItself_1 : ∀ w ∈ wsX20, w ∈ wsX2_knowOnlyItself := fun w h => (List.mem_cons_of_mem _ (List.mem_append_left _ (List.mem_append_right _ h)))
theorem lf_wsX2_knowOnlyItself_2 : ∀ w ∈ wsX00, w ∈ wsX2_knowOnlyItself := fun w h => (List.mem_cons_of_mem _ (List.mem_append_right _ h))
theorem wk_wsX2_knowOnlyItself_0_5 : Cond.code yX2_rankOf cX2_rankOf 2 (some .int) ∈ wsX2_knowOnlyItself := lf_wsX2_knowOnlyItself_0 _ (List.Mem.tail _ (List.Mem.tail _ (List.Mem.tail _ (List.Mem.tail _ (List.Mem.tail _ (List.Mem.head _))))))
theorem wk_wsX2_knowOnlyItself_0_6 : Cond.fieldLink RX2 13 "TimeNet" "gradeOf" "[I" ∈ wsX2_knowOnlyItself := lf_wsX2_knowOnlyItself_0 _ (List.Mem.tail _ (List.Mem.tail _ (List.Mem.tail _ (List.Mem.tail _ (List.Mem.tail _ (List.Mem.tail _ (List.Mem.head _)))))))
theorem wk_wsX2_knowOnlyItself_0_7 : Cond.fieldLink RX2 16 "TimeNet" "varianceOf" "[I" ∈ wsX2_knowOnlyItself := lf_wsX2_knowOnlyItself_0 _ (List.Mem.tail _ (List.Mem.tail _ (List.Mem.tail _ (List.Mem.tail _ (List.Mem.tail _ (List.Mem.tail _ (List.Mem.tail _ (List.Mem.head _))))))))
theorem wk_wsX2_knowOnlyItself_0_1 : Cond.methodLink RX2 157 yX2_rankOf ∈ wsX2_knowOnlyItself := lf_wsX2_knowOnlyItself_0 _ (List.Mem.tail _ (List.Mem.head _))
theorem wk_wsX2_knowOnlyItself_0_2 : Cond.instanceMethod yX2_rankOf ∈ wsX2_knowOnlyItself := lf_wsX2_knowOnlyItself_0 _ (List.Mem.tail _ (List.Mem.tail _ (List.Mem.head _)))
theorem wk_wsX2_knowOnlyItself_0_3 : Cond.selects RX2 yX2_rankOf yX2_rankOf ∈ wsX2_knowOnlyItself := lf_wsX2_knowOnlyItself_0 _ (List.Mem.tail _ (List.Mem.tail _ (List.Mem.tail _ (List.Mem.head _))))
theorem wk_wsX2_knowOnlyItself_0_4 : Cond.initialized RX2 ∈ wsX2_knowOnlyItself := lf_wsX2_knowOnlyItself_0 _ (List.Mem.tail _ (List.Mem.tail _ (List.Mem.tail _ (List.Mem.tail _ (List.Mem.head _)))))
theorem wk_wsX2_knowOnlyItself_0_11 : Cond.code yX0_start cX0_start 3 none ∈ wsX2_knowOnlyItself := lf_wsX2_knowOnlyItself_0 _ (List.Mem.tail _ (List.Mem.tail _ (List.Mem.tail _ (List.Mem.tail _ (List.Mem.tail _ (List.Mem.tail _ (List.Mem.tail _ (List.Mem.tail _ (List.Mem.tail _ (List.Mem.tail _ (List.Mem.tail _ (List.Mem.head _))))))))))))
theorem wk_wsX2_knowOnlyItself_0_12 : Cond.fieldLink RX0 9 "TimeNet$Knowledge" "clockNode" "[I" ∈ wsX2_knowOnlyItself := lf_wsX2_knowOnlyItself_0 _ (List.Mem.tail _ (List.Mem.tail _ (List.Mem.tail _ (List.Mem.tail _ (List.Mem.tail _ (List.Mem.tail _ (List.Mem.tail _ (List.Mem.tail _ (List.Mem.tail _ (List.Mem.tail _ (List.Mem.tail _ (List.Mem.tail _ (List.Mem.head _)))))))))))))
theorem wk_wsX2_knowOnlyItself_0_13 : Cond.fieldLink RX0 15 "TimeNet$Knowledge" "clockRank" "[I" ∈ wsX2_knowOnlyItself := lf_wsX2_knowOnlyItself_0 _ (List.Mem.tail _ (List.Mem.tail _ (List.Mem.tail _ (List.Mem.tail _ (List.Mem.tail _ (List.Mem.tail _ (List.Mem.tail _ (List.Mem.tail _ (List.Mem.tail _ (List.Mem.tail _ (List.Mem.tail _ (List.Mem.tail _ (List.Mem.tail _ (List.Mem.head _))))))))))))))
theorem wk_wsX2_knowOnlyItself_0_14 : Cond.fieldLink RX0 18 "TimeNet$Knowledge" "stepsAway" "[I" ∈ wsX2_knowOnlyItself := lf_wsX2_knowOnlyItself_0 _ (List.Mem.tail _ (List.Mem.tail _ (List.Mem.tail _ (List.Mem.tail _ (List.Mem.tail _ (List.Mem.tail _ (List.Mem.tail _ (List.Mem.tail _ (List.Mem.tail _ (List.Mem.tail _ (List.Mem.tail _ (List.Mem.tail _ (List.Mem.tail _ (List.Mem.tail _ (List.Mem.head _)))))))))))))))
theorem wk_wsX2_knowOnlyItself_0_15 : Cond.fieldLink RX0 21 "TimeNet$Knowledge" "knownFrom" "[I" ∈ wsX2_knowOnlyItself := lf_wsX2_knowOnlyItself_0 _ (List.Mem.tail _ (List.Mem.tail _ (List.Mem.tail _ (List.Mem.tail _ (List.Mem.tail _ (List.Mem.tail _ (List.Mem.tail _ (List.Mem.tail _ (List.Mem.tail _ (List.Mem.tail _ (List.Mem.tail _ (List.Mem.tail _ (List.Mem.tail _ (List.Mem.tail _ (List.Mem.tail _ (List.Mem.head _))))))))))))))))
theorem lf_wsX2_forgetParent_0 : ∀ w ∈ ([.fieldLink RX2 39 "TimeNet" "known" "LTimeNet$Knowledge;", .methodLink RX2 67 yX2_knowOnlyItself, .instanceMethod yX2_knowOnlyItself, .selects RX2 yX2_knowOnlyItself yX2_knowOnlyItself, .initialized RX2, .code yX2_knowOnlyItself cX2_knowOnlyItself 2 none, .methodLink RX2 157 yX2_rankOf, .instanceMethod yX2_rankOf, .selects RX2 yX2_rankOf yX2_rankOf, .code yX2_rankOf cX2_rankOf 2 (some .int), .fieldLink RX2 13 "TimeNet" "gradeOf" "[I", .fieldLink RX2 16 "TimeNet" "varianceOf" "[I", .instanceMethod yX0_start, .initialized RX0, .selects RX0 yX0_start yX0_start, .code yX0_start cX0_start 3 none, .fieldLink RX0 9 "TimeNet$Knowledge" "clockNode" "[I", .fieldLink RX0 15 "TimeNet$Knowledge" "clockRank" "[I", .fieldLink RX0 18 "TimeNet$Knowledge" "stepsAway" "[I", .fieldLink RX0 21 "TimeNet$Knowledge" "knownFrom" "[I"] : List Cond), w ∈ wsX2_forgetParent := fun w h => (List.mem_cons_of_mem _ (List.mem_append_left _ (List.mem_append_left _ h)))
theorem lf_wsX2_forgetParent_1 : ∀ w ∈ wsX20, w ∈ wsX2_forgetParent := fun w h => (List.mem_cons_of_mem _ (List.mem_append_left _ (List.mem_append_right _ h)))
theorem lf_wsX2_forgetParent_2 : ∀ w ∈ wsX00, w ∈ wsX2_forgetParent := fun w h => (List.mem_cons_of_mem _ (List.mem_append_right _ h))
theorem wk_wsX2_forgetParent_0_5 : Cond.code yX2_knowOnlyItself cX2_knowOnlyItself 2 none ∈ wsX2_forgetParent := lf_wsX2_forgetParent_0 _ (List.Mem.tail _ (List.Mem.tail _ (List.Mem.tail _ (List.Mem.tail _ (List.Mem.tail _ (List.Mem.head _))))))
theorem wk_wsX2_forgetParent_0_0 : Cond.fieldLink RX2 39 "TimeNet" "known" "LTimeNet$Knowledge;" ∈ wsX2_forgetParent := lf_wsX2_forgetParent_0 _ (List.Mem.head _)
theorem wk_wsX2_forgetParent_0_6 : Cond.methodLink RX2 157 yX2_rankOf ∈ wsX2_forgetParent := lf_wsX2_forgetParent_0 _ (List.Mem.tail _ (List.Mem.tail _ (List.Mem.tail _ (List.Mem.tail _ (List.Mem.tail _ (List.Mem.tail _ (List.Mem.head _)))))))
theorem wk_wsX2_forgetParent_0_7 : Cond.instanceMethod yX2_rankOf ∈ wsX2_forgetParent := lf_wsX2_forgetParent_0 _ (List.Mem.tail _ (List.Mem.tail _ (List.Mem.tail _ (List.Mem.tail _ (List.Mem.tail _ (List.Mem.tail _ (List.Mem.tail _ (List.Mem.head _))))))))
theorem wk_wsX2_forgetParent_0_8 : Cond.selects RX2 yX2_rankOf yX2_rankOf ∈ wsX2_forgetParent := lf_wsX2_forgetParent_0 _ (List.Mem.tail _ (List.Mem.tail _ (List.Mem.tail _ (List.Mem.tail _ (List.Mem.tail _ (List.Mem.tail _ (List.Mem.tail _ (List.Mem.tail _ (List.Mem.head _)))))))))
theorem wk_wsX2_forgetParent_0_4 : Cond.initialized RX2 ∈ wsX2_forgetParent := lf_wsX2_forgetParent_0 _ (List.Mem.tail _ (List.Mem.tail _ (List.Mem.tail _ (List.Mem.tail _ (List.Mem.head _)))))
theorem wk_wsX2_forgetParent_0_9 : Cond.code yX2_rankOf cX2_rankOf 2 (some .int) ∈ wsX2_forgetParent := lf_wsX2_forgetParent_0 _ (List.Mem.tail _ (List.Mem.tail _ (List.Mem.tail _ (List.Mem.tail _ (List.Mem.tail _ (List.Mem.tail _ (List.Mem.tail _ (List.Mem.tail _ (List.Mem.tail _ (List.Mem.head _))))))))))
theorem wk_wsX2_forgetParent_0_10 : Cond.fieldLink RX2 13 "TimeNet" "gradeOf" "[I" ∈ wsX2_forgetParent := lf_wsX2_forgetParent_0 _ (List.Mem.tail _ (List.Mem.tail _ (List.Mem.tail _ (List.Mem.tail _ (List.Mem.tail _ (List.Mem.tail _ (List.Mem.tail _ (List.Mem.tail _ (List.Mem.tail _ (List.Mem.tail _ (List.Mem.head _)))))))))))
theorem wk_wsX2_forgetParent_0_11 : Cond.fieldLink RX2 16 "TimeNet" "varianceOf" "[I" ∈ wsX2_forgetParent := lf_wsX2_forgetParent_0 _ (List.Mem.tail _ (List.Mem.tail _ (List.Mem.tail _ (List.Mem.tail _ (List.Mem.tail _ (List.Mem.tail _ (List.Mem.tail _ (List.Mem.tail _ (List.Mem.tail _ (List.Mem.tail _ (List.Mem.tail _ (List.Mem.head _))))))))))))
theorem wk_wsX2_forgetParent_0_12 : Cond.instanceMethod yX0_start ∈ wsX2_forgetParent := lf_wsX2_forgetParent_0 _ (List.Mem.tail _ (List.Mem.tail _ (List.Mem.tail _ (List.Mem.tail _ (List.Mem.tail _ (List.Mem.tail _ (List.Mem.tail _ (List.Mem.tail _ (List.Mem.tail _ (List.Mem.tail _ (List.Mem.tail _ (List.Mem.tail _ (List.Mem.head _)))))))))))))
theorem wk_wsX2_forgetParent_0_13 : Cond.initialized RX0 ∈ wsX2_forgetParent := lf_wsX2_forgetParent_0 _ (List.Mem.tail _ (List.Mem.tail _ (List.Mem.tail _ (List.Mem.tail _ (List.Mem.tail _ (List.Mem.tail _ (List.Mem.tail _ (List.Mem.tail _ (List.Mem.tail _ (List.Mem.tail _ (List.Mem.tail _ (List.Mem.tail _ (List.Mem.tail _ (List.Mem.head _))))))))))))))
theorem wk_wsX2_forgetParent_0_14 : Cond.selects RX0 yX0_start yX0_start ∈ wsX2_forgetParent := lf_wsX2_forgetParent_0 _ (List.Mem.tail _ (List.Mem.tail _ (List.Mem.tail _ (List.Mem.tail _ (List.Mem.tail _ (List.Mem.tail _ (List.Mem.tail _ (List.Mem.tail _ (List.Mem.tail _ (List.Mem.tail _ (List.Mem.tail _ (List.Mem.tail _ (List.Mem.tail _ (List.Mem.tail _ (List.Mem.head _)))))))))))))))
theorem wk_wsX2_forgetParent_0_15 : Cond.code yX0_start cX0_start 3 none ∈ wsX2_forgetParent := lf_wsX2_forgetParent_0 _ (List.Mem.tail _ (List.Mem.tail _ (List.Mem.tail _ (List.Mem.tail _ (List.Mem.tail _ (List.Mem.tail _ (List.Mem.tail _ (List.Mem.tail _ (List.Mem.tail _ (List.Mem.tail _ (List.Mem.tail _ (List.Mem.tail _ (List.Mem.tail _ (List.Mem.tail _ (List.Mem.tail _ (List.Mem.head _))))))))))))))))
theorem wk_wsX2_forgetParent_0_16 : Cond.fieldLink RX0 9 "TimeNet$Knowledge" "clockNode" "[I" ∈ wsX2_forgetParent := lf_wsX2_forgetParent_0 _ (List.Mem.tail _ (List.Mem.tail _ (List.Mem.tail _ (List.Mem.tail _ (List.Mem.tail _ (List.Mem.tail _ (List.Mem.tail _ (List.Mem.tail _ (List.Mem.tail _ (List.Mem.tail _ (List.Mem.tail _ (List.Mem.tail _ (List.Mem.tail _ (List.Mem.tail _ (List.Mem.tail _ (List.Mem.tail _ (List.Mem.head _)))))))))))))))))
theorem wk_wsX2_forgetParent_0_17 : Cond.fieldLink RX0 15 "TimeNet$Knowledge" "clockRank" "[I" ∈ wsX2_forgetParent := lf_wsX2_forgetParent_0 _ (List.Mem.tail _ (List.Mem.tail _ (List.Mem.tail _ (List.Mem.tail _ (List.Mem.tail _ (List.Mem.tail _ (List.Mem.tail _ (List.Mem.tail _ (List.Mem.tail _ (List.Mem.tail _ (List.Mem.tail _ (List.Mem.tail _ (List.Mem.tail _ (List.Mem.tail _ (List.Mem.tail _ (List.Mem.tail _ (List.Mem.tail _ (List.Mem.head _))))))))))))))))))
theorem wk_wsX2_forgetParent_0_18 : Cond.fieldLink RX0 18 "TimeNet$Knowledge" "stepsAway" "[I" ∈ wsX2_forgetParent := lf_wsX2_forgetParent_0 _ (List.Mem.tail _ (List.Mem.tail _ (List.Mem.tail _ (List.Mem.tail _ (List.Mem.tail _ (List.Mem.tail _ (List.Mem.tail _ (List.Mem.tail _ (List.Mem.tail _ (List.Mem.tail _ (List.Mem.tail _ (List.Mem.tail _ (List.Mem.tail _ (List.Mem.tail _ (List.Mem.tail _ (List.Mem.tail _ (List.Mem.tail _ (List.Mem.tail _ (List.Mem.head _)))))))))))))))))))
theorem wk_wsX2_forgetParent_0_19 : Cond.fieldLink RX0 21 "TimeNet$Knowledge" "knownFrom" "[I" ∈ wsX2_forgetParent := lf_wsX2_forgetParent_0 _ (List.Mem.tail _ (List.Mem.tail _ (List.Mem.tail _ (List.Mem.tail _ (List.Mem.tail _ (List.Mem.tail _ (List.Mem.tail _ (List.Mem.tail _ (List.Mem.tail _ (List.Mem.tail _ (List.Mem.tail _ (List.Mem.tail _ (List.Mem.tail _ (List.Mem.tail _ (List.Mem.tail _ (List.Mem.tail _ (List.Mem.tail _ (List.Mem.tail _ (List.Mem.tail _ (List.Mem.head _))))))))))))))))))))
theorem wk_wsX2_forgetParent_0_1 : Cond.methodLink RX2 67 yX2_knowOnlyItself ∈ wsX2_forgetParent := lf_wsX2_forgetParent_0 _ (List.Mem.tail _ (List.Mem.head _))
theorem wk_wsX2_forgetParent_0_2 : Cond.instanceMethod yX2_knowOnlyItself ∈ wsX2_forgetParent := lf_wsX2_forgetParent_0 _ (List.Mem.tail _ (List.Mem.tail _ (List.Mem.head _)))
theorem wk_wsX2_forgetParent_0_3 : Cond.selects RX2 yX2_knowOnlyItself yX2_knowOnlyItself ∈ wsX2_forgetParent := lf_wsX2_forgetParent_0 _ (List.Mem.tail _ (List.Mem.tail _ (List.Mem.tail _ (List.Mem.head _))))
theorem lf_wsX2_announce_0 : ∀ w ∈ wsX2_announce_r1, w ∈ wsX2_announce := fun w h => (List.mem_cons_of_mem _ (List.mem_append_left _ (List.mem_append_left _ (List.mem_append_left _ (List.mem_append_left _ h)))))
theorem lf_wsX2_announce_1 : ∀ w ∈ wsX2_announce_r2, w ∈ wsX2_announce := fun w h => (List.mem_cons_of_mem _ (List.mem_append_left _ (List.mem_append_left _ (List.mem_append_left _ (List.mem_append_right _ (List.mem_append_left _ h))))))
theorem lf_wsX2_announce_2 : ∀ w ∈ wsX2_announce_r3, w ∈ wsX2_announce := fun w h => (List.mem_cons_of_mem _ (List.mem_append_left _ (List.mem_append_left _ (List.mem_append_left _ (List.mem_append_right _ (List.mem_append_right _ h))))))
theorem lf_wsX2_announce_3 : ∀ w ∈ wsX20, w ∈ wsX2_announce := fun w h => (List.mem_cons_of_mem _ (List.mem_append_left _ (List.mem_append_left _ (List.mem_append_right _ h))))
theorem lf_wsX2_announce_4 : ∀ w ∈ wsX00, w ∈ wsX2_announce := fun w h => (List.mem_cons_of_mem _ (List.mem_append_left _ (List.mem_append_right _ h)))
theorem lf_wsX2_announce_5 : ∀ w ∈ wsX10, w ∈ wsX2_announce := fun w h => (List.mem_cons_of_mem _ (List.mem_append_right _ h))
theorem wk_wsX2_announce_0_6 : Cond.code yX0_copyFrom cX0_copyFrom 3 none ∈ wsX2_announce := lf_wsX2_announce_0 _ (List.Mem.tail _ (List.Mem.tail _ (List.Mem.tail _ (List.Mem.tail _ (List.Mem.tail _ (List.Mem.tail _ (List.Mem.head _)))))))
theorem wk_wsX2_announce_0_7 : Cond.fieldLink RX0 9 "TimeNet$Knowledge" "clockNode" "[I" ∈ wsX2_announce := lf_wsX2_announce_0 _ (List.Mem.tail _ (List.Mem.tail _ (List.Mem.tail _ (List.Mem.tail _ (List.Mem.tail _ (List.Mem.tail _ (List.Mem.tail _ (List.Mem.head _))))))))
theorem wk_wsX2_announce_0_8 : Cond.fieldLink RX0 15 "TimeNet$Knowledge" "clockRank" "[I" ∈ wsX2_announce := lf_wsX2_announce_0 _ (List.Mem.tail _ (List.Mem.tail _ (List.Mem.tail _ (List.Mem.tail _ (List.Mem.tail _ (List.Mem.tail _ (List.Mem.tail _ (List.Mem.tail _ (List.Mem.head _)))))))))
theorem wk_wsX2_announce_0_9 : Cond.fieldLink RX0 18 "TimeNet$Knowledge" "stepsAway" "[I" ∈ wsX2_announce := lf_wsX2_announce_0 _ (List.Mem.tail _ (List.Mem.tail _ (List.Mem.tail _ (List.Mem.tail _ (List.Mem.tail _ (List.Mem.tail _ (List.Mem.tail _ (List.Mem.tail _ (List.Mem.tail _ (List.Mem.head _))))))))))
theorem wk_wsX2_announce_0_10 : Cond.fieldLink RX0 21 "TimeNet$Knowledge" "knownFrom" "[I" ∈ wsX2_announce := lf_wsX2_announce_0 _ (List.Mem.tail _ (List.Mem.tail _ (List.Mem.tail _ (List.Mem.tail _ (List.Mem.tail _ (List.Mem.tail _ (List.Mem.tail _ (List.Mem.tail _ (List.Mem.tail _ (List.Mem.tail _ (List.Mem.head _)))))))))))
theorem wk_wsX2_announce_0_15 : Cond.code yX2_listen cX2_listen 3 none ∈ wsX2_announce := lf_wsX2_announce_0 _ (List.Mem.tail _ (List.Mem.tail _ (List.Mem.tail _ (List.Mem.tail _ (List.Mem.tail _ (List.Mem.tail _ (List.Mem.tail _ (List.Mem.tail _ (List.Mem.tail _ (List.Mem.tail _ (List.Mem.tail _ (List.Mem.tail _ (List.Mem.tail _ (List.Mem.tail _ (List.Mem.tail _ (List.Mem.head _))))))))))))))))
theorem wk_wsX2_announce_0_2 : Cond.fieldLink RX2 49 "TimeNet" "nodeCount" "I" ∈ wsX2_announce := lf_wsX2_announce_0 _ (List.Mem.tail _ (List.Mem.tail _ (List.Mem.head _)))
theorem wk_wsX2_announce_0_0 : Cond.fieldLink RX2 43 "TimeNet" "heard" "LTimeNet$Knowledge;" ∈ wsX2_announce := lf_wsX2_announce_0 _ (List.Mem.head _)
theorem wk_wsX2_announce_0_1 : Cond.fieldLink RX2 39 "TimeNet" "known" "LTimeNet$Knowledge;" ∈ wsX2_announce := lf_wsX2_announce_0 _ (List.Mem.tail _ (List.Mem.head _))
theorem wk_wsX2_announce_0_16 : Cond.methodLink RX2 67 yX2_knowOnlyItself ∈ wsX2_announce := lf_wsX2_announce_0 _ (List.Mem.tail _ (List.Mem.tail _ (List.Mem.tail _ (List.Mem.tail _ (List.Mem.tail _ (List.Mem.tail _ (List.Mem.tail _ (List.Mem.tail _ (List.Mem.tail _ (List.Mem.tail _ (List.Mem.tail _ (List.Mem.tail _ (List.Mem.tail _ (List.Mem.tail _ (List.Mem.tail _ (List.Mem.tail _ (List.Mem.head _)))))))))))))))))
theorem wk_wsX2_announce_0_17 : Cond.instanceMethod yX2_knowOnlyItself ∈ wsX2_announce := lf_wsX2_announce_0 _ (List.Mem.tail _ (List.Mem.tail _ (List.Mem.tail _ (List.Mem.tail _ (List.Mem.tail _ (List.Mem.tail _ (List.Mem.tail _ (List.Mem.tail _ (List.Mem.tail _ (List.Mem.tail _ (List.Mem.tail _ (List.Mem.tail _ (List.Mem.tail _ (List.Mem.tail _ (List.Mem.tail _ (List.Mem.tail _ (List.Mem.tail _ (List.Mem.head _))))))))))))))))))
theorem wk_wsX2_announce_0_18 : Cond.selects RX2 yX2_knowOnlyItself yX2_knowOnlyItself ∈ wsX2_announce := lf_wsX2_announce_0 _ (List.Mem.tail _ (List.Mem.tail _ (List.Mem.tail _ (List.Mem.tail _ (List.Mem.tail _ (List.Mem.tail _ (List.Mem.tail _ (List.Mem.tail _ (List.Mem.tail _ (List.Mem.tail _ (List.Mem.tail _ (List.Mem.tail _ (List.Mem.tail _ (List.Mem.tail _ (List.Mem.tail _ (List.Mem.tail _ (List.Mem.tail _ (List.Mem.tail _ (List.Mem.head _)))))))))))))))))))
theorem wk_wsX2_announce_0_14 : Cond.initialized RX2 ∈ wsX2_announce := lf_wsX2_announce_0 _ (List.Mem.tail _ (List.Mem.tail _ (List.Mem.tail _ (List.Mem.tail _ (List.Mem.tail _ (List.Mem.tail _ (List.Mem.tail _ (List.Mem.tail _ (List.Mem.tail _ (List.Mem.tail _ (List.Mem.tail _ (List.Mem.tail _ (List.Mem.tail _ (List.Mem.tail _ (List.Mem.head _)))))))))))))))
theorem wk_wsX2_announce_0_19 : Cond.code yX2_knowOnlyItself cX2_knowOnlyItself 2 none ∈ wsX2_announce := lf_wsX2_announce_0 _ (List.Mem.tail _ (List.Mem.tail _ (List.Mem.tail _ (List.Mem.tail _ (List.Mem.tail _ (List.Mem.tail _ (List.Mem.tail _ (List.Mem.tail _ (List.Mem.tail _ (List.Mem.tail _ (List.Mem.tail _ (List.Mem.tail _ (List.Mem.tail _ (List.Mem.tail _ (List.Mem.tail _ (List.Mem.tail _ (List.Mem.tail _ (List.Mem.tail _ (List.Mem.tail _ (List.Mem.head _))))))))))))))))))))
theorem wk_wsX2_announce_0_20 : Cond.methodLink RX2 157 yX2_rankOf ∈ wsX2_announce := lf_wsX2_announce_0 _ (List.Mem.tail _ (List.Mem.tail _ (List.Mem.tail _ (List.Mem.tail _ (List.Mem.tail _ (List.Mem.tail _ (List.Mem.tail _ (List.Mem.tail _ (List.Mem.tail _ (List.Mem.tail _ (List.Mem.tail _ (List.Mem.tail _ (List.Mem.tail _ (List.Mem.tail _ (List.Mem.tail _ (List.Mem.tail _ (List.Mem.tail _ (List.Mem.tail _ (List.Mem.tail _ (List.Mem.tail _ (List.Mem.head _)))))))))))))))))))))
theorem wk_wsX2_announce_0_21 : Cond.instanceMethod yX2_rankOf ∈ wsX2_announce := lf_wsX2_announce_0 _ (List.Mem.tail _ (List.Mem.tail _ (List.Mem.tail _ (List.Mem.tail _ (List.Mem.tail _ (List.Mem.tail _ (List.Mem.tail _ (List.Mem.tail _ (List.Mem.tail _ (List.Mem.tail _ (List.Mem.tail _ (List.Mem.tail _ (List.Mem.tail _ (List.Mem.tail _ (List.Mem.tail _ (List.Mem.tail _ (List.Mem.tail _ (List.Mem.tail _ (List.Mem.tail _ (List.Mem.tail _ (List.Mem.tail _ (List.Mem.head _))))))))))))))))))))))
theorem wk_wsX2_announce_0_22 : Cond.selects RX2 yX2_rankOf yX2_rankOf ∈ wsX2_announce := lf_wsX2_announce_0 _ (List.Mem.tail _ (List.Mem.tail _ (List.Mem.tail _ (List.Mem.tail _ (List.Mem.tail _ (List.Mem.tail _ (List.Mem.tail _ (List.Mem.tail _ (List.Mem.tail _ (List.Mem.tail _ (List.Mem.tail _ (List.Mem.tail _ (List.Mem.tail _ (List.Mem.tail _ (List.Mem.tail _ (List.Mem.tail _ (List.Mem.tail _ (List.Mem.tail _ (List.Mem.tail _ (List.Mem.tail _ (List.Mem.tail _ (List.Mem.tail _ (List.Mem.head _)))))))))))))))))))))))
theorem wk_wsX2_announce_0_23 : Cond.code yX2_rankOf cX2_rankOf 2 (some .int) ∈ wsX2_announce := lf_wsX2_announce_0 _ (List.Mem.tail _ (List.Mem.tail _ (List.Mem.tail _ (List.Mem.tail _ (List.Mem.tail _ (List.Mem.tail _ (List.Mem.tail _ (List.Mem.tail _ (List.Mem.tail _ (List.Mem.tail _ (List.Mem.tail _ (List.Mem.tail _ (List.Mem.tail _ (List.Mem.tail _ (List.Mem.tail _ (List.Mem.tail _ (List.Mem.tail _ (List.Mem.tail _ (List.Mem.tail _ (List.Mem.tail _ (List.Mem.tail _ (List.Mem.tail _ (List.Mem.tail _ (List.Mem.head _))))))))))))))))))))))))
theorem wk_wsX2_announce_1_0 : Cond.fieldLink RX2 13 "TimeNet" "gradeOf" "[I" ∈ wsX2_announce := lf_wsX2_announce_1 _ (List.Mem.head _)
theorem wk_wsX2_announce_1_1 : Cond.fieldLink RX2 16 "TimeNet" "varianceOf" "[I" ∈ wsX2_announce := lf_wsX2_announce_1 _ (List.Mem.tail _ (List.Mem.head _))
theorem wk_wsX2_announce_1_2 : Cond.instanceMethod yX0_start ∈ wsX2_announce := lf_wsX2_announce_1 _ (List.Mem.tail _ (List.Mem.tail _ (List.Mem.head _)))
theorem wk_wsX2_announce_0_4 : Cond.initialized RX0 ∈ wsX2_announce := lf_wsX2_announce_0 _ (List.Mem.tail _ (List.Mem.tail _ (List.Mem.tail _ (List.Mem.tail _ (List.Mem.head _)))))
theorem wk_wsX2_announce_1_3 : Cond.selects RX0 yX0_start yX0_start ∈ wsX2_announce := lf_wsX2_announce_1 _ (List.Mem.tail _ (List.Mem.tail _ (List.Mem.tail _ (List.Mem.head _))))
theorem wk_wsX2_announce_1_4 : Cond.code yX0_start cX0_start 3 none ∈ wsX2_announce := lf_wsX2_announce_1 _ (List.Mem.tail _ (List.Mem.tail _ (List.Mem.tail _ (List.Mem.tail _ (List.Mem.head _)))))
theorem wk_wsX2_announce_1_5 : Cond.methodLink RX2 122 yX2_areNeighbours ∈ wsX2_announce := lf_wsX2_announce_1 _ (List.Mem.tail _ (List.Mem.tail _ (List.Mem.tail _ (List.Mem.tail _ (List.Mem.tail _ (List.Mem.head _))))))
theorem wk_wsX2_announce_1_6 : Cond.instanceMethod yX2_areNeighbours ∈ wsX2_announce := lf_wsX2_announce_1 _ (List.Mem.tail _ (List.Mem.tail _ (List.Mem.tail _ (List.Mem.tail _ (List.Mem.tail _ (List.Mem.tail _ (List.Mem.head _)))))))
theorem wsX2_listen_r1_of_wsX2_announce : ∀ w ∈ wsX2_listen_r1, w ∈ wsX2_announce := List.forall_mem_cons.mpr ⟨wk_wsX2_announce_0_2, List.forall_mem_cons.mpr ⟨wk_wsX2_announce_0_0, List.forall_mem_cons.mpr ⟨wk_wsX2_announce_0_1, List.forall_mem_cons.mpr ⟨wk_wsX2_announce_0_16, List.forall_mem_cons.mpr ⟨wk_wsX2_announce_0_17, List.forall_mem_cons.mpr ⟨wk_wsX2_announce_0_18, List.forall_mem_cons.mpr ⟨wk_wsX2_announce_0_14, List.forall_mem_cons.mpr ⟨wk_wsX2_announce_0_19, List.forall_mem_cons.mpr ⟨wk_wsX2_announce_0_20, List.forall_mem_cons.mpr ⟨wk_wsX2_announce_0_21, List.forall_mem_cons.mpr ⟨wk_wsX2_announce_0_22, List.forall_mem_cons.mpr ⟨wk_wsX2_announce_0_23, List.forall_mem_cons.mpr ⟨wk_wsX2_announce_1_0, List.forall_mem_cons.mpr ⟨wk_wsX2_announce_1_1, List.forall_mem_cons.mpr ⟨wk_wsX2_announce_1_2, List.forall_mem_cons.mpr ⟨wk_wsX2_announce_0_4, List.forall_mem_cons.mpr ⟨wk_wsX2_announce_1_3, List.forall_mem_cons.mpr ⟨wk_wsX2_announce_1_4, List.forall_mem_cons.mpr ⟨wk_wsX2_announce_0_7, List.forall_mem_cons.mpr ⟨wk_wsX2_announce_0_8, List.forall_mem_cons.mpr ⟨wk_wsX2_announce_0_9, List.forall_mem_cons.mpr ⟨wk_wsX2_announce_0_10, List.forall_mem_cons.mpr ⟨wk_wsX2_announce_1_5, List.forall_mem_cons.mpr ⟨wk_wsX2_announce_1_6, fun _ h => absurd h List.not_mem_nil⟩⟩⟩⟩⟩⟩⟩⟩⟩⟩⟩⟩⟩⟩⟩⟩⟩⟩⟩⟩⟩⟩⟩⟩
theorem wk_wsX2_announce_1_7 : Cond.selects RX2 yX2_areNeighbours yX2_areNeighbours ∈ wsX2_announce := lf_wsX2_announce_1 _ (List.Mem.tail _ (List.Mem.tail _ (List.Mem.tail _ (List.Mem.tail _ (List.Mem.tail _ (List.Mem.tail _ (List.Mem.tail _ (List.Mem.head _))))))))
theorem wk_wsX2_announce_1_8 : Cond.code yX2_areNeighbours cX2_areNeighbours 3 (some .boolean) ∈ wsX2_announce := lf_wsX2_announce_1 _ (List.Mem.tail _ (List.Mem.tail _ (List.Mem.tail _ (List.Mem.tail _ (List.Mem.tail _ (List.Mem.tail _ (List.Mem.tail _ (List.Mem.tail _ (List.Mem.head _)))))))))
theorem wk_wsX2_announce_1_9 : Cond.fieldLink RX2 9 "TimeNet" "domainOf" "[I" ∈ wsX2_announce := lf_wsX2_announce_1 _ (List.Mem.tail _ (List.Mem.tail _ (List.Mem.tail _ (List.Mem.tail _ (List.Mem.tail _ (List.Mem.tail _ (List.Mem.tail _ (List.Mem.tail _ (List.Mem.tail _ (List.Mem.head _))))))))))
theorem wk_wsX2_announce_1_10 : Cond.fieldLink RX2 32 "TimeNet" "wires" "LTimeNet$Wires;" ∈ wsX2_announce := lf_wsX2_announce_1 _ (List.Mem.tail _ (List.Mem.tail _ (List.Mem.tail _ (List.Mem.tail _ (List.Mem.tail _ (List.Mem.tail _ (List.Mem.tail _ (List.Mem.tail _ (List.Mem.tail _ (List.Mem.tail _ (List.Mem.head _)))))))))))
theorem wk_wsX2_announce_1_11 : Cond.instanceMethod yX1_areLinked ∈ wsX2_announce := lf_wsX2_announce_1 _ (List.Mem.tail _ (List.Mem.tail _ (List.Mem.tail _ (List.Mem.tail _ (List.Mem.tail _ (List.Mem.tail _ (List.Mem.tail _ (List.Mem.tail _ (List.Mem.tail _ (List.Mem.tail _ (List.Mem.tail _ (List.Mem.head _))))))))))))
theorem wk_wsX2_announce_1_12 : Cond.initialized RX1 ∈ wsX2_announce := lf_wsX2_announce_1 _ (List.Mem.tail _ (List.Mem.tail _ (List.Mem.tail _ (List.Mem.tail _ (List.Mem.tail _ (List.Mem.tail _ (List.Mem.tail _ (List.Mem.tail _ (List.Mem.tail _ (List.Mem.tail _ (List.Mem.tail _ (List.Mem.tail _ (List.Mem.head _)))))))))))))
theorem wk_wsX2_announce_1_13 : Cond.selects RX1 yX1_areLinked yX1_areLinked ∈ wsX2_announce := lf_wsX2_announce_1 _ (List.Mem.tail _ (List.Mem.tail _ (List.Mem.tail _ (List.Mem.tail _ (List.Mem.tail _ (List.Mem.tail _ (List.Mem.tail _ (List.Mem.tail _ (List.Mem.tail _ (List.Mem.tail _ (List.Mem.tail _ (List.Mem.tail _ (List.Mem.tail _ (List.Mem.head _))))))))))))))
theorem wk_wsX2_announce_1_14 : Cond.code yX1_areLinked cX1_areLinked 3 (some .boolean) ∈ wsX2_announce := lf_wsX2_announce_1 _ (List.Mem.tail _ (List.Mem.tail _ (List.Mem.tail _ (List.Mem.tail _ (List.Mem.tail _ (List.Mem.tail _ (List.Mem.tail _ (List.Mem.tail _ (List.Mem.tail _ (List.Mem.tail _ (List.Mem.tail _ (List.Mem.tail _ (List.Mem.tail _ (List.Mem.tail _ (List.Mem.head _)))))))))))))))
theorem wk_wsX2_announce_1_15 : Cond.fieldLink RX1 9 "TimeNet$Wires" "laid" "[Z" ∈ wsX2_announce := lf_wsX2_announce_1 _ (List.Mem.tail _ (List.Mem.tail _ (List.Mem.tail _ (List.Mem.tail _ (List.Mem.tail _ (List.Mem.tail _ (List.Mem.tail _ (List.Mem.tail _ (List.Mem.tail _ (List.Mem.tail _ (List.Mem.tail _ (List.Mem.tail _ (List.Mem.tail _ (List.Mem.tail _ (List.Mem.tail _ (List.Mem.head _))))))))))))))))
theorem wk_wsX2_announce_1_16 : Cond.methodLink RX1 26 yX1_place ∈ wsX2_announce := lf_wsX2_announce_1 _ (List.Mem.tail _ (List.Mem.tail _ (List.Mem.tail _ (List.Mem.tail _ (List.Mem.tail _ (List.Mem.tail _ (List.Mem.tail _ (List.Mem.tail _ (List.Mem.tail _ (List.Mem.tail _ (List.Mem.tail _ (List.Mem.tail _ (List.Mem.tail _ (List.Mem.tail _ (List.Mem.tail _ (List.Mem.tail _ (List.Mem.head _)))))))))))))))))
theorem wk_wsX2_announce_1_17 : Cond.static yX1_place ∈ wsX2_announce := lf_wsX2_announce_1 _ (List.Mem.tail _ (List.Mem.tail _ (List.Mem.tail _ (List.Mem.tail _ (List.Mem.tail _ (List.Mem.tail _ (List.Mem.tail _ (List.Mem.tail _ (List.Mem.tail _ (List.Mem.tail _ (List.Mem.tail _ (List.Mem.tail _ (List.Mem.tail _ (List.Mem.tail _ (List.Mem.tail _ (List.Mem.tail _ (List.Mem.tail _ (List.Mem.head _))))))))))))))))))
theorem wk_wsX2_announce_1_18 : Cond.code yX1_place cX1_place 2 (some .int) ∈ wsX2_announce := lf_wsX2_announce_1 _ (List.Mem.tail _ (List.Mem.tail _ (List.Mem.tail _ (List.Mem.tail _ (List.Mem.tail _ (List.Mem.tail _ (List.Mem.tail _ (List.Mem.tail _ (List.Mem.tail _ (List.Mem.tail _ (List.Mem.tail _ (List.Mem.tail _ (List.Mem.tail _ (List.Mem.tail _ (List.Mem.tail _ (List.Mem.tail _ (List.Mem.tail _ (List.Mem.tail _ (List.Mem.head _)))))))))))))))))))
theorem wk_wsX2_announce_1_19 : Cond.instanceMethod yX0_reaches ∈ wsX2_announce := lf_wsX2_announce_1 _ (List.Mem.tail _ (List.Mem.tail _ (List.Mem.tail _ (List.Mem.tail _ (List.Mem.tail _ (List.Mem.tail _ (List.Mem.tail _ (List.Mem.tail _ (List.Mem.tail _ (List.Mem.tail _ (List.Mem.tail _ (List.Mem.tail _ (List.Mem.tail _ (List.Mem.tail _ (List.Mem.tail _ (List.Mem.tail _ (List.Mem.tail _ (List.Mem.tail _ (List.Mem.tail _ (List.Mem.head _))))))))))))))))))))
theorem wk_wsX2_announce_1_20 : Cond.selects RX0 yX0_reaches yX0_reaches ∈ wsX2_announce := lf_wsX2_announce_1 _ (List.Mem.tail _ (List.Mem.tail _ (List.Mem.tail _ (List.Mem.tail _ (List.Mem.tail _ (List.Mem.tail _ (List.Mem.tail _ (List.Mem.tail _ (List.Mem.tail _ (List.Mem.tail _ (List.Mem.tail _ (List.Mem.tail _ (List.Mem.tail _ (List.Mem.tail _ (List.Mem.tail _ (List.Mem.tail _ (List.Mem.tail _ (List.Mem.tail _ (List.Mem.tail _ (List.Mem.tail _ (List.Mem.head _)))))))))))))))))))))
theorem wk_wsX2_announce_1_21 : Cond.code yX0_reaches cX0_reaches 3 (some .boolean) ∈ wsX2_announce := lf_wsX2_announce_1 _ (List.Mem.tail _ (List.Mem.tail _ (List.Mem.tail _ (List.Mem.tail _ (List.Mem.tail _ (List.Mem.tail _ (List.Mem.tail _ (List.Mem.tail _ (List.Mem.tail _ (List.Mem.tail _ (List.Mem.tail _ (List.Mem.tail _ (List.Mem.tail _ (List.Mem.tail _ (List.Mem.tail _ (List.Mem.tail _ (List.Mem.tail _ (List.Mem.tail _ (List.Mem.tail _ (List.Mem.tail _ (List.Mem.tail _ (List.Mem.head _))))))))))))))))))))))
theorem wk_wsX2_announce_1_22 : Cond.instanceMethod yX0_takeIfBetter ∈ wsX2_announce := lf_wsX2_announce_1 _ (List.Mem.tail _ (List.Mem.tail _ (List.Mem.tail _ (List.Mem.tail _ (List.Mem.tail _ (List.Mem.tail _ (List.Mem.tail _ (List.Mem.tail _ (List.Mem.tail _ (List.Mem.tail _ (List.Mem.tail _ (List.Mem.tail _ (List.Mem.tail _ (List.Mem.tail _ (List.Mem.tail _ (List.Mem.tail _ (List.Mem.tail _ (List.Mem.tail _ (List.Mem.tail _ (List.Mem.tail _ (List.Mem.tail _ (List.Mem.tail _ (List.Mem.head _)))))))))))))))))))))))
theorem wk_wsX2_announce_1_23 : Cond.selects RX0 yX0_takeIfBetter yX0_takeIfBetter ∈ wsX2_announce := lf_wsX2_announce_1 _ (List.Mem.tail _ (List.Mem.tail _ (List.Mem.tail _ (List.Mem.tail _ (List.Mem.tail _ (List.Mem.tail _ (List.Mem.tail _ (List.Mem.tail _ (List.Mem.tail _ (List.Mem.tail _ (List.Mem.tail _ (List.Mem.tail _ (List.Mem.tail _ (List.Mem.tail _ (List.Mem.tail _ (List.Mem.tail _ (List.Mem.tail _ (List.Mem.tail _ (List.Mem.tail _ (List.Mem.tail _ (List.Mem.tail _ (List.Mem.tail _ (List.Mem.tail _ (List.Mem.head _))))))))))))))))))))))))
theorem wk_wsX2_announce_2_0 : Cond.code yX0_takeIfBetter cX0_takeIfBetter 6 none ∈ wsX2_announce := lf_wsX2_announce_2 _ (List.Mem.head _)
theorem wsX2_listen_r2_of_wsX2_announce : ∀ w ∈ wsX2_listen_r2, w ∈ wsX2_announce := List.forall_mem_cons.mpr ⟨wk_wsX2_announce_1_7, List.forall_mem_cons.mpr ⟨wk_wsX2_announce_1_8, List.forall_mem_cons.mpr ⟨wk_wsX2_announce_1_9, List.forall_mem_cons.mpr ⟨wk_wsX2_announce_1_10, List.forall_mem_cons.mpr ⟨wk_wsX2_announce_1_11, List.forall_mem_cons.mpr ⟨wk_wsX2_announce_1_12, List.forall_mem_cons.mpr ⟨wk_wsX2_announce_1_13, List.forall_mem_cons.mpr ⟨wk_wsX2_announce_1_14, List.forall_mem_cons.mpr ⟨wk_wsX2_announce_1_15, List.forall_mem_cons.mpr ⟨wk_wsX2_announce_1_16, List.forall_mem_cons.mpr ⟨wk_wsX2_announce_1_17, List.forall_mem_cons.mpr ⟨wk_wsX2_announce_1_18, List.forall_mem_cons.mpr ⟨wk_wsX2_announce_1_19, List.forall_mem_cons.mpr ⟨wk_wsX2_announce_1_20, List.forall_mem_cons.mpr ⟨wk_wsX2_announce_1_21, List.forall_mem_cons.mpr ⟨wk_wsX2_announce_1_22, List.forall_mem_cons.mpr ⟨wk_wsX2_announce_1_23, List.forall_mem_cons.mpr ⟨wk_wsX2_announce_2_0, fun _ h => absurd h List.not_mem_nil⟩⟩⟩⟩⟩⟩⟩⟩⟩⟩⟩⟩⟩⟩⟩⟩⟩⟩
theorem wk_wsX2_announce_0_11 : Cond.methodLink RX2 167 yX2_listen ∈ wsX2_announce := lf_wsX2_announce_0 _ (List.Mem.tail _ (List.Mem.tail _ (List.Mem.tail _ (List.Mem.tail _ (List.Mem.tail _ (List.Mem.tail _ (List.Mem.tail _ (List.Mem.tail _ (List.Mem.tail _ (List.Mem.tail _ (List.Mem.tail _ (List.Mem.head _))))))))))))
theorem wk_wsX2_announce_0_12 : Cond.instanceMethod yX2_listen ∈ wsX2_announce := lf_wsX2_announce_0 _ (List.Mem.tail _ (List.Mem.tail _ (List.Mem.tail _ (List.Mem.tail _ (List.Mem.tail _ (List.Mem.tail _ (List.Mem.tail _ (List.Mem.tail _ (List.Mem.tail _ (List.Mem.tail _ (List.Mem.tail _ (List.Mem.tail _ (List.Mem.head _)))))))))))))
theorem wk_wsX2_announce_0_13 : Cond.selects RX2 yX2_listen yX2_listen ∈ wsX2_announce := lf_wsX2_announce_0 _ (List.Mem.tail _ (List.Mem.tail _ (List.Mem.tail _ (List.Mem.tail _ (List.Mem.tail _ (List.Mem.tail _ (List.Mem.tail _ (List.Mem.tail _ (List.Mem.tail _ (List.Mem.tail _ (List.Mem.tail _ (List.Mem.tail _ (List.Mem.tail _ (List.Mem.head _))))))))))))))
theorem lf_wsX2_listen_0 : ∀ w ∈ wsX2_listen_r1, w ∈ wsX2_listen := fun w h => (List.mem_cons_of_mem _ (List.mem_append_left _ (List.mem_append_left _ (List.mem_append_left _ (List.mem_append_left _ h)))))
theorem lf_wsX2_listen_1 : ∀ w ∈ wsX2_listen_r2, w ∈ wsX2_listen := fun w h => (List.mem_cons_of_mem _ (List.mem_append_left _ (List.mem_append_left _ (List.mem_append_left _ (List.mem_append_right _ h)))))
theorem lf_wsX2_listen_2 : ∀ w ∈ wsX20, w ∈ wsX2_listen := fun w h => (List.mem_cons_of_mem _ (List.mem_append_left _ (List.mem_append_left _ (List.mem_append_right _ h))))
theorem lf_wsX2_listen_3 : ∀ w ∈ wsX00, w ∈ wsX2_listen := fun w h => (List.mem_cons_of_mem _ (List.mem_append_left _ (List.mem_append_right _ h)))
theorem lf_wsX2_listen_4 : ∀ w ∈ wsX10, w ∈ wsX2_listen := fun w h => (List.mem_cons_of_mem _ (List.mem_append_right _ h))
theorem wk_wsX2_listen_0_7 : Cond.code yX2_knowOnlyItself cX2_knowOnlyItself 2 none ∈ wsX2_listen := lf_wsX2_listen_0 _ (List.Mem.tail _ (List.Mem.tail _ (List.Mem.tail _ (List.Mem.tail _ (List.Mem.tail _ (List.Mem.tail _ (List.Mem.tail _ (List.Mem.head _))))))))
theorem wk_wsX2_listen_0_2 : Cond.fieldLink RX2 39 "TimeNet" "known" "LTimeNet$Knowledge;" ∈ wsX2_listen := lf_wsX2_listen_0 _ (List.Mem.tail _ (List.Mem.tail _ (List.Mem.head _)))
theorem wk_wsX2_listen_0_8 : Cond.methodLink RX2 157 yX2_rankOf ∈ wsX2_listen := lf_wsX2_listen_0 _ (List.Mem.tail _ (List.Mem.tail _ (List.Mem.tail _ (List.Mem.tail _ (List.Mem.tail _ (List.Mem.tail _ (List.Mem.tail _ (List.Mem.tail _ (List.Mem.head _)))))))))
theorem wk_wsX2_listen_0_9 : Cond.instanceMethod yX2_rankOf ∈ wsX2_listen := lf_wsX2_listen_0 _ (List.Mem.tail _ (List.Mem.tail _ (List.Mem.tail _ (List.Mem.tail _ (List.Mem.tail _ (List.Mem.tail _ (List.Mem.tail _ (List.Mem.tail _ (List.Mem.tail _ (List.Mem.head _))))))))))
theorem wk_wsX2_listen_0_10 : Cond.selects RX2 yX2_rankOf yX2_rankOf ∈ wsX2_listen := lf_wsX2_listen_0 _ (List.Mem.tail _ (List.Mem.tail _ (List.Mem.tail _ (List.Mem.tail _ (List.Mem.tail _ (List.Mem.tail _ (List.Mem.tail _ (List.Mem.tail _ (List.Mem.tail _ (List.Mem.tail _ (List.Mem.head _)))))))))))
theorem wk_wsX2_listen_0_6 : Cond.initialized RX2 ∈ wsX2_listen := lf_wsX2_listen_0 _ (List.Mem.tail _ (List.Mem.tail _ (List.Mem.tail _ (List.Mem.tail _ (List.Mem.tail _ (List.Mem.tail _ (List.Mem.head _)))))))
theorem wk_wsX2_listen_0_11 : Cond.code yX2_rankOf cX2_rankOf 2 (some .int) ∈ wsX2_listen := lf_wsX2_listen_0 _ (List.Mem.tail _ (List.Mem.tail _ (List.Mem.tail _ (List.Mem.tail _ (List.Mem.tail _ (List.Mem.tail _ (List.Mem.tail _ (List.Mem.tail _ (List.Mem.tail _ (List.Mem.tail _ (List.Mem.tail _ (List.Mem.head _))))))))))))
theorem wk_wsX2_listen_0_12 : Cond.fieldLink RX2 13 "TimeNet" "gradeOf" "[I" ∈ wsX2_listen := lf_wsX2_listen_0 _ (List.Mem.tail _ (List.Mem.tail _ (List.Mem.tail _ (List.Mem.tail _ (List.Mem.tail _ (List.Mem.tail _ (List.Mem.tail _ (List.Mem.tail _ (List.Mem.tail _ (List.Mem.tail _ (List.Mem.tail _ (List.Mem.tail _ (List.Mem.head _)))))))))))))
theorem wk_wsX2_listen_0_13 : Cond.fieldLink RX2 16 "TimeNet" "varianceOf" "[I" ∈ wsX2_listen := lf_wsX2_listen_0 _ (List.Mem.tail _ (List.Mem.tail _ (List.Mem.tail _ (List.Mem.tail _ (List.Mem.tail _ (List.Mem.tail _ (List.Mem.tail _ (List.Mem.tail _ (List.Mem.tail _ (List.Mem.tail _ (List.Mem.tail _ (List.Mem.tail _ (List.Mem.tail _ (List.Mem.head _))))))))))))))
theorem wk_wsX2_listen_0_14 : Cond.instanceMethod yX0_start ∈ wsX2_listen := lf_wsX2_listen_0 _ (List.Mem.tail _ (List.Mem.tail _ (List.Mem.tail _ (List.Mem.tail _ (List.Mem.tail _ (List.Mem.tail _ (List.Mem.tail _ (List.Mem.tail _ (List.Mem.tail _ (List.Mem.tail _ (List.Mem.tail _ (List.Mem.tail _ (List.Mem.tail _ (List.Mem.tail _ (List.Mem.head _)))))))))))))))
theorem wk_wsX2_listen_0_15 : Cond.initialized RX0 ∈ wsX2_listen := lf_wsX2_listen_0 _ (List.Mem.tail _ (List.Mem.tail _ (List.Mem.tail _ (List.Mem.tail _ (List.Mem.tail _ (List.Mem.tail _ (List.Mem.tail _ (List.Mem.tail _ (List.Mem.tail _ (List.Mem.tail _ (List.Mem.tail _ (List.Mem.tail _ (List.Mem.tail _ (List.Mem.tail _ (List.Mem.tail _ (List.Mem.head _))))))))))))))))
theorem wk_wsX2_listen_0_16 : Cond.selects RX0 yX0_start yX0_start ∈ wsX2_listen := lf_wsX2_listen_0 _ (List.Mem.tail _ (List.Mem.tail _ (List.Mem.tail _ (List.Mem.tail _ (List.Mem.tail _ (List.Mem.tail _ (List.Mem.tail _ (List.Mem.tail _ (List.Mem.tail _ (List.Mem.tail _ (List.Mem.tail _ (List.Mem.tail _ (List.Mem.tail _ (List.Mem.tail _ (List.Mem.tail _ (List.Mem.tail _ (List.Mem.head _)))))))))))))))))
theorem wk_wsX2_listen_0_17 : Cond.code yX0_start cX0_start 3 none ∈ wsX2_listen := lf_wsX2_listen_0 _ (List.Mem.tail _ (List.Mem.tail _ (List.Mem.tail _ (List.Mem.tail _ (List.Mem.tail _ (List.Mem.tail _ (List.Mem.tail _ (List.Mem.tail _ (List.Mem.tail _ (List.Mem.tail _ (List.Mem.tail _ (List.Mem.tail _ (List.Mem.tail _ (List.Mem.tail _ (List.Mem.tail _ (List.Mem.tail _ (List.Mem.tail _ (List.Mem.head _))))))))))))))))))
theorem wk_wsX2_listen_0_18 : Cond.fieldLink RX0 9 "TimeNet$Knowledge" "clockNode" "[I" ∈ wsX2_listen := lf_wsX2_listen_0 _ (List.Mem.tail _ (List.Mem.tail _ (List.Mem.tail _ (List.Mem.tail _ (List.Mem.tail _ (List.Mem.tail _ (List.Mem.tail _ (List.Mem.tail _ (List.Mem.tail _ (List.Mem.tail _ (List.Mem.tail _ (List.Mem.tail _ (List.Mem.tail _ (List.Mem.tail _ (List.Mem.tail _ (List.Mem.tail _ (List.Mem.tail _ (List.Mem.tail _ (List.Mem.head _)))))))))))))))))))
theorem wk_wsX2_listen_0_19 : Cond.fieldLink RX0 15 "TimeNet$Knowledge" "clockRank" "[I" ∈ wsX2_listen := lf_wsX2_listen_0 _ (List.Mem.tail _ (List.Mem.tail _ (List.Mem.tail _ (List.Mem.tail _ (List.Mem.tail _ (List.Mem.tail _ (List.Mem.tail _ (List.Mem.tail _ (List.Mem.tail _ (List.Mem.tail _ (List.Mem.tail _ (List.Mem.tail _ (List.Mem.tail _ (List.Mem.tail _ (List.Mem.tail _ (List.Mem.tail _ (List.Mem.tail _ (List.Mem.tail _ (List.Mem.tail _ (List.Mem.head _))))))))))))))))))))
theorem wk_wsX2_listen_0_20 : Cond.fieldLink RX0 18 "TimeNet$Knowledge" "stepsAway" "[I" ∈ wsX2_listen := lf_wsX2_listen_0 _ (List.Mem.tail _ (List.Mem.tail _ (List.Mem.tail _ (List.Mem.tail _ (List.Mem.tail _ (List.Mem.tail _ (List.Mem.tail _ (List.Mem.tail _ (List.Mem.tail _ (List.Mem.tail _ (List.Mem.tail _ (List.Mem.tail _ (List.Mem.tail _ (List.Mem.tail _ (List.Mem.tail _ (List.Mem.tail _ (List.Mem.tail _ (List.Mem.tail _ (List.Mem.tail _ (List.Mem.tail _ (List.Mem.head _)))))))))))))))))))))
theorem wk_wsX2_listen_0_21 : Cond.fieldLink RX0 21 "TimeNet$Knowledge" "knownFrom" "[I" ∈ wsX2_listen := lf_wsX2_listen_0 _ (List.Mem.tail _ (List.Mem.tail _ (List.Mem.tail _ (List.Mem.tail _ (List.Mem.tail _ (List.Mem.tail _ (List.Mem.tail _ (List.Mem.tail _ (List.Mem.tail _ (List.Mem.tail _ (List.Mem.tail _ (List.Mem.tail _ (List.Mem.tail _ (List.Mem.tail _ (List.Mem.tail _ (List.Mem.tail _ (List.Mem.tail _ (List.Mem.tail _ (List.Mem.tail _ (List.Mem.tail _ (List.Mem.tail _ (List.Mem.head _))))))))))))))))))))))
theorem wk_wsX2_listen_0_3 : Cond.methodLink RX2 67 yX2_knowOnlyItself ∈ wsX2_listen := lf_wsX2_listen_0 _ (List.Mem.tail _ (List.Mem.tail _ (List.Mem.tail _ (List.Mem.head _))))
theorem wk_wsX2_listen_0_4 : Cond.instanceMethod yX2_knowOnlyItself ∈ wsX2_listen := lf_wsX2_listen_0 _ (List.Mem.tail _ (List.Mem.tail _ (List.Mem.tail _ (List.Mem.tail _ (List.Mem.head _)))))
theorem wk_wsX2_listen_0_5 : Cond.selects RX2 yX2_knowOnlyItself yX2_knowOnlyItself ∈ wsX2_listen := lf_wsX2_listen_0 _ (List.Mem.tail _ (List.Mem.tail _ (List.Mem.tail _ (List.Mem.tail _ (List.Mem.tail _ (List.Mem.head _))))))
theorem wk_wsX2_listen_1_1 : Cond.code yX2_areNeighbours cX2_areNeighbours 3 (some .boolean) ∈ wsX2_listen := lf_wsX2_listen_1 _ (List.Mem.tail _ (List.Mem.head _))
theorem wk_wsX2_listen_1_2 : Cond.fieldLink RX2 9 "TimeNet" "domainOf" "[I" ∈ wsX2_listen := lf_wsX2_listen_1 _ (List.Mem.tail _ (List.Mem.tail _ (List.Mem.head _)))
theorem wk_wsX2_listen_1_3 : Cond.fieldLink RX2 32 "TimeNet" "wires" "LTimeNet$Wires;" ∈ wsX2_listen := lf_wsX2_listen_1 _ (List.Mem.tail _ (List.Mem.tail _ (List.Mem.tail _ (List.Mem.head _))))
theorem wk_wsX2_listen_1_4 : Cond.instanceMethod yX1_areLinked ∈ wsX2_listen := lf_wsX2_listen_1 _ (List.Mem.tail _ (List.Mem.tail _ (List.Mem.tail _ (List.Mem.tail _ (List.Mem.head _)))))
theorem wk_wsX2_listen_1_5 : Cond.initialized RX1 ∈ wsX2_listen := lf_wsX2_listen_1 _ (List.Mem.tail _ (List.Mem.tail _ (List.Mem.tail _ (List.Mem.tail _ (List.Mem.tail _ (List.Mem.head _))))))
theorem wk_wsX2_listen_1_6 : Cond.selects RX1 yX1_areLinked yX1_areLinked ∈ wsX2_listen := lf_wsX2_listen_1 _ (List.Mem.tail _ (List.Mem.tail _ (List.Mem.tail _ (List.Mem.tail _ (List.Mem.tail _ (List.Mem.tail _ (List.Mem.head _)))))))
theorem wk_wsX2_listen_1_7 : Cond.code yX1_areLinked cX1_areLinked 3 (some .boolean) ∈ wsX2_listen := lf_wsX2_listen_1 _ (List.Mem.tail _ (List.Mem.tail _ (List.Mem.tail _ (List.Mem.tail _ (List.Mem.tail _ (List.Mem.tail _ (List.Mem.tail _ (List.Mem.head _))))))))
theorem wk_wsX2_listen_1_8 : Cond.fieldLink RX1 9 "TimeNet$Wires" "laid" "[Z" ∈ wsX2_listen := lf_wsX2_listen_1 _ (List.Mem.tail _ (List.Mem.tail _ (List.Mem.tail _ (List.Mem.tail _ (List.Mem.tail _ (List.Mem.tail _ (List.Mem.tail _ (List.Mem.tail _ (List.Mem.head _)))))))))
theorem wk_wsX2_listen_1_9 : Cond.methodLink RX1 26 yX1_place ∈ wsX2_listen := lf_wsX2_listen_1 _ (List.Mem.tail _ (List.Mem.tail _ (List.Mem.tail _ (List.Mem.tail _ (List.Mem.tail _ (List.Mem.tail _ (List.Mem.tail _ (List.Mem.tail _ (List.Mem.tail _ (List.Mem.head _))))))))))
theorem wk_wsX2_listen_1_10 : Cond.static yX1_place ∈ wsX2_listen := lf_wsX2_listen_1 _ (List.Mem.tail _ (List.Mem.tail _ (List.Mem.tail _ (List.Mem.tail _ (List.Mem.tail _ (List.Mem.tail _ (List.Mem.tail _ (List.Mem.tail _ (List.Mem.tail _ (List.Mem.tail _ (List.Mem.head _)))))))))))
theorem wk_wsX2_listen_1_11 : Cond.code yX1_place cX1_place 2 (some .int) ∈ wsX2_listen := lf_wsX2_listen_1 _ (List.Mem.tail _ (List.Mem.tail _ (List.Mem.tail _ (List.Mem.tail _ (List.Mem.tail _ (List.Mem.tail _ (List.Mem.tail _ (List.Mem.tail _ (List.Mem.tail _ (List.Mem.tail _ (List.Mem.tail _ (List.Mem.head _))))))))))))
theorem wk_wsX2_listen_0_22 : Cond.methodLink RX2 122 yX2_areNeighbours ∈ wsX2_listen := lf_wsX2_listen_0 _ (List.Mem.tail _ (List.Mem.tail _ (List.Mem.tail _ (List.Mem.tail _ (List.Mem.tail _ (List.Mem.tail _ (List.Mem.tail _ (List.Mem.tail _ (List.Mem.tail _ (List.Mem.tail _ (List.Mem.tail _ (List.Mem.tail _ (List.Mem.tail _ (List.Mem.tail _ (List.Mem.tail _ (List.Mem.tail _ (List.Mem.tail _ (List.Mem.tail _ (List.Mem.tail _ (List.Mem.tail _ (List.Mem.tail _ (List.Mem.tail _ (List.Mem.head _)))))))))))))))))))))))
theorem wk_wsX2_listen_0_23 : Cond.instanceMethod yX2_areNeighbours ∈ wsX2_listen := lf_wsX2_listen_0 _ (List.Mem.tail _ (List.Mem.tail _ (List.Mem.tail _ (List.Mem.tail _ (List.Mem.tail _ (List.Mem.tail _ (List.Mem.tail _ (List.Mem.tail _ (List.Mem.tail _ (List.Mem.tail _ (List.Mem.tail _ (List.Mem.tail _ (List.Mem.tail _ (List.Mem.tail _ (List.Mem.tail _ (List.Mem.tail _ (List.Mem.tail _ (List.Mem.tail _ (List.Mem.tail _ (List.Mem.tail _ (List.Mem.tail _ (List.Mem.tail _ (List.Mem.tail _ (List.Mem.head _))))))))))))))))))))))))
theorem wk_wsX2_listen_1_0 : Cond.selects RX2 yX2_areNeighbours yX2_areNeighbours ∈ wsX2_listen := lf_wsX2_listen_1 _ (List.Mem.head _)
theorem wk_wsX2_listen_1_14 : Cond.code yX0_reaches cX0_reaches 3 (some .boolean) ∈ wsX2_listen := lf_wsX2_listen_1 _ (List.Mem.tail _ (List.Mem.tail _ (List.Mem.tail _ (List.Mem.tail _ (List.Mem.tail _ (List.Mem.tail _ (List.Mem.tail _ (List.Mem.tail _ (List.Mem.tail _ (List.Mem.tail _ (List.Mem.tail _ (List.Mem.tail _ (List.Mem.tail _ (List.Mem.tail _ (List.Mem.head _)))))))))))))))
theorem wk_wsX2_listen_1_17 : Cond.code yX0_takeIfBetter cX0_takeIfBetter 6 none ∈ wsX2_listen := lf_wsX2_listen_1 _ (List.Mem.tail _ (List.Mem.tail _ (List.Mem.tail _ (List.Mem.tail _ (List.Mem.tail _ (List.Mem.tail _ (List.Mem.tail _ (List.Mem.tail _ (List.Mem.tail _ (List.Mem.tail _ (List.Mem.tail _ (List.Mem.tail _ (List.Mem.tail _ (List.Mem.tail _ (List.Mem.tail _ (List.Mem.tail _ (List.Mem.tail _ (List.Mem.head _))))))))))))))))))
theorem lf_wsX2_measureDistances_0 : ∀ w ∈ ([.fieldLink RX2 49 "TimeNet" "nodeCount" "I", .fieldLink RX2 46 "TimeNet" "distanceTo" "[I", .methodLink RX2 177 yX2_reachNeighbours, .instanceMethod yX2_reachNeighbours, .selects RX2 yX2_reachNeighbours yX2_reachNeighbours, .initialized RX2, .code yX2_reachNeighbours cX2_reachNeighbours 4 none, .methodLink RX2 122 yX2_areNeighbours, .instanceMethod yX2_areNeighbours, .selects RX2 yX2_areNeighbours yX2_areNeighbours, .code yX2_areNeighbours cX2_areNeighbours 3 (some .boolean), .fieldLink RX2 9 "TimeNet" "domainOf" "[I", .fieldLink RX2 32 "TimeNet" "wires" "LTimeNet$Wires;", .instanceMethod yX1_areLinked, .initialized RX1, .selects RX1 yX1_areLinked yX1_areLinked, .code yX1_areLinked cX1_areLinked 3 (some .boolean), .fieldLink RX1 9 "TimeNet$Wires" "laid" "[Z", .methodLink RX1 26 yX1_place, .static yX1_place, .code yX1_place cX1_place 2 (some .int)] : List Cond), w ∈ wsX2_measureDistances := fun w h => (List.mem_cons_of_mem _ (List.mem_append_left _ (List.mem_append_left _ h)))
theorem lf_wsX2_measureDistances_1 : ∀ w ∈ wsX20, w ∈ wsX2_measureDistances := fun w h => (List.mem_cons_of_mem _ (List.mem_append_left _ (List.mem_append_right _ h)))
theorem lf_wsX2_measureDistances_2 : ∀ w ∈ wsX10, w ∈ wsX2_measureDistances := fun w h => (List.mem_cons_of_mem _ (List.mem_append_right _ h))
theorem wk_wsX2_measureDistances_0_6 : Cond.code yX2_reachNeighbours cX2_reachNeighbours 4 none ∈ wsX2_measureDistances := lf_wsX2_measureDistances_0 _ (List.Mem.tail _ (List.Mem.tail _ (List.Mem.tail _ (List.Mem.tail _ (List.Mem.tail _ (List.Mem.tail _ (List.Mem.head _)))))))
theorem wk_wsX2_measureDistances_0_0 : Cond.fieldLink RX2 49 "TimeNet" "nodeCount" "I" ∈ wsX2_measureDistances := lf_wsX2_measureDistances_0 _ (List.Mem.head _)
theorem wk_wsX2_measureDistances_0_1 : Cond.fieldLink RX2 46 "TimeNet" "distanceTo" "[I" ∈ wsX2_measureDistances := lf_wsX2_measureDistances_0 _ (List.Mem.tail _ (List.Mem.head _))
theorem wk_wsX2_measureDistances_0_7 : Cond.methodLink RX2 122 yX2_areNeighbours ∈ wsX2_measureDistances := lf_wsX2_measureDistances_0 _ (List.Mem.tail _ (List.Mem.tail _ (List.Mem.tail _ (List.Mem.tail _ (List.Mem.tail _ (List.Mem.tail _ (List.Mem.tail _ (List.Mem.head _))))))))
theorem wk_wsX2_measureDistances_0_8 : Cond.instanceMethod yX2_areNeighbours ∈ wsX2_measureDistances := lf_wsX2_measureDistances_0 _ (List.Mem.tail _ (List.Mem.tail _ (List.Mem.tail _ (List.Mem.tail _ (List.Mem.tail _ (List.Mem.tail _ (List.Mem.tail _ (List.Mem.tail _ (List.Mem.head _)))))))))
theorem wk_wsX2_measureDistances_0_9 : Cond.selects RX2 yX2_areNeighbours yX2_areNeighbours ∈ wsX2_measureDistances := lf_wsX2_measureDistances_0 _ (List.Mem.tail _ (List.Mem.tail _ (List.Mem.tail _ (List.Mem.tail _ (List.Mem.tail _ (List.Mem.tail _ (List.Mem.tail _ (List.Mem.tail _ (List.Mem.tail _ (List.Mem.head _))))))))))
theorem wk_wsX2_measureDistances_0_5 : Cond.initialized RX2 ∈ wsX2_measureDistances := lf_wsX2_measureDistances_0 _ (List.Mem.tail _ (List.Mem.tail _ (List.Mem.tail _ (List.Mem.tail _ (List.Mem.tail _ (List.Mem.head _))))))
theorem wk_wsX2_measureDistances_0_10 : Cond.code yX2_areNeighbours cX2_areNeighbours 3 (some .boolean) ∈ wsX2_measureDistances := lf_wsX2_measureDistances_0 _ (List.Mem.tail _ (List.Mem.tail _ (List.Mem.tail _ (List.Mem.tail _ (List.Mem.tail _ (List.Mem.tail _ (List.Mem.tail _ (List.Mem.tail _ (List.Mem.tail _ (List.Mem.tail _ (List.Mem.head _)))))))))))
theorem wk_wsX2_measureDistances_0_11 : Cond.fieldLink RX2 9 "TimeNet" "domainOf" "[I" ∈ wsX2_measureDistances := lf_wsX2_measureDistances_0 _ (List.Mem.tail _ (List.Mem.tail _ (List.Mem.tail _ (List.Mem.tail _ (List.Mem.tail _ (List.Mem.tail _ (List.Mem.tail _ (List.Mem.tail _ (List.Mem.tail _ (List.Mem.tail _ (List.Mem.tail _ (List.Mem.head _))))))))))))
theorem wk_wsX2_measureDistances_0_12 : Cond.fieldLink RX2 32 "TimeNet" "wires" "LTimeNet$Wires;" ∈ wsX2_measureDistances := lf_wsX2_measureDistances_0 _ (List.Mem.tail _ (List.Mem.tail _ (List.Mem.tail _ (List.Mem.tail _ (List.Mem.tail _ (List.Mem.tail _ (List.Mem.tail _ (List.Mem.tail _ (List.Mem.tail _ (List.Mem.tail _ (List.Mem.tail _ (List.Mem.tail _ (List.Mem.head _)))))))))))))
theorem wk_wsX2_measureDistances_0_13 : Cond.instanceMethod yX1_areLinked ∈ wsX2_measureDistances := lf_wsX2_measureDistances_0 _ (List.Mem.tail _ (List.Mem.tail _ (List.Mem.tail _ (List.Mem.tail _ (List.Mem.tail _ (List.Mem.tail _ (List.Mem.tail _ (List.Mem.tail _ (List.Mem.tail _ (List.Mem.tail _ (List.Mem.tail _ (List.Mem.tail _ (List.Mem.tail _ (List.Mem.head _))))))))))))))
theorem wk_wsX2_measureDistances_0_14 : Cond.initialized RX1 ∈ wsX2_measureDistances := lf_wsX2_measureDistances_0 _ (List.Mem.tail _ (List.Mem.tail _ (List.Mem.tail _ (List.Mem.tail _ (List.Mem.tail _ (List.Mem.tail _ (List.Mem.tail _ (List.Mem.tail _ (List.Mem.tail _ (List.Mem.tail _ (List.Mem.tail _ (List.Mem.tail _ (List.Mem.tail _ (List.Mem.tail _ (List.Mem.head _)))))))))))))))
theorem wk_wsX2_measureDistances_0_15 : Cond.selects RX1 yX1_areLinked yX1_areLinked ∈ wsX2_measureDistances := lf_wsX2_measureDistances_0 _ (List.Mem.tail _ (List.Mem.tail _ (List.Mem.tail _ (List.Mem.tail _ (List.Mem.tail _ (List.Mem.tail _ (List.Mem.tail _ (List.Mem.tail _ (List.Mem.tail _ (List.Mem.tail _ (List.Mem.tail _ (List.Mem.tail _ (List.Mem.tail _ (List.Mem.tail _ (List.Mem.tail _ (List.Mem.head _))))))))))))))))
theorem wk_wsX2_measureDistances_0_16 : Cond.code yX1_areLinked cX1_areLinked 3 (some .boolean) ∈ wsX2_measureDistances := lf_wsX2_measureDistances_0 _ (List.Mem.tail _ (List.Mem.tail _ (List.Mem.tail _ (List.Mem.tail _ (List.Mem.tail _ (List.Mem.tail _ (List.Mem.tail _ (List.Mem.tail _ (List.Mem.tail _ (List.Mem.tail _ (List.Mem.tail _ (List.Mem.tail _ (List.Mem.tail _ (List.Mem.tail _ (List.Mem.tail _ (List.Mem.tail _ (List.Mem.head _)))))))))))))))))
theorem wk_wsX2_measureDistances_0_17 : Cond.fieldLink RX1 9 "TimeNet$Wires" "laid" "[Z" ∈ wsX2_measureDistances := lf_wsX2_measureDistances_0 _ (List.Mem.tail _ (List.Mem.tail _ (List.Mem.tail _ (List.Mem.tail _ (List.Mem.tail _ (List.Mem.tail _ (List.Mem.tail _ (List.Mem.tail _ (List.Mem.tail _ (List.Mem.tail _ (List.Mem.tail _ (List.Mem.tail _ (List.Mem.tail _ (List.Mem.tail _ (List.Mem.tail _ (List.Mem.tail _ (List.Mem.tail _ (List.Mem.head _))))))))))))))))))
theorem wk_wsX2_measureDistances_0_18 : Cond.methodLink RX1 26 yX1_place ∈ wsX2_measureDistances := lf_wsX2_measureDistances_0 _ (List.Mem.tail _ (List.Mem.tail _ (List.Mem.tail _ (List.Mem.tail _ (List.Mem.tail _ (List.Mem.tail _ (List.Mem.tail _ (List.Mem.tail _ (List.Mem.tail _ (List.Mem.tail _ (List.Mem.tail _ (List.Mem.tail _ (List.Mem.tail _ (List.Mem.tail _ (List.Mem.tail _ (List.Mem.tail _ (List.Mem.tail _ (List.Mem.tail _ (List.Mem.head _)))))))))))))))))))
theorem wk_wsX2_measureDistances_0_19 : Cond.static yX1_place ∈ wsX2_measureDistances := lf_wsX2_measureDistances_0 _ (List.Mem.tail _ (List.Mem.tail _ (List.Mem.tail _ (List.Mem.tail _ (List.Mem.tail _ (List.Mem.tail _ (List.Mem.tail _ (List.Mem.tail _ (List.Mem.tail _ (List.Mem.tail _ (List.Mem.tail _ (List.Mem.tail _ (List.Mem.tail _ (List.Mem.tail _ (List.Mem.tail _ (List.Mem.tail _ (List.Mem.tail _ (List.Mem.tail _ (List.Mem.tail _ (List.Mem.head _))))))))))))))))))))
theorem wk_wsX2_measureDistances_0_20 : Cond.code yX1_place cX1_place 2 (some .int) ∈ wsX2_measureDistances := lf_wsX2_measureDistances_0 _ (List.Mem.tail _ (List.Mem.tail _ (List.Mem.tail _ (List.Mem.tail _ (List.Mem.tail _ (List.Mem.tail _ (List.Mem.tail _ (List.Mem.tail _ (List.Mem.tail _ (List.Mem.tail _ (List.Mem.tail _ (List.Mem.tail _ (List.Mem.tail _ (List.Mem.tail _ (List.Mem.tail _ (List.Mem.tail _ (List.Mem.tail _ (List.Mem.tail _ (List.Mem.tail _ (List.Mem.tail _ (List.Mem.head _)))))))))))))))))))))
theorem wk_wsX2_measureDistances_0_2 : Cond.methodLink RX2 177 yX2_reachNeighbours ∈ wsX2_measureDistances := lf_wsX2_measureDistances_0 _ (List.Mem.tail _ (List.Mem.tail _ (List.Mem.head _)))
theorem wk_wsX2_measureDistances_0_3 : Cond.instanceMethod yX2_reachNeighbours ∈ wsX2_measureDistances := lf_wsX2_measureDistances_0 _ (List.Mem.tail _ (List.Mem.tail _ (List.Mem.tail _ (List.Mem.head _))))
theorem wk_wsX2_measureDistances_0_4 : Cond.selects RX2 yX2_reachNeighbours yX2_reachNeighbours ∈ wsX2_measureDistances := lf_wsX2_measureDistances_0 _ (List.Mem.tail _ (List.Mem.tail _ (List.Mem.tail _ (List.Mem.tail _ (List.Mem.head _)))))
theorem lf_wsX2_reachNeighbours_0 : ∀ w ∈ ([.fieldLink RX2 49 "TimeNet" "nodeCount" "I", .fieldLink RX2 46 "TimeNet" "distanceTo" "[I", .methodLink RX2 122 yX2_areNeighbours, .instanceMethod yX2_areNeighbours, .selects RX2 yX2_areNeighbours yX2_areNeighbours, .initialized RX2, .code yX2_areNeighbours cX2_areNeighbours 3 (some .boolean), .fieldLink RX2 9 "TimeNet" "domainOf" "[I", .fieldLink RX2 32 "TimeNet" "wires" "LTimeNet$Wires;", .instanceMethod yX1_areLinked, .initialized RX1, .selects RX1 yX1_areLinked yX1_areLinked, .code yX1_areLinked cX1_areLinked 3 (some .boolean), .fieldLink RX1 9 "TimeNet$Wires" "laid" "[Z", .methodLink RX1 26 yX1_place, .static yX1_place, .code yX1_place cX1_place 2 (some .int)] : List Cond), w ∈ wsX2_reachNeighbours := fun w h => (List.mem_cons_of_mem _ (List.mem_append_left _ (List.mem_append_left _ h)))
theorem lf_wsX2_reachNeighbours_1 : ∀ w ∈ wsX20, w ∈ wsX2_reachNeighbours := fun w h => (List.mem_cons_of_mem _ (List.mem_append_left _ (List.mem_append_right _ h)))
theorem lf_wsX2_reachNeighbours_2 : ∀ w ∈ wsX10, w ∈ wsX2_reachNeighbours := fun w h => (List.mem_cons_of_mem _ (List.mem_append_right _ h))
theorem wk_wsX2_reachNeighbours_0_6 : Cond.code yX2_areNeighbours cX2_areNeighbours 3 (some .boolean) ∈ wsX2_reachNeighbours := lf_wsX2_reachNeighbours_0 _ (List.Mem.tail _ (List.Mem.tail _ (List.Mem.tail _ (List.Mem.tail _ (List.Mem.tail _ (List.Mem.tail _ (List.Mem.head _)))))))
theorem wk_wsX2_reachNeighbours_0_7 : Cond.fieldLink RX2 9 "TimeNet" "domainOf" "[I" ∈ wsX2_reachNeighbours := lf_wsX2_reachNeighbours_0 _ (List.Mem.tail _ (List.Mem.tail _ (List.Mem.tail _ (List.Mem.tail _ (List.Mem.tail _ (List.Mem.tail _ (List.Mem.tail _ (List.Mem.head _))))))))
theorem wk_wsX2_reachNeighbours_0_8 : Cond.fieldLink RX2 32 "TimeNet" "wires" "LTimeNet$Wires;" ∈ wsX2_reachNeighbours := lf_wsX2_reachNeighbours_0 _ (List.Mem.tail _ (List.Mem.tail _ (List.Mem.tail _ (List.Mem.tail _ (List.Mem.tail _ (List.Mem.tail _ (List.Mem.tail _ (List.Mem.tail _ (List.Mem.head _)))))))))
theorem wk_wsX2_reachNeighbours_0_9 : Cond.instanceMethod yX1_areLinked ∈ wsX2_reachNeighbours := lf_wsX2_reachNeighbours_0 _ (List.Mem.tail _ (List.Mem.tail _ (List.Mem.tail _ (List.Mem.tail _ (List.Mem.tail _ (List.Mem.tail _ (List.Mem.tail _ (List.Mem.tail _ (List.Mem.tail _ (List.Mem.head _))))))))))
theorem wk_wsX2_reachNeighbours_0_10 : Cond.initialized RX1 ∈ wsX2_reachNeighbours := lf_wsX2_reachNeighbours_0 _ (List.Mem.tail _ (List.Mem.tail _ (List.Mem.tail _ (List.Mem.tail _ (List.Mem.tail _ (List.Mem.tail _ (List.Mem.tail _ (List.Mem.tail _ (List.Mem.tail _ (List.Mem.tail _ (List.Mem.head _)))))))))))
theorem wk_wsX2_reachNeighbours_0_11 : Cond.selects RX1 yX1_areLinked yX1_areLinked ∈ wsX2_reachNeighbours := lf_wsX2_reachNeighbours_0 _ (List.Mem.tail _ (List.Mem.tail _ (List.Mem.tail _ (List.Mem.tail _ (List.Mem.tail _ (List.Mem.tail _ (List.Mem.tail _ (List.Mem.tail _ (List.Mem.tail _ (List.Mem.tail _ (List.Mem.tail _ (List.Mem.head _))))))))))))
theorem wk_wsX2_reachNeighbours_0_12 : Cond.code yX1_areLinked cX1_areLinked 3 (some .boolean) ∈ wsX2_reachNeighbours := lf_wsX2_reachNeighbours_0 _ (List.Mem.tail _ (List.Mem.tail _ (List.Mem.tail _ (List.Mem.tail _ (List.Mem.tail _ (List.Mem.tail _ (List.Mem.tail _ (List.Mem.tail _ (List.Mem.tail _ (List.Mem.tail _ (List.Mem.tail _ (List.Mem.tail _ (List.Mem.head _)))))))))))))
theorem wk_wsX2_reachNeighbours_0_13 : Cond.fieldLink RX1 9 "TimeNet$Wires" "laid" "[Z" ∈ wsX2_reachNeighbours := lf_wsX2_reachNeighbours_0 _ (List.Mem.tail _ (List.Mem.tail _ (List.Mem.tail _ (List.Mem.tail _ (List.Mem.tail _ (List.Mem.tail _ (List.Mem.tail _ (List.Mem.tail _ (List.Mem.tail _ (List.Mem.tail _ (List.Mem.tail _ (List.Mem.tail _ (List.Mem.tail _ (List.Mem.head _))))))))))))))
theorem wk_wsX2_reachNeighbours_0_14 : Cond.methodLink RX1 26 yX1_place ∈ wsX2_reachNeighbours := lf_wsX2_reachNeighbours_0 _ (List.Mem.tail _ (List.Mem.tail _ (List.Mem.tail _ (List.Mem.tail _ (List.Mem.tail _ (List.Mem.tail _ (List.Mem.tail _ (List.Mem.tail _ (List.Mem.tail _ (List.Mem.tail _ (List.Mem.tail _ (List.Mem.tail _ (List.Mem.tail _ (List.Mem.tail _ (List.Mem.head _)))))))))))))))
theorem wk_wsX2_reachNeighbours_0_15 : Cond.static yX1_place ∈ wsX2_reachNeighbours := lf_wsX2_reachNeighbours_0 _ (List.Mem.tail _ (List.Mem.tail _ (List.Mem.tail _ (List.Mem.tail _ (List.Mem.tail _ (List.Mem.tail _ (List.Mem.tail _ (List.Mem.tail _ (List.Mem.tail _ (List.Mem.tail _ (List.Mem.tail _ (List.Mem.tail _ (List.Mem.tail _ (List.Mem.tail _ (List.Mem.tail _ (List.Mem.head _))))))))))))))))
theorem wk_wsX2_reachNeighbours_0_16 : Cond.code yX1_place cX1_place 2 (some .int) ∈ wsX2_reachNeighbours := lf_wsX2_reachNeighbours_0 _ (List.Mem.tail _ (List.Mem.tail _ (List.Mem.tail _ (List.Mem.tail _ (List.Mem.tail _ (List.Mem.tail _ (List.Mem.tail _ (List.Mem.tail _ (List.Mem.tail _ (List.Mem.tail _ (List.Mem.tail _ (List.Mem.tail _ (List.Mem.tail _ (List.Mem.tail _ (List.Mem.tail _ (List.Mem.tail _ (List.Mem.head _)))))))))))))))))
theorem wk_wsX2_reachNeighbours_0_2 : Cond.methodLink RX2 122 yX2_areNeighbours ∈ wsX2_reachNeighbours := lf_wsX2_reachNeighbours_0 _ (List.Mem.tail _ (List.Mem.tail _ (List.Mem.head _)))
theorem wk_wsX2_reachNeighbours_0_3 : Cond.instanceMethod yX2_areNeighbours ∈ wsX2_reachNeighbours := lf_wsX2_reachNeighbours_0 _ (List.Mem.tail _ (List.Mem.tail _ (List.Mem.tail _ (List.Mem.head _))))
theorem wk_wsX2_reachNeighbours_0_4 : Cond.selects RX2 yX2_areNeighbours yX2_areNeighbours ∈ wsX2_reachNeighbours := lf_wsX2_reachNeighbours_0 _ (List.Mem.tail _ (List.Mem.tail _ (List.Mem.tail _ (List.Mem.tail _ (List.Mem.head _)))))
theorem wk_wsX2_reachNeighbours_0_5 : Cond.initialized RX2 ∈ wsX2_reachNeighbours := lf_wsX2_reachNeighbours_0 _ (List.Mem.tail _ (List.Mem.tail _ (List.Mem.tail _ (List.Mem.tail _ (List.Mem.tail _ (List.Mem.head _))))))
theorem lf_wsX2_bestInReach_0 : ∀ w ∈ ([.fieldLink RX2 49 "TimeNet" "nodeCount" "I", .fieldLink RX2 46 "TimeNet" "distanceTo" "[I", .methodLink RX2 157 yX2_rankOf, .instanceMethod yX2_rankOf, .selects RX2 yX2_rankOf yX2_rankOf, .initialized RX2, .code yX2_rankOf cX2_rankOf 2 (some .int), .fieldLink RX2 13 "TimeNet" "gradeOf" "[I", .fieldLink RX2 16 "TimeNet" "varianceOf" "[I"] : List Cond), w ∈ wsX2_bestInReach := fun w h => (List.mem_cons_of_mem _ (List.mem_append_left _ h))
theorem lf_wsX2_bestInReach_1 : ∀ w ∈ wsX20, w ∈ wsX2_bestInReach := fun w h => (List.mem_cons_of_mem _ (List.mem_append_right _ h))
theorem wk_wsX2_bestInReach_0_6 : Cond.code yX2_rankOf cX2_rankOf 2 (some .int) ∈ wsX2_bestInReach := lf_wsX2_bestInReach_0 _ (List.Mem.tail _ (List.Mem.tail _ (List.Mem.tail _ (List.Mem.tail _ (List.Mem.tail _ (List.Mem.tail _ (List.Mem.head _)))))))
theorem wk_wsX2_bestInReach_0_7 : Cond.fieldLink RX2 13 "TimeNet" "gradeOf" "[I" ∈ wsX2_bestInReach := lf_wsX2_bestInReach_0 _ (List.Mem.tail _ (List.Mem.tail _ (List.Mem.tail _ (List.Mem.tail _ (List.Mem.tail _ (List.Mem.tail _ (List.Mem.tail _ (List.Mem.head _))))))))
theorem wk_wsX2_bestInReach_0_8 : Cond.fieldLink RX2 16 "TimeNet" "varianceOf" "[I" ∈ wsX2_bestInReach := lf_wsX2_bestInReach_0 _ (List.Mem.tail _ (List.Mem.tail _ (List.Mem.tail _ (List.Mem.tail _ (List.Mem.tail _ (List.Mem.tail _ (List.Mem.tail _ (List.Mem.tail _ (List.Mem.head _)))))))))
theorem wk_wsX2_bestInReach_0_2 : Cond.methodLink RX2 157 yX2_rankOf ∈ wsX2_bestInReach := lf_wsX2_bestInReach_0 _ (List.Mem.tail _ (List.Mem.tail _ (List.Mem.head _)))
theorem wk_wsX2_bestInReach_0_3 : Cond.instanceMethod yX2_rankOf ∈ wsX2_bestInReach := lf_wsX2_bestInReach_0 _ (List.Mem.tail _ (List.Mem.tail _ (List.Mem.tail _ (List.Mem.head _))))
theorem wk_wsX2_bestInReach_0_4 : Cond.selects RX2 yX2_rankOf yX2_rankOf ∈ wsX2_bestInReach := lf_wsX2_bestInReach_0 _ (List.Mem.tail _ (List.Mem.tail _ (List.Mem.tail _ (List.Mem.tail _ (List.Mem.head _)))))
theorem wk_wsX2_bestInReach_0_5 : Cond.initialized RX2 ∈ wsX2_bestInReach := lf_wsX2_bestInReach_0 _ (List.Mem.tail _ (List.Mem.tail _ (List.Mem.tail _ (List.Mem.tail _ (List.Mem.tail _ (List.Mem.head _))))))
theorem lf_wsX2_passOneTick_0 : ∀ w ∈ wsX2_passOneTick_r1, w ∈ wsX2_passOneTick := fun w h => (List.mem_cons_of_mem _ (List.mem_append_left _ (List.mem_append_left _ (List.mem_append_left _ (List.mem_append_left _ h)))))
theorem lf_wsX2_passOneTick_1 : ∀ w ∈ wsX2_passOneTick_r2, w ∈ wsX2_passOneTick := fun w h => (List.mem_cons_of_mem _ (List.mem_append_left _ (List.mem_append_left _ (List.mem_append_left _ (List.mem_append_right _ (List.mem_append_left _ h))))))
theorem lf_wsX2_passOneTick_2 : ∀ w ∈ wsX2_passOneTick_r3, w ∈ wsX2_passOneTick := fun w h => (List.mem_cons_of_mem _ (List.mem_append_left _ (List.mem_append_left _ (List.mem_append_left _ (List.mem_append_right _ (List.mem_append_right _ h))))))
theorem lf_wsX2_passOneTick_3 : ∀ w ∈ wsX20, w ∈ wsX2_passOneTick := fun w h => (List.mem_cons_of_mem _ (List.mem_append_left _ (List.mem_append_left _ (List.mem_append_right _ h))))
theorem lf_wsX2_passOneTick_4 : ∀ w ∈ wsX00, w ∈ wsX2_passOneTick := fun w h => (List.mem_cons_of_mem _ (List.mem_append_left _ (List.mem_append_right _ h)))
theorem lf_wsX2_passOneTick_5 : ∀ w ∈ wsX10, w ∈ wsX2_passOneTick := fun w h => (List.mem_cons_of_mem _ (List.mem_append_right _ h))
theorem wk_wsX2_passOneTick_0_9 : Cond.code yX2_announce cX2_announce 2 none ∈ wsX2_passOneTick := lf_wsX2_passOneTick_0 _ (List.Mem.tail _ (List.Mem.tail _ (List.Mem.tail _ (List.Mem.tail _ (List.Mem.tail _ (List.Mem.tail _ (List.Mem.tail _ (List.Mem.tail _ (List.Mem.tail _ (List.Mem.head _))))))))))
theorem wk_wsX2_passOneTick_0_10 : Cond.fieldLink RX2 43 "TimeNet" "heard" "LTimeNet$Knowledge;" ∈ wsX2_passOneTick := lf_wsX2_passOneTick_0 _ (List.Mem.tail _ (List.Mem.tail _ (List.Mem.tail _ (List.Mem.tail _ (List.Mem.tail _ (List.Mem.tail _ (List.Mem.tail _ (List.Mem.tail _ (List.Mem.tail _ (List.Mem.tail _ (List.Mem.head _)))))))))))
theorem wk_wsX2_passOneTick_0_4 : Cond.fieldLink RX2 39 "TimeNet" "known" "LTimeNet$Knowledge;" ∈ wsX2_passOneTick := lf_wsX2_passOneTick_0 _ (List.Mem.tail _ (List.Mem.tail _ (List.Mem.tail _ (List.Mem.tail _ (List.Mem.head _)))))
theorem wk_wsX2_passOneTick_0_0 : Cond.fieldLink RX2 49 "TimeNet" "nodeCount" "I" ∈ wsX2_passOneTick := lf_wsX2_passOneTick_0 _ (List.Mem.head _)
theorem wk_wsX2_passOneTick_0_11 : Cond.instanceMethod yX0_copyFrom ∈ wsX2_passOneTick := lf_wsX2_passOneTick_0 _ (List.Mem.tail _ (List.Mem.tail _ (List.Mem.tail _ (List.Mem.tail _ (List.Mem.tail _ (List.Mem.tail _ (List.Mem.tail _ (List.Mem.tail _ (List.Mem.tail _ (List.Mem.tail _ (List.Mem.tail _ (List.Mem.head _))))))))))))
theorem wk_wsX2_passOneTick_0_12 : Cond.initialized RX0 ∈ wsX2_passOneTick := lf_wsX2_passOneTick_0 _ (List.Mem.tail _ (List.Mem.tail _ (List.Mem.tail _ (List.Mem.tail _ (List.Mem.tail _ (List.Mem.tail _ (List.Mem.tail _ (List.Mem.tail _ (List.Mem.tail _ (List.Mem.tail _ (List.Mem.tail _ (List.Mem.tail _ (List.Mem.head _)))))))))))))
theorem wk_wsX2_passOneTick_0_13 : Cond.selects RX0 yX0_copyFrom yX0_copyFrom ∈ wsX2_passOneTick := lf_wsX2_passOneTick_0 _ (List.Mem.tail _ (List.Mem.tail _ (List.Mem.tail _ (List.Mem.tail _ (List.Mem.tail _ (List.Mem.tail _ (List.Mem.tail _ (List.Mem.tail _ (List.Mem.tail _ (List.Mem.tail _ (List.Mem.tail _ (List.Mem.tail _ (List.Mem.tail _ (List.Mem.head _))))))))))))))
theorem wk_wsX2_passOneTick_0_14 : Cond.code yX0_copyFrom cX0_copyFrom 3 none ∈ wsX2_passOneTick := lf_wsX2_passOneTick_0 _ (List.Mem.tail _ (List.Mem.tail _ (List.Mem.tail _ (List.Mem.tail _ (List.Mem.tail _ (List.Mem.tail _ (List.Mem.tail _ (List.Mem.tail _ (List.Mem.tail _ (List.Mem.tail _ (List.Mem.tail _ (List.Mem.tail _ (List.Mem.tail _ (List.Mem.tail _ (List.Mem.head _)))))))))))))))
theorem wk_wsX2_passOneTick_0_15 : Cond.fieldLink RX0 9 "TimeNet$Knowledge" "clockNode" "[I" ∈ wsX2_passOneTick := lf_wsX2_passOneTick_0 _ (List.Mem.tail _ (List.Mem.tail _ (List.Mem.tail _ (List.Mem.tail _ (List.Mem.tail _ (List.Mem.tail _ (List.Mem.tail _ (List.Mem.tail _ (List.Mem.tail _ (List.Mem.tail _ (List.Mem.tail _ (List.Mem.tail _ (List.Mem.tail _ (List.Mem.tail _ (List.Mem.tail _ (List.Mem.head _))))))))))))))))
theorem wk_wsX2_passOneTick_0_16 : Cond.fieldLink RX0 15 "TimeNet$Knowledge" "clockRank" "[I" ∈ wsX2_passOneTick := lf_wsX2_passOneTick_0 _ (List.Mem.tail _ (List.Mem.tail _ (List.Mem.tail _ (List.Mem.tail _ (List.Mem.tail _ (List.Mem.tail _ (List.Mem.tail _ (List.Mem.tail _ (List.Mem.tail _ (List.Mem.tail _ (List.Mem.tail _ (List.Mem.tail _ (List.Mem.tail _ (List.Mem.tail _ (List.Mem.tail _ (List.Mem.tail _ (List.Mem.head _)))))))))))))))))
theorem wk_wsX2_passOneTick_0_17 : Cond.fieldLink RX0 18 "TimeNet$Knowledge" "stepsAway" "[I" ∈ wsX2_passOneTick := lf_wsX2_passOneTick_0 _ (List.Mem.tail _ (List.Mem.tail _ (List.Mem.tail _ (List.Mem.tail _ (List.Mem.tail _ (List.Mem.tail _ (List.Mem.tail _ (List.Mem.tail _ (List.Mem.tail _ (List.Mem.tail _ (List.Mem.tail _ (List.Mem.tail _ (List.Mem.tail _ (List.Mem.tail _ (List.Mem.tail _ (List.Mem.tail _ (List.Mem.tail _ (List.Mem.head _))))))))))))))))))
theorem wk_wsX2_passOneTick_0_18 : Cond.fieldLink RX0 21 "TimeNet$Knowledge" "knownFrom" "[I" ∈ wsX2_passOneTick := lf_wsX2_passOneTick_0 _ (List.Mem.tail _ (List.Mem.tail _ (List.Mem.tail _ (List.Mem.tail _ (List.Mem.tail _ (List.Mem.tail _ (List.Mem.tail _ (List.Mem.tail _ (List.Mem.tail _ (List.Mem.tail _ (List.Mem.tail _ (List.Mem.tail _ (List.Mem.tail _ (List.Mem.tail _ (List.Mem.tail _ (List.Mem.tail _ (List.Mem.tail _ (List.Mem.tail _ (List.Mem.head _)))))))))))))))))))
theorem wk_wsX2_passOneTick_0_19 : Cond.methodLink RX2 167 yX2_listen ∈ wsX2_passOneTick := lf_wsX2_passOneTick_0 _ (List.Mem.tail _ (List.Mem.tail _ (List.Mem.tail _ (List.Mem.tail _ (List.Mem.tail _ (List.Mem.tail _ (List.Mem.tail _ (List.Mem.tail _ (List.Mem.tail _ (List.Mem.tail _ (List.Mem.tail _ (List.Mem.tail _ (List.Mem.tail _ (List.Mem.tail _ (List.Mem.tail _ (List.Mem.tail _ (List.Mem.tail _ (List.Mem.tail _ (List.Mem.tail _ (List.Mem.head _))))))))))))))))))))
theorem wk_wsX2_passOneTick_0_20 : Cond.instanceMethod yX2_listen ∈ wsX2_passOneTick := lf_wsX2_passOneTick_0 _ (List.Mem.tail _ (List.Mem.tail _ (List.Mem.tail _ (List.Mem.tail _ (List.Mem.tail _ (List.Mem.tail _ (List.Mem.tail _ (List.Mem.tail _ (List.Mem.tail _ (List.Mem.tail _ (List.Mem.tail _ (List.Mem.tail _ (List.Mem.tail _ (List.Mem.tail _ (List.Mem.tail _ (List.Mem.tail _ (List.Mem.tail _ (List.Mem.tail _ (List.Mem.tail _ (List.Mem.tail _ (List.Mem.head _)))))))))))))))))))))
theorem wk_wsX2_passOneTick_0_21 : Cond.selects RX2 yX2_listen yX2_listen ∈ wsX2_passOneTick := lf_wsX2_passOneTick_0 _ (List.Mem.tail _ (List.Mem.tail _ (List.Mem.tail _ (List.Mem.tail _ (List.Mem.tail _ (List.Mem.tail _ (List.Mem.tail _ (List.Mem.tail _ (List.Mem.tail _ (List.Mem.tail _ (List.Mem.tail _ (List.Mem.tail _ (List.Mem.tail _ (List.Mem.tail _ (List.Mem.tail _ (List.Mem.tail _ (List.Mem.tail _ (List.Mem.tail _ (List.Mem.tail _ (List.Mem.tail _ (List.Mem.tail _ (List.Mem.head _))))))))))))))))))))))
theorem wk_wsX2_passOneTick_0_8 : Cond.initialized RX2 ∈ wsX2_passOneTick := lf_wsX2_passOneTick_0 _ (List.Mem.tail _ (List.Mem.tail _ (List.Mem.tail _ (List.Mem.tail _ (List.Mem.tail _ (List.Mem.tail _ (List.Mem.tail _ (List.Mem.tail _ (List.Mem.head _)))))))))
theorem wk_wsX2_passOneTick_0_22 : Cond.code yX2_listen cX2_listen 3 none ∈ wsX2_passOneTick := lf_wsX2_passOneTick_0 _ (List.Mem.tail _ (List.Mem.tail _ (List.Mem.tail _ (List.Mem.tail _ (List.Mem.tail _ (List.Mem.tail _ (List.Mem.tail _ (List.Mem.tail _ (List.Mem.tail _ (List.Mem.tail _ (List.Mem.tail _ (List.Mem.tail _ (List.Mem.tail _ (List.Mem.tail _ (List.Mem.tail _ (List.Mem.tail _ (List.Mem.tail _ (List.Mem.tail _ (List.Mem.tail _ (List.Mem.tail _ (List.Mem.tail _ (List.Mem.tail _ (List.Mem.head _)))))))))))))))))))))))
theorem wk_wsX2_passOneTick_0_23 : Cond.methodLink RX2 67 yX2_knowOnlyItself ∈ wsX2_passOneTick := lf_wsX2_passOneTick_0 _ (List.Mem.tail _ (List.Mem.tail _ (List.Mem.tail _ (List.Mem.tail _ (List.Mem.tail _ (List.Mem.tail _ (List.Mem.tail _ (List.Mem.tail _ (List.Mem.tail _ (List.Mem.tail _ (List.Mem.tail _ (List.Mem.tail _ (List.Mem.tail _ (List.Mem.tail _ (List.Mem.tail _ (List.Mem.tail _ (List.Mem.tail _ (List.Mem.tail _ (List.Mem.tail _ (List.Mem.tail _ (List.Mem.tail _ (List.Mem.tail _ (List.Mem.tail _ (List.Mem.head _))))))))))))))))))))))))
theorem wk_wsX2_passOneTick_1_0 : Cond.instanceMethod yX2_knowOnlyItself ∈ wsX2_passOneTick := lf_wsX2_passOneTick_1 _ (List.Mem.head _)
theorem wk_wsX2_passOneTick_1_1 : Cond.selects RX2 yX2_knowOnlyItself yX2_knowOnlyItself ∈ wsX2_passOneTick := lf_wsX2_passOneTick_1 _ (List.Mem.tail _ (List.Mem.head _))
theorem wk_wsX2_passOneTick_1_2 : Cond.code yX2_knowOnlyItself cX2_knowOnlyItself 2 none ∈ wsX2_passOneTick := lf_wsX2_passOneTick_1 _ (List.Mem.tail _ (List.Mem.tail _ (List.Mem.head _)))
theorem wk_wsX2_passOneTick_1_3 : Cond.methodLink RX2 157 yX2_rankOf ∈ wsX2_passOneTick := lf_wsX2_passOneTick_1 _ (List.Mem.tail _ (List.Mem.tail _ (List.Mem.tail _ (List.Mem.head _))))
theorem wk_wsX2_passOneTick_1_4 : Cond.instanceMethod yX2_rankOf ∈ wsX2_passOneTick := lf_wsX2_passOneTick_1 _ (List.Mem.tail _ (List.Mem.tail _ (List.Mem.tail _ (List.Mem.tail _ (List.Mem.head _)))))
theorem wk_wsX2_passOneTick_1_5 : Cond.selects RX2 yX2_rankOf yX2_rankOf ∈ wsX2_passOneTick := lf_wsX2_passOneTick_1 _ (List.Mem.tail _ (List.Mem.tail _ (List.Mem.tail _ (List.Mem.tail _ (List.Mem.tail _ (List.Mem.head _))))))
theorem wk_wsX2_passOneTick_1_6 : Cond.code yX2_rankOf cX2_rankOf 2 (some .int) ∈ wsX2_passOneTick := lf_wsX2_passOneTick_1 _ (List.Mem.tail _ (List.Mem.tail _ (List.Mem.tail _ (List.Mem.tail _ (List.Mem.tail _ (List.Mem.tail _ (List.Mem.head _)))))))
theorem wsX2_announce_r1_of_wsX2_passOneTick : ∀ w ∈ wsX2_announce_r1, w ∈ wsX2_passOneTick := List.forall_mem_cons.mpr ⟨wk_wsX2_passOneTick_0_10, List.forall_mem_cons.mpr ⟨wk_wsX2_passOneTick_0_4, List.forall_mem_cons.mpr ⟨wk_wsX2_passOneTick_0_0, List.forall_mem_cons.mpr ⟨wk_wsX2_passOneTick_0_11, List.forall_mem_cons.mpr ⟨wk_wsX2_passOneTick_0_12, List.forall_mem_cons.mpr ⟨wk_wsX2_passOneTick_0_13, List.forall_mem_cons.mpr ⟨wk_wsX2_passOneTick_0_14, List.forall_mem_cons.mpr ⟨wk_wsX2_passOneTick_0_15, List.forall_mem_cons.mpr ⟨wk_wsX2_passOneTick_0_16, List.forall_mem_cons.mpr ⟨wk_wsX2_passOneTick_0_17, List.forall_mem_cons.mpr ⟨wk_wsX2_passOneTick_0_18, List.forall_mem_cons.mpr ⟨wk_wsX2_passOneTick_0_19, List.forall_mem_cons.mpr ⟨wk_wsX2_passOneTick_0_20, List.forall_mem_cons.mpr ⟨wk_wsX2_passOneTick_0_21, List.forall_mem_cons.mpr ⟨wk_wsX2_passOneTick_0_8, List.forall_mem_cons.mpr ⟨wk_wsX2_passOneTick_0_22, List.forall_mem_cons.mpr ⟨wk_wsX2_passOneTick_0_23, List.forall_mem_cons.mpr ⟨wk_wsX2_passOneTick_1_0, List.forall_mem_cons.mpr ⟨wk_wsX2_passOneTick_1_1, List.forall_mem_cons.mpr ⟨wk_wsX2_passOneTick_1_2, List.forall_mem_cons.mpr ⟨wk_wsX2_passOneTick_1_3, List.forall_mem_cons.mpr ⟨wk_wsX2_passOneTick_1_4, List.forall_mem_cons.mpr ⟨wk_wsX2_passOneTick_1_5, List.forall_mem_cons.mpr ⟨wk_wsX2_passOneTick_1_6, fun _ h => absurd h List.not_mem_nil⟩⟩⟩⟩⟩⟩⟩⟩⟩⟩⟩⟩⟩⟩⟩⟩⟩⟩⟩⟩⟩⟩⟩⟩
theorem wk_wsX2_passOneTick_1_7 : Cond.fieldLink RX2 13 "TimeNet" "gradeOf" "[I" ∈ wsX2_passOneTick := lf_wsX2_passOneTick_1 _ (List.Mem.tail _ (List.Mem.tail _ (List.Mem.tail _ (List.Mem.tail _ (List.Mem.tail _ (List.Mem.tail _ (List.Mem.tail _ (List.Mem.head _))))))))
theorem wk_wsX2_passOneTick_1_8 : Cond.fieldLink RX2 16 "TimeNet" "varianceOf" "[I" ∈ wsX2_passOneTick := lf_wsX2_passOneTick_1 _ (List.Mem.tail _ (List.Mem.tail _ (List.Mem.tail _ (List.Mem.tail _ (List.Mem.tail _ (List.Mem.tail _ (List.Mem.tail _ (List.Mem.tail _ (List.Mem.head _)))))))))
theorem wk_wsX2_passOneTick_1_9 : Cond.instanceMethod yX0_start ∈ wsX2_passOneTick := lf_wsX2_passOneTick_1 _ (List.Mem.tail _ (List.Mem.tail _ (List.Mem.tail _ (List.Mem.tail _ (List.Mem.tail _ (List.Mem.tail _ (List.Mem.tail _ (List.Mem.tail _ (List.Mem.tail _ (List.Mem.head _))))))))))
theorem wk_wsX2_passOneTick_1_10 : Cond.selects RX0 yX0_start yX0_start ∈ wsX2_passOneTick := lf_wsX2_passOneTick_1 _ (List.Mem.tail _ (List.Mem.tail _ (List.Mem.tail _ (List.Mem.tail _ (List.Mem.tail _ (List.Mem.tail _ (List.Mem.tail _ (List.Mem.tail _ (List.Mem.tail _ (List.Mem.tail _ (List.Mem.head _)))))))))))
theorem wk_wsX2_passOneTick_1_11 : Cond.code yX0_start cX0_start 3 none ∈ wsX2_passOneTick := lf_wsX2_passOneTick_1 _ (List.Mem.tail _ (List.Mem.tail _ (List.Mem.tail _ (List.Mem.tail _ (List.Mem.tail _ (List.Mem.tail _ (List.Mem.tail _ (List.Mem.tail _ (List.Mem.tail _ (List.Mem.tail _ (List.Mem.tail _ (List.Mem.head _))))))))))))
theorem wk_wsX2_passOneTick_1_12 : Cond.methodLink RX2 122 yX2_areNeighbours ∈ wsX2_passOneTick := lf_wsX2_passOneTick_1 _ (List.Mem.tail _ (List.Mem.tail _ (List.Mem.tail _ (List.Mem.tail _ (List.Mem.tail _ (List.Mem.tail _ (List.Mem.tail _ (List.Mem.tail _ (List.Mem.tail _ (List.Mem.tail _ (List.Mem.tail _ (List.Mem.tail _ (List.Mem.head _)))))))))))))
theorem wk_wsX2_passOneTick_1_13 : Cond.instanceMethod yX2_areNeighbours ∈ wsX2_passOneTick := lf_wsX2_passOneTick_1 _ (List.Mem.tail _ (List.Mem.tail _ (List.Mem.tail _ (List.Mem.tail _ (List.Mem.tail _ (List.Mem.tail _ (List.Mem.tail _ (List.Mem.tail _ (List.Mem.tail _ (List.Mem.tail _ (List.Mem.tail _ (List.Mem.tail _ (List.Mem.tail _ (List.Mem.head _))))))))))))))
theorem wk_wsX2_passOneTick_1_14 : Cond.selects RX2 yX2_areNeighbours yX2_areNeighbours ∈ wsX2_passOneTick := lf_wsX2_passOneTick_1 _ (List.Mem.tail _ (List.Mem.tail _ (List.Mem.tail _ (List.Mem.tail _ (List.Mem.tail _ (List.Mem.tail _ (List.Mem.tail _ (List.Mem.tail _ (List.Mem.tail _ (List.Mem.tail _ (List.Mem.tail _ (List.Mem.tail _ (List.Mem.tail _ (List.Mem.tail _ (List.Mem.head _)))))))))))))))
theorem wk_wsX2_passOneTick_1_15 : Cond.code yX2_areNeighbours cX2_areNeighbours 3 (some .boolean) ∈ wsX2_passOneTick := lf_wsX2_passOneTick_1 _ (List.Mem.tail _ (List.Mem.tail _ (List.Mem.tail _ (List.Mem.tail _ (List.Mem.tail _ (List.Mem.tail _ (List.Mem.tail _ (List.Mem.tail _ (List.Mem.tail _ (List.Mem.tail _ (List.Mem.tail _ (List.Mem.tail _ (List.Mem.tail _ (List.Mem.tail _ (List.Mem.tail _ (List.Mem.head _))))))))))))))))
theorem wk_wsX2_passOneTick_1_16 : Cond.fieldLink RX2 9 "TimeNet" "domainOf" "[I" ∈ wsX2_passOneTick := lf_wsX2_passOneTick_1 _ (List.Mem.tail _ (List.Mem.tail _ (List.Mem.tail _ (List.Mem.tail _ (List.Mem.tail _ (List.Mem.tail _ (List.Mem.tail _ (List.Mem.tail _ (List.Mem.tail _ (List.Mem.tail _ (List.Mem.tail _ (List.Mem.tail _ (List.Mem.tail _ (List.Mem.tail _ (List.Mem.tail _ (List.Mem.tail _ (List.Mem.head _)))))))))))))))))
theorem wk_wsX2_passOneTick_1_17 : Cond.fieldLink RX2 32 "TimeNet" "wires" "LTimeNet$Wires;" ∈ wsX2_passOneTick := lf_wsX2_passOneTick_1 _ (List.Mem.tail _ (List.Mem.tail _ (List.Mem.tail _ (List.Mem.tail _ (List.Mem.tail _ (List.Mem.tail _ (List.Mem.tail _ (List.Mem.tail _ (List.Mem.tail _ (List.Mem.tail _ (List.Mem.tail _ (List.Mem.tail _ (List.Mem.tail _ (List.Mem.tail _ (List.Mem.tail _ (List.Mem.tail _ (List.Mem.tail _ (List.Mem.head _))))))))))))))))))
theorem wk_wsX2_passOneTick_1_18 : Cond.instanceMethod yX1_areLinked ∈ wsX2_passOneTick := lf_wsX2_passOneTick_1 _ (List.Mem.tail _ (List.Mem.tail _ (List.Mem.tail _ (List.Mem.tail _ (List.Mem.tail _ (List.Mem.tail _ (List.Mem.tail _ (List.Mem.tail _ (List.Mem.tail _ (List.Mem.tail _ (List.Mem.tail _ (List.Mem.tail _ (List.Mem.tail _ (List.Mem.tail _ (List.Mem.tail _ (List.Mem.tail _ (List.Mem.tail _ (List.Mem.tail _ (List.Mem.head _)))))))))))))))))))
theorem wk_wsX2_passOneTick_1_19 : Cond.initialized RX1 ∈ wsX2_passOneTick := lf_wsX2_passOneTick_1 _ (List.Mem.tail _ (List.Mem.tail _ (List.Mem.tail _ (List.Mem.tail _ (List.Mem.tail _ (List.Mem.tail _ (List.Mem.tail _ (List.Mem.tail _ (List.Mem.tail _ (List.Mem.tail _ (List.Mem.tail _ (List.Mem.tail _ (List.Mem.tail _ (List.Mem.tail _ (List.Mem.tail _ (List.Mem.tail _ (List.Mem.tail _ (List.Mem.tail _ (List.Mem.tail _ (List.Mem.head _))))))))))))))))))))
theorem wk_wsX2_passOneTick_1_20 : Cond.selects RX1 yX1_areLinked yX1_areLinked ∈ wsX2_passOneTick := lf_wsX2_passOneTick_1 _ (List.Mem.tail _ (List.Mem.tail _ (List.Mem.tail _ (List.Mem.tail _ (List.Mem.tail _ (List.Mem.tail _ (List.Mem.tail _ (List.Mem.tail _ (List.Mem.tail _ (List.Mem.tail _ (List.Mem.tail _ (List.Mem.tail _ (List.Mem.tail _ (List.Mem.tail _ (List.Mem.tail _ (List.Mem.tail _ (List.Mem.tail _ (List.Mem.tail _ (List.Mem.tail _ (List.Mem.tail _ (List.Mem.head _)))))))))))))))))))))
theorem wk_wsX2_passOneTick_1_21 : Cond.code yX1_areLinked cX1_areLinked 3 (some .boolean) ∈ wsX2_passOneTick := lf_wsX2_passOneTick_1 _ (List.Mem.tail _ (List.Mem.tail _ (List.Mem.tail _ (List.Mem.tail _ (List.Mem.tail _ (List.Mem.tail _ (List.Mem.tail _ (List.Mem.tail _ (List.Mem.tail _ (List.Mem.tail _ (List.Mem.tail _ (List.Mem.tail _ (List.Mem.tail _ (List.Mem.tail _ (List.Mem.tail _ (List.Mem.tail _ (List.Mem.tail _ (List.Mem.tail _ (List.Mem.tail _ (List.Mem.tail _ (List.Mem.tail _ (List.Mem.head _))))))))))))))))))))))
theorem wk_wsX2_passOneTick_1_22 : Cond.fieldLink RX1 9 "TimeNet$Wires" "laid" "[Z" ∈ wsX2_passOneTick := lf_wsX2_passOneTick_1 _ (List.Mem.tail _ (List.Mem.tail _ (List.Mem.tail _ (List.Mem.tail _ (List.Mem.tail _ (List.Mem.tail _ (List.Mem.tail _ (List.Mem.tail _ (List.Mem.tail _ (List.Mem.tail _ (List.Mem.tail _ (List.Mem.tail _ (List.Mem.tail _ (List.Mem.tail _ (List.Mem.tail _ (List.Mem.tail _ (List.Mem.tail _ (List.Mem.tail _ (List.Mem.tail _ (List.Mem.tail _ (List.Mem.tail _ (List.Mem.tail _ (List.Mem.head _)))))))))))))))))))))))
theorem wk_wsX2_passOneTick_1_23 : Cond.methodLink RX1 26 yX1_place ∈ wsX2_passOneTick := lf_wsX2_passOneTick_1 _ (List.Mem.tail _ (List.Mem.tail _ (List.Mem.tail _ (List.Mem.tail _ (List.Mem.tail _ (List.Mem.tail _ (List.Mem.tail _ (List.Mem.tail _ (List.Mem.tail _ (List.Mem.tail _ (List.Mem.tail _ (List.Mem.tail _ (List.Mem.tail _ (List.Mem.tail _ (List.Mem.tail _ (List.Mem.tail _ (List.Mem.tail _ (List.Mem.tail _ (List.Mem.tail _ (List.Mem.tail _ (List.Mem.tail _ (List.Mem.tail _ (List.Mem.tail _ (List.Mem.head _))))))))))))))))))))))))
theorem wk_wsX2_passOneTick_2_0 : Cond.static yX1_place ∈ wsX2_passOneTick := lf_wsX2_passOneTick_2 _ (List.Mem.head _)
theorem wk_wsX2_passOneTick_2_1 : Cond.code yX1_place cX1_place 2 (some .int) ∈ wsX2_passOneTick := lf_wsX2_passOneTick_2 _ (List.Mem.tail _ (List.Mem.head _))
theorem wk_wsX2_passOneTick_2_2 : Cond.instanceMethod yX0_reaches ∈ wsX2_passOneTick := lf_wsX2_passOneTick_2 _ (List.Mem.tail _ (List.Mem.tail _ (List.Mem.head _)))
theorem wk_wsX2_passOneTick_2_3 : Cond.selects RX0 yX0_reaches yX0_reaches ∈ wsX2_passOneTick := lf_wsX2_passOneTick_2 _ (List.Mem.tail _ (List.Mem.tail _ (List.Mem.tail _ (List.Mem.head _))))
theorem wk_wsX2_passOneTick_2_4 : Cond.code yX0_reaches cX0_reaches 3 (some .boolean) ∈ wsX2_passOneTick := lf_wsX2_passOneTick_2 _ (List.Mem.tail _ (List.Mem.tail _ (List.Mem.tail _ (List.Mem.tail _ (List.Mem.head _)))))
theorem wk_wsX2_passOneTick_2_5 : Cond.instanceMethod yX0_takeIfBetter ∈ wsX2_passOneTick := lf_wsX2_passOneTick_2 _ (List.Mem.tail _ (List.Mem.tail _ (List.Mem.tail _ (List.Mem.tail _ (List.Mem.tail _ (List.Mem.head _))))))
theorem wk_wsX2_passOneTick_2_6 : Cond.selects RX0 yX0_takeIfBetter yX0_takeIfBetter ∈ wsX2_passOneTick := lf_wsX2_passOneTick_2 _ (List.Mem.tail _ (List.Mem.tail _ (List.Mem.tail _ (List.Mem.tail _ (List.Mem.tail _ (List.Mem.tail _ (List.Mem.head _)))))))
theorem wsX2_announce_r2_of_wsX2_passOneTick : ∀ w ∈ wsX2_announce_r2, w ∈ wsX2_passOneTick := List.forall_mem_cons.mpr ⟨wk_wsX2_passOneTick_1_7, List.forall_mem_cons.mpr ⟨wk_wsX2_passOneTick_1_8, List.forall_mem_cons.mpr ⟨wk_wsX2_passOneTick_1_9, List.forall_mem_cons.mpr ⟨wk_wsX2_passOneTick_1_10, List.forall_mem_cons.mpr ⟨wk_wsX2_passOneTick_1_11, List.forall_mem_cons.mpr ⟨wk_wsX2_passOneTick_1_12, List.forall_mem_cons.mpr ⟨wk_wsX2_passOneTick_1_13, List.forall_mem_cons.mpr ⟨wk_wsX2_passOneTick_1_14, List.forall_mem_cons.mpr ⟨wk_wsX2_passOneTick_1_15, List.forall_mem_cons.mpr ⟨wk_wsX2_passOneTick_1_16, List.forall_mem_cons.mpr ⟨wk_wsX2_passOneTick_1_17, List.forall_mem_cons.mpr ⟨wk_wsX2_passOneTick_1_18, List.forall_mem_cons.mpr ⟨wk_wsX2_passOneTick_1_19, List.forall_mem_cons.mpr ⟨wk_wsX2_passOneTick_1_20, List.forall_mem_cons.mpr ⟨wk_wsX2_passOneTick_1_21, List.forall_mem_cons.mpr ⟨wk_wsX2_passOneTick_1_22, List.forall_mem_cons.mpr ⟨wk_wsX2_passOneTick_1_23, List.forall_mem_cons.mpr ⟨wk_wsX2_passOneTick_2_0, List.forall_mem_cons.mpr ⟨wk_wsX2_passOneTick_2_1, List.forall_mem_cons.mpr ⟨wk_wsX2_passOneTick_2_2, List.forall_mem_cons.mpr ⟨wk_wsX2_passOneTick_2_3, List.forall_mem_cons.mpr ⟨wk_wsX2_passOneTick_2_4, List.forall_mem_cons.mpr ⟨wk_wsX2_passOneTick_2_5, List.forall_mem_cons.mpr ⟨wk_wsX2_passOneTick_2_6, fun _ h => absurd h List.not_mem_nil⟩⟩⟩⟩⟩⟩⟩⟩⟩⟩⟩⟩⟩⟩⟩⟩⟩⟩⟩⟩⟩⟩⟩⟩
theorem wk_wsX2_passOneTick_2_7 : Cond.code yX0_takeIfBetter cX0_takeIfBetter 6 none ∈ wsX2_passOneTick := lf_wsX2_passOneTick_2 _ (List.Mem.tail _ (List.Mem.tail _ (List.Mem.tail _ (List.Mem.tail _ (List.Mem.tail _ (List.Mem.tail _ (List.Mem.tail _ (List.Mem.head _))))))))
theorem wsX2_announce_r3_of_wsX2_passOneTick : ∀ w ∈ wsX2_announce_r3, w ∈ wsX2_passOneTick := List.forall_mem_cons.mpr ⟨wk_wsX2_passOneTick_2_7, fun _ h => absurd h List.not_mem_nil⟩
theorem wk_wsX2_passOneTick_0_5 : Cond.methodLink RX2 180 yX2_announce ∈ wsX2_passOneTick := lf_wsX2_passOneTick_0 _ (List.Mem.tail _ (List.Mem.tail _ (List.Mem.tail _ (List.Mem.tail _ (List.Mem.tail _ (List.Mem.head _))))))
theorem wk_wsX2_passOneTick_0_6 : Cond.instanceMethod yX2_announce ∈ wsX2_passOneTick := lf_wsX2_passOneTick_0 _ (List.Mem.tail _ (List.Mem.tail _ (List.Mem.tail _ (List.Mem.tail _ (List.Mem.tail _ (List.Mem.tail _ (List.Mem.head _)))))))
theorem wk_wsX2_passOneTick_0_7 : Cond.selects RX2 yX2_announce yX2_announce ∈ wsX2_passOneTick := lf_wsX2_passOneTick_0 _ (List.Mem.tail _ (List.Mem.tail _ (List.Mem.tail _ (List.Mem.tail _ (List.Mem.tail _ (List.Mem.tail _ (List.Mem.tail _ (List.Mem.head _))))))))
theorem wk_wsX2_passOneTick_2_11 : Cond.code yX2_steer cX2_steer 5 none ∈ wsX2_passOneTick := lf_wsX2_passOneTick_2 _ (List.Mem.tail _ (List.Mem.tail _ (List.Mem.tail _ (List.Mem.tail _ (List.Mem.tail _ (List.Mem.tail _ (List.Mem.tail _ (List.Mem.tail _ (List.Mem.tail _ (List.Mem.tail _ (List.Mem.tail _ (List.Mem.head _))))))))))))
theorem wk_wsX2_passOneTick_0_1 : Cond.fieldLink RX2 22 "TimeNet" "offsetOf" "[J" ∈ wsX2_passOneTick := lf_wsX2_passOneTick_0 _ (List.Mem.tail _ (List.Mem.head _))
theorem wk_wsX2_passOneTick_2_12 : Cond.constantLong RX2 190 (2) ∈ wsX2_passOneTick := lf_wsX2_passOneTick_2 _ (List.Mem.tail _ (List.Mem.tail _ (List.Mem.tail _ (List.Mem.tail _ (List.Mem.tail _ (List.Mem.tail _ (List.Mem.tail _ (List.Mem.tail _ (List.Mem.tail _ (List.Mem.tail _ (List.Mem.tail _ (List.Mem.tail _ (List.Mem.head _)))))))))))))
theorem wk_wsX2_passOneTick_0_3 : Cond.fieldLink RX2 26 "TimeNet" "rateOf" "[J" ∈ wsX2_passOneTick := lf_wsX2_passOneTick_0 _ (List.Mem.tail _ (List.Mem.tail _ (List.Mem.tail _ (List.Mem.head _))))
theorem wk_wsX2_passOneTick_2_13 : Cond.constantLong RX2 192 (16) ∈ wsX2_passOneTick := lf_wsX2_passOneTick_2 _ (List.Mem.tail _ (List.Mem.tail _ (List.Mem.tail _ (List.Mem.tail _ (List.Mem.tail _ (List.Mem.tail _ (List.Mem.tail _ (List.Mem.tail _ (List.Mem.tail _ (List.Mem.tail _ (List.Mem.tail _ (List.Mem.tail _ (List.Mem.tail _ (List.Mem.head _))))))))))))))
theorem wk_wsX2_passOneTick_2_14 : Cond.methodLink RX2 144 yX2_isNode ∈ wsX2_passOneTick := lf_wsX2_passOneTick_2 _ (List.Mem.tail _ (List.Mem.tail _ (List.Mem.tail _ (List.Mem.tail _ (List.Mem.tail _ (List.Mem.tail _ (List.Mem.tail _ (List.Mem.tail _ (List.Mem.tail _ (List.Mem.tail _ (List.Mem.tail _ (List.Mem.tail _ (List.Mem.tail _ (List.Mem.tail _ (List.Mem.head _)))))))))))))))
theorem wk_wsX2_passOneTick_2_15 : Cond.instanceMethod yX2_isNode ∈ wsX2_passOneTick := lf_wsX2_passOneTick_2 _ (List.Mem.tail _ (List.Mem.tail _ (List.Mem.tail _ (List.Mem.tail _ (List.Mem.tail _ (List.Mem.tail _ (List.Mem.tail _ (List.Mem.tail _ (List.Mem.tail _ (List.Mem.tail _ (List.Mem.tail _ (List.Mem.tail _ (List.Mem.tail _ (List.Mem.tail _ (List.Mem.tail _ (List.Mem.head _))))))))))))))))
theorem wk_wsX2_passOneTick_2_16 : Cond.selects RX2 yX2_isNode yX2_isNode ∈ wsX2_passOneTick := lf_wsX2_passOneTick_2 _ (List.Mem.tail _ (List.Mem.tail _ (List.Mem.tail _ (List.Mem.tail _ (List.Mem.tail _ (List.Mem.tail _ (List.Mem.tail _ (List.Mem.tail _ (List.Mem.tail _ (List.Mem.tail _ (List.Mem.tail _ (List.Mem.tail _ (List.Mem.tail _ (List.Mem.tail _ (List.Mem.tail _ (List.Mem.tail _ (List.Mem.head _)))))))))))))))))
theorem wk_wsX2_passOneTick_2_17 : Cond.code yX2_isNode cX2_isNode 2 (some .boolean) ∈ wsX2_passOneTick := lf_wsX2_passOneTick_2 _ (List.Mem.tail _ (List.Mem.tail _ (List.Mem.tail _ (List.Mem.tail _ (List.Mem.tail _ (List.Mem.tail _ (List.Mem.tail _ (List.Mem.tail _ (List.Mem.tail _ (List.Mem.tail _ (List.Mem.tail _ (List.Mem.tail _ (List.Mem.tail _ (List.Mem.tail _ (List.Mem.tail _ (List.Mem.tail _ (List.Mem.tail _ (List.Mem.head _))))))))))))))))))
theorem wk_wsX2_passOneTick_2_18 : Cond.instanceMethod yX1_errorFrom ∈ wsX2_passOneTick := lf_wsX2_passOneTick_2 _ (List.Mem.tail _ (List.Mem.tail _ (List.Mem.tail _ (List.Mem.tail _ (List.Mem.tail _ (List.Mem.tail _ (List.Mem.tail _ (List.Mem.tail _ (List.Mem.tail _ (List.Mem.tail _ (List.Mem.tail _ (List.Mem.tail _ (List.Mem.tail _ (List.Mem.tail _ (List.Mem.tail _ (List.Mem.tail _ (List.Mem.tail _ (List.Mem.tail _ (List.Mem.head _)))))))))))))))))))
theorem wk_wsX2_passOneTick_2_19 : Cond.selects RX1 yX1_errorFrom yX1_errorFrom ∈ wsX2_passOneTick := lf_wsX2_passOneTick_2 _ (List.Mem.tail _ (List.Mem.tail _ (List.Mem.tail _ (List.Mem.tail _ (List.Mem.tail _ (List.Mem.tail _ (List.Mem.tail _ (List.Mem.tail _ (List.Mem.tail _ (List.Mem.tail _ (List.Mem.tail _ (List.Mem.tail _ (List.Mem.tail _ (List.Mem.tail _ (List.Mem.tail _ (List.Mem.tail _ (List.Mem.tail _ (List.Mem.tail _ (List.Mem.tail _ (List.Mem.head _))))))))))))))))))))
theorem wk_wsX2_passOneTick_2_20 : Cond.code yX1_errorFrom cX1_errorFrom 5 (some .int) ∈ wsX2_passOneTick := lf_wsX2_passOneTick_2 _ (List.Mem.tail _ (List.Mem.tail _ (List.Mem.tail _ (List.Mem.tail _ (List.Mem.tail _ (List.Mem.tail _ (List.Mem.tail _ (List.Mem.tail _ (List.Mem.tail _ (List.Mem.tail _ (List.Mem.tail _ (List.Mem.tail _ (List.Mem.tail _ (List.Mem.tail _ (List.Mem.tail _ (List.Mem.tail _ (List.Mem.tail _ (List.Mem.tail _ (List.Mem.tail _ (List.Mem.tail _ (List.Mem.head _)))))))))))))))))))))
theorem wk_wsX2_passOneTick_2_21 : Cond.fieldLink RX1 15 "TimeNet$Wires" "delay" "[I" ∈ wsX2_passOneTick := lf_wsX2_passOneTick_2 _ (List.Mem.tail _ (List.Mem.tail _ (List.Mem.tail _ (List.Mem.tail _ (List.Mem.tail _ (List.Mem.tail _ (List.Mem.tail _ (List.Mem.tail _ (List.Mem.tail _ (List.Mem.tail _ (List.Mem.tail _ (List.Mem.tail _ (List.Mem.tail _ (List.Mem.tail _ (List.Mem.tail _ (List.Mem.tail _ (List.Mem.tail _ (List.Mem.tail _ (List.Mem.tail _ (List.Mem.tail _ (List.Mem.tail _ (List.Mem.head _))))))))))))))))))))))
theorem wk_wsX2_passOneTick_2_22 : Cond.fieldLink RX1 19 "TimeNet$Wires" "told" "[I" ∈ wsX2_passOneTick := lf_wsX2_passOneTick_2 _ (List.Mem.tail _ (List.Mem.tail _ (List.Mem.tail _ (List.Mem.tail _ (List.Mem.tail _ (List.Mem.tail _ (List.Mem.tail _ (List.Mem.tail _ (List.Mem.tail _ (List.Mem.tail _ (List.Mem.tail _ (List.Mem.tail _ (List.Mem.tail _ (List.Mem.tail _ (List.Mem.tail _ (List.Mem.tail _ (List.Mem.tail _ (List.Mem.tail _ (List.Mem.tail _ (List.Mem.tail _ (List.Mem.tail _ (List.Mem.tail _ (List.Mem.head _)))))))))))))))))))))))
theorem wk_wsX2_passOneTick_2_8 : Cond.methodLink RX2 183 yX2_steer ∈ wsX2_passOneTick := lf_wsX2_passOneTick_2 _ (List.Mem.tail _ (List.Mem.tail _ (List.Mem.tail _ (List.Mem.tail _ (List.Mem.tail _ (List.Mem.tail _ (List.Mem.tail _ (List.Mem.tail _ (List.Mem.head _)))))))))
theorem wk_wsX2_passOneTick_2_9 : Cond.instanceMethod yX2_steer ∈ wsX2_passOneTick := lf_wsX2_passOneTick_2 _ (List.Mem.tail _ (List.Mem.tail _ (List.Mem.tail _ (List.Mem.tail _ (List.Mem.tail _ (List.Mem.tail _ (List.Mem.tail _ (List.Mem.tail _ (List.Mem.tail _ (List.Mem.head _))))))))))
theorem wk_wsX2_passOneTick_2_10 : Cond.selects RX2 yX2_steer yX2_steer ∈ wsX2_passOneTick := lf_wsX2_passOneTick_2 _ (List.Mem.tail _ (List.Mem.tail _ (List.Mem.tail _ (List.Mem.tail _ (List.Mem.tail _ (List.Mem.tail _ (List.Mem.tail _ (List.Mem.tail _ (List.Mem.tail _ (List.Mem.tail _ (List.Mem.head _)))))))))))
theorem lf_wsX2_steer_0 : ∀ w ∈ ([.fieldLink RX2 39 "TimeNet" "known" "LTimeNet$Knowledge;", .fieldLink RX2 22 "TimeNet" "offsetOf" "[J", .fieldLink RX2 32 "TimeNet" "wires" "LTimeNet$Wires;", .constantLong RX2 190 (2), .fieldLink RX2 26 "TimeNet" "rateOf" "[J", .constantLong RX2 192 (16), .methodLink RX2 144 yX2_isNode, .instanceMethod yX2_isNode, .selects RX2 yX2_isNode yX2_isNode, .initialized RX2, .code yX2_isNode cX2_isNode 2 (some .boolean), .fieldLink RX2 49 "TimeNet" "nodeCount" "I", .instanceMethod yX1_errorFrom, .initialized RX1, .selects RX1 yX1_errorFrom yX1_errorFrom, .code yX1_errorFrom cX1_errorFrom 5 (some .int), .fieldLink RX1 15 "TimeNet$Wires" "delay" "[I", .fieldLink RX1 19 "TimeNet$Wires" "told" "[I", .methodLink RX1 26 yX1_place, .static yX1_place, .code yX1_place cX1_place 2 (some .int)] : List Cond), w ∈ wsX2_steer := fun w h => (List.mem_cons_of_mem _ (List.mem_append_left _ (List.mem_append_left _ (List.mem_append_left _ h))))
theorem lf_wsX2_steer_1 : ∀ w ∈ wsX20, w ∈ wsX2_steer := fun w h => (List.mem_cons_of_mem _ (List.mem_append_left _ (List.mem_append_left _ (List.mem_append_right _ h))))
theorem lf_wsX2_steer_2 : ∀ w ∈ wsX00, w ∈ wsX2_steer := fun w h => (List.mem_cons_of_mem _ (List.mem_append_left _ (List.mem_append_right _ h)))
theorem lf_wsX2_steer_3 : ∀ w ∈ wsX10, w ∈ wsX2_steer := fun w h => (List.mem_cons_of_mem _ (List.mem_append_right _ h))
theorem wk_wsX2_steer_0_10 : Cond.code yX2_isNode cX2_isNode 2 (some .boolean) ∈ wsX2_steer := lf_wsX2_steer_0 _ (List.Mem.tail _ (List.Mem.tail _ (List.Mem.tail _ (List.Mem.tail _ (List.Mem.tail _ (List.Mem.tail _ (List.Mem.tail _ (List.Mem.tail _ (List.Mem.tail _ (List.Mem.tail _ (List.Mem.head _)))))))))))
theorem wk_wsX2_steer_0_11 : Cond.fieldLink RX2 49 "TimeNet" "nodeCount" "I" ∈ wsX2_steer := lf_wsX2_steer_0 _ (List.Mem.tail _ (List.Mem.tail _ (List.Mem.tail _ (List.Mem.tail _ (List.Mem.tail _ (List.Mem.tail _ (List.Mem.tail _ (List.Mem.tail _ (List.Mem.tail _ (List.Mem.tail _ (List.Mem.tail _ (List.Mem.head _))))))))))))
theorem wk_wsX2_steer_0_6 : Cond.methodLink RX2 144 yX2_isNode ∈ wsX2_steer := lf_wsX2_steer_0 _ (List.Mem.tail _ (List.Mem.tail _ (List.Mem.tail _ (List.Mem.tail _ (List.Mem.tail _ (List.Mem.tail _ (List.Mem.head _)))))))
theorem wk_wsX2_steer_0_7 : Cond.instanceMethod yX2_isNode ∈ wsX2_steer := lf_wsX2_steer_0 _ (List.Mem.tail _ (List.Mem.tail _ (List.Mem.tail _ (List.Mem.tail _ (List.Mem.tail _ (List.Mem.tail _ (List.Mem.tail _ (List.Mem.head _))))))))
theorem wk_wsX2_steer_0_8 : Cond.selects RX2 yX2_isNode yX2_isNode ∈ wsX2_steer := lf_wsX2_steer_0 _ (List.Mem.tail _ (List.Mem.tail _ (List.Mem.tail _ (List.Mem.tail _ (List.Mem.tail _ (List.Mem.tail _ (List.Mem.tail _ (List.Mem.tail _ (List.Mem.head _)))))))))
theorem wk_wsX2_steer_0_9 : Cond.initialized RX2 ∈ wsX2_steer := lf_wsX2_steer_0 _ (List.Mem.tail _ (List.Mem.tail _ (List.Mem.tail _ (List.Mem.tail _ (List.Mem.tail _ (List.Mem.tail _ (List.Mem.tail _ (List.Mem.tail _ (List.Mem.tail _ (List.Mem.head _))))))))))
theorem wk_wsX2_steer_0_15 : Cond.code yX1_errorFrom cX1_errorFrom 5 (some .int) ∈ wsX2_steer := lf_wsX2_steer_0 _ (List.Mem.tail _ (List.Mem.tail _ (List.Mem.tail _ (List.Mem.tail _ (List.Mem.tail _ (List.Mem.tail _ (List.Mem.tail _ (List.Mem.tail _ (List.Mem.tail _ (List.Mem.tail _ (List.Mem.tail _ (List.Mem.tail _ (List.Mem.tail _ (List.Mem.tail _ (List.Mem.tail _ (List.Mem.head _))))))))))))))))
theorem wk_wsX2_steer_0_16 : Cond.fieldLink RX1 15 "TimeNet$Wires" "delay" "[I" ∈ wsX2_steer := lf_wsX2_steer_0 _ (List.Mem.tail _ (List.Mem.tail _ (List.Mem.tail _ (List.Mem.tail _ (List.Mem.tail _ (List.Mem.tail _ (List.Mem.tail _ (List.Mem.tail _ (List.Mem.tail _ (List.Mem.tail _ (List.Mem.tail _ (List.Mem.tail _ (List.Mem.tail _ (List.Mem.tail _ (List.Mem.tail _ (List.Mem.tail _ (List.Mem.head _)))))))))))))))))
theorem wk_wsX2_steer_0_17 : Cond.fieldLink RX1 19 "TimeNet$Wires" "told" "[I" ∈ wsX2_steer := lf_wsX2_steer_0 _ (List.Mem.tail _ (List.Mem.tail _ (List.Mem.tail _ (List.Mem.tail _ (List.Mem.tail _ (List.Mem.tail _ (List.Mem.tail _ (List.Mem.tail _ (List.Mem.tail _ (List.Mem.tail _ (List.Mem.tail _ (List.Mem.tail _ (List.Mem.tail _ (List.Mem.tail _ (List.Mem.tail _ (List.Mem.tail _ (List.Mem.tail _ (List.Mem.head _))))))))))))))))))
theorem wk_wsX2_steer_0_18 : Cond.methodLink RX1 26 yX1_place ∈ wsX2_steer := lf_wsX2_steer_0 _ (List.Mem.tail _ (List.Mem.tail _ (List.Mem.tail _ (List.Mem.tail _ (List.Mem.tail _ (List.Mem.tail _ (List.Mem.tail _ (List.Mem.tail _ (List.Mem.tail _ (List.Mem.tail _ (List.Mem.tail _ (List.Mem.tail _ (List.Mem.tail _ (List.Mem.tail _ (List.Mem.tail _ (List.Mem.tail _ (List.Mem.tail _ (List.Mem.tail _ (List.Mem.head _)))))))))))))))))))
theorem wk_wsX2_steer_0_19 : Cond.static yX1_place ∈ wsX2_steer := lf_wsX2_steer_0 _ (List.Mem.tail _ (List.Mem.tail _ (List.Mem.tail _ (List.Mem.tail _ (List.Mem.tail _ (List.Mem.tail _ (List.Mem.tail _ (List.Mem.tail _ (List.Mem.tail _ (List.Mem.tail _ (List.Mem.tail _ (List.Mem.tail _ (List.Mem.tail _ (List.Mem.tail _ (List.Mem.tail _ (List.Mem.tail _ (List.Mem.tail _ (List.Mem.tail _ (List.Mem.tail _ (List.Mem.head _))))))))))))))))))))
theorem wk_wsX2_steer_0_13 : Cond.initialized RX1 ∈ wsX2_steer := lf_wsX2_steer_0 _ (List.Mem.tail _ (List.Mem.tail _ (List.Mem.tail _ (List.Mem.tail _ (List.Mem.tail _ (List.Mem.tail _ (List.Mem.tail _ (List.Mem.tail _ (List.Mem.tail _ (List.Mem.tail _ (List.Mem.tail _ (List.Mem.tail _ (List.Mem.tail _ (List.Mem.head _))))))))))))))
theorem wk_wsX2_steer_0_20 : Cond.code yX1_place cX1_place 2 (some .int) ∈ wsX2_steer := lf_wsX2_steer_0 _ (List.Mem.tail _ (List.Mem.tail _ (List.Mem.tail _ (List.Mem.tail _ (List.Mem.tail _ (List.Mem.tail _ (List.Mem.tail _ (List.Mem.tail _ (List.Mem.tail _ (List.Mem.tail _ (List.Mem.tail _ (List.Mem.tail _ (List.Mem.tail _ (List.Mem.tail _ (List.Mem.tail _ (List.Mem.tail _ (List.Mem.tail _ (List.Mem.tail _ (List.Mem.tail _ (List.Mem.tail _ (List.Mem.head _)))))))))))))))))))))
theorem lf_wsX3_isNode_0 : ∀ w ∈ ([.fieldLink RX3 72 "TimeNetModel" "nodeMany" "I", .methodLink RX3 79 yX3_in, .static yX3_in, .initialized RX3, .code yX3_in cX3_in 3 (some .boolean)] : List Cond), w ∈ wsX3_isNode := fun w h => (List.mem_cons_of_mem _ (List.mem_append_left _ h))
theorem lf_wsX3_isNode_1 : ∀ w ∈ wsX30, w ∈ wsX3_isNode := fun w h => (List.mem_cons_of_mem _ (List.mem_append_right _ h))
theorem wk_wsX3_isNode_0_4 : Cond.code yX3_in cX3_in 3 (some .boolean) ∈ wsX3_isNode := lf_wsX3_isNode_0 _ (List.Mem.tail _ (List.Mem.tail _ (List.Mem.tail _ (List.Mem.tail _ (List.Mem.head _)))))
theorem wk_wsX3_isNode_0_1 : Cond.methodLink RX3 79 yX3_in ∈ wsX3_isNode := lf_wsX3_isNode_0 _ (List.Mem.tail _ (List.Mem.head _))
theorem wk_wsX3_isNode_0_2 : Cond.static yX3_in ∈ wsX3_isNode := lf_wsX3_isNode_0 _ (List.Mem.tail _ (List.Mem.tail _ (List.Mem.head _)))
theorem wk_wsX3_isNode_0_3 : Cond.initialized RX3 ∈ wsX3_isNode := lf_wsX3_isNode_0 _ (List.Mem.tail _ (List.Mem.tail _ (List.Mem.tail _ (List.Mem.head _))))
theorem lf_wsX3_add_0 : ∀ w ∈ ([.fieldLink RX3 72 "TimeNetModel" "nodeMany" "I", .fieldLink RX3 76 "TimeNetModel" "thrown" "I", .fieldLink RX3 7 "TimeNetModel" "domains" "[I", .fieldLink RX3 13 "TimeNetModel" "grades" "[I", .fieldLink RX3 16 "TimeNetModel" "variances" "[I", .fieldLink RX3 19 "TimeNetModel" "drifts" "[I", .methodLink RX3 79 yX3_in, .static yX3_in, .initialized RX3, .code yX3_in cX3_in 3 (some .boolean), .methodLink RX3 83 yX3_knowItself, .instanceMethod yX3_knowItself, .selects RX3 yX3_knowItself yX3_knowItself, .code yX3_knowItself cX3_knowItself 2 none, .fieldLink RX3 39 "TimeNetModel" "knownNode" "[I", .fieldLink RX3 42 "TimeNetModel" "knownGrade" "[I", .fieldLink RX3 45 "TimeNetModel" "knownVariance" "[I", .fieldLink RX3 48 "TimeNetModel" "knownSteps" "[I", .fieldLink RX3 51 "TimeNetModel" "parents" "[I"] : List Cond), w ∈ wsX3_add := fun w h => (List.mem_cons_of_mem _ (List.mem_append_left _ h))
theorem lf_wsX3_add_1 : ∀ w ∈ wsX30, w ∈ wsX3_add := fun w h => (List.mem_cons_of_mem _ (List.mem_append_right _ h))
theorem wk_wsX3_add_0_9 : Cond.code yX3_in cX3_in 3 (some .boolean) ∈ wsX3_add := lf_wsX3_add_0 _ (List.Mem.tail _ (List.Mem.tail _ (List.Mem.tail _ (List.Mem.tail _ (List.Mem.tail _ (List.Mem.tail _ (List.Mem.tail _ (List.Mem.tail _ (List.Mem.tail _ (List.Mem.head _))))))))))
theorem wk_wsX3_add_0_6 : Cond.methodLink RX3 79 yX3_in ∈ wsX3_add := lf_wsX3_add_0 _ (List.Mem.tail _ (List.Mem.tail _ (List.Mem.tail _ (List.Mem.tail _ (List.Mem.tail _ (List.Mem.tail _ (List.Mem.head _)))))))
theorem wk_wsX3_add_0_7 : Cond.static yX3_in ∈ wsX3_add := lf_wsX3_add_0 _ (List.Mem.tail _ (List.Mem.tail _ (List.Mem.tail _ (List.Mem.tail _ (List.Mem.tail _ (List.Mem.tail _ (List.Mem.tail _ (List.Mem.head _))))))))
theorem wk_wsX3_add_0_8 : Cond.initialized RX3 ∈ wsX3_add := lf_wsX3_add_0 _ (List.Mem.tail _ (List.Mem.tail _ (List.Mem.tail _ (List.Mem.tail _ (List.Mem.tail _ (List.Mem.tail _ (List.Mem.tail _ (List.Mem.tail _ (List.Mem.head _)))))))))
theorem wk_wsX3_add_0_13 : Cond.code yX3_knowItself cX3_knowItself 2 none ∈ wsX3_add := lf_wsX3_add_0 _ (List.Mem.tail _ (List.Mem.tail _ (List.Mem.tail _ (List.Mem.tail _ (List.Mem.tail _ (List.Mem.tail _ (List.Mem.tail _ (List.Mem.tail _ (List.Mem.tail _ (List.Mem.tail _ (List.Mem.tail _ (List.Mem.tail _ (List.Mem.tail _ (List.Mem.head _))))))))))))))
theorem wk_wsX3_add_0_14 : Cond.fieldLink RX3 39 "TimeNetModel" "knownNode" "[I" ∈ wsX3_add := lf_wsX3_add_0 _ (List.Mem.tail _ (List.Mem.tail _ (List.Mem.tail _ (List.Mem.tail _ (List.Mem.tail _ (List.Mem.tail _ (List.Mem.tail _ (List.Mem.tail _ (List.Mem.tail _ (List.Mem.tail _ (List.Mem.tail _ (List.Mem.tail _ (List.Mem.tail _ (List.Mem.tail _ (List.Mem.head _)))))))))))))))
theorem wk_wsX3_add_0_15 : Cond.fieldLink RX3 42 "TimeNetModel" "knownGrade" "[I" ∈ wsX3_add := lf_wsX3_add_0 _ (List.Mem.tail _ (List.Mem.tail _ (List.Mem.tail _ (List.Mem.tail _ (List.Mem.tail _ (List.Mem.tail _ (List.Mem.tail _ (List.Mem.tail _ (List.Mem.tail _ (List.Mem.tail _ (List.Mem.tail _ (List.Mem.tail _ (List.Mem.tail _ (List.Mem.tail _ (List.Mem.tail _ (List.Mem.head _))))))))))))))))
theorem wk_wsX3_add_0_3 : Cond.fieldLink RX3 13 "TimeNetModel" "grades" "[I" ∈ wsX3_add := lf_wsX3_add_0 _ (List.Mem.tail _ (List.Mem.tail _ (List.Mem.tail _ (List.Mem.head _))))
theorem wk_wsX3_add_0_16 : Cond.fieldLink RX3 45 "TimeNetModel" "knownVariance" "[I" ∈ wsX3_add := lf_wsX3_add_0 _ (List.Mem.tail _ (List.Mem.tail _ (List.Mem.tail _ (List.Mem.tail _ (List.Mem.tail _ (List.Mem.tail _ (List.Mem.tail _ (List.Mem.tail _ (List.Mem.tail _ (List.Mem.tail _ (List.Mem.tail _ (List.Mem.tail _ (List.Mem.tail _ (List.Mem.tail _ (List.Mem.tail _ (List.Mem.tail _ (List.Mem.head _)))))))))))))))))
theorem wk_wsX3_add_0_4 : Cond.fieldLink RX3 16 "TimeNetModel" "variances" "[I" ∈ wsX3_add := lf_wsX3_add_0 _ (List.Mem.tail _ (List.Mem.tail _ (List.Mem.tail _ (List.Mem.tail _ (List.Mem.head _)))))
theorem wk_wsX3_add_0_17 : Cond.fieldLink RX3 48 "TimeNetModel" "knownSteps" "[I" ∈ wsX3_add := lf_wsX3_add_0 _ (List.Mem.tail _ (List.Mem.tail _ (List.Mem.tail _ (List.Mem.tail _ (List.Mem.tail _ (List.Mem.tail _ (List.Mem.tail _ (List.Mem.tail _ (List.Mem.tail _ (List.Mem.tail _ (List.Mem.tail _ (List.Mem.tail _ (List.Mem.tail _ (List.Mem.tail _ (List.Mem.tail _ (List.Mem.tail _ (List.Mem.tail _ (List.Mem.head _))))))))))))))))))
theorem wk_wsX3_add_0_18 : Cond.fieldLink RX3 51 "TimeNetModel" "parents" "[I" ∈ wsX3_add := lf_wsX3_add_0 _ (List.Mem.tail _ (List.Mem.tail _ (List.Mem.tail _ (List.Mem.tail _ (List.Mem.tail _ (List.Mem.tail _ (List.Mem.tail _ (List.Mem.tail _ (List.Mem.tail _ (List.Mem.tail _ (List.Mem.tail _ (List.Mem.tail _ (List.Mem.tail _ (List.Mem.tail _ (List.Mem.tail _ (List.Mem.tail _ (List.Mem.tail _ (List.Mem.tail _ (List.Mem.head _)))))))))))))))))))
theorem wk_wsX3_add_0_10 : Cond.methodLink RX3 83 yX3_knowItself ∈ wsX3_add := lf_wsX3_add_0 _ (List.Mem.tail _ (List.Mem.tail _ (List.Mem.tail _ (List.Mem.tail _ (List.Mem.tail _ (List.Mem.tail _ (List.Mem.tail _ (List.Mem.tail _ (List.Mem.tail _ (List.Mem.tail _ (List.Mem.head _)))))))))))
theorem wk_wsX3_add_0_11 : Cond.instanceMethod yX3_knowItself ∈ wsX3_add := lf_wsX3_add_0 _ (List.Mem.tail _ (List.Mem.tail _ (List.Mem.tail _ (List.Mem.tail _ (List.Mem.tail _ (List.Mem.tail _ (List.Mem.tail _ (List.Mem.tail _ (List.Mem.tail _ (List.Mem.tail _ (List.Mem.tail _ (List.Mem.head _))))))))))))
theorem wk_wsX3_add_0_12 : Cond.selects RX3 yX3_knowItself yX3_knowItself ∈ wsX3_add := lf_wsX3_add_0 _ (List.Mem.tail _ (List.Mem.tail _ (List.Mem.tail _ (List.Mem.tail _ (List.Mem.tail _ (List.Mem.tail _ (List.Mem.tail _ (List.Mem.tail _ (List.Mem.tail _ (List.Mem.tail _ (List.Mem.tail _ (List.Mem.tail _ (List.Mem.head _)))))))))))))
theorem lf_wsX3_setClock_0 : ∀ w ∈ ([.fieldLink RX3 76 "TimeNetModel" "thrown" "I", .fieldLink RX3 13 "TimeNetModel" "grades" "[I", .fieldLink RX3 16 "TimeNetModel" "variances" "[I", .methodLink RX3 87 yX3_isNode, .instanceMethod yX3_isNode, .selects RX3 yX3_isNode yX3_isNode, .initialized RX3, .code yX3_isNode cX3_isNode 2 (some .boolean), .fieldLink RX3 72 "TimeNetModel" "nodeMany" "I", .methodLink RX3 79 yX3_in, .static yX3_in, .code yX3_in cX3_in 3 (some .boolean)] : List Cond), w ∈ wsX3_setClock := fun w h => (List.mem_cons_of_mem _ (List.mem_append_left _ h))
theorem lf_wsX3_setClock_1 : ∀ w ∈ wsX30, w ∈ wsX3_setClock := fun w h => (List.mem_cons_of_mem _ (List.mem_append_right _ h))
theorem wk_wsX3_setClock_0_7 : Cond.code yX3_isNode cX3_isNode 2 (some .boolean) ∈ wsX3_setClock := lf_wsX3_setClock_0 _ (List.Mem.tail _ (List.Mem.tail _ (List.Mem.tail _ (List.Mem.tail _ (List.Mem.tail _ (List.Mem.tail _ (List.Mem.tail _ (List.Mem.head _))))))))
theorem wk_wsX3_setClock_0_8 : Cond.fieldLink RX3 72 "TimeNetModel" "nodeMany" "I" ∈ wsX3_setClock := lf_wsX3_setClock_0 _ (List.Mem.tail _ (List.Mem.tail _ (List.Mem.tail _ (List.Mem.tail _ (List.Mem.tail _ (List.Mem.tail _ (List.Mem.tail _ (List.Mem.tail _ (List.Mem.head _)))))))))
theorem wk_wsX3_setClock_0_9 : Cond.methodLink RX3 79 yX3_in ∈ wsX3_setClock := lf_wsX3_setClock_0 _ (List.Mem.tail _ (List.Mem.tail _ (List.Mem.tail _ (List.Mem.tail _ (List.Mem.tail _ (List.Mem.tail _ (List.Mem.tail _ (List.Mem.tail _ (List.Mem.tail _ (List.Mem.head _))))))))))
theorem wk_wsX3_setClock_0_10 : Cond.static yX3_in ∈ wsX3_setClock := lf_wsX3_setClock_0 _ (List.Mem.tail _ (List.Mem.tail _ (List.Mem.tail _ (List.Mem.tail _ (List.Mem.tail _ (List.Mem.tail _ (List.Mem.tail _ (List.Mem.tail _ (List.Mem.tail _ (List.Mem.tail _ (List.Mem.head _)))))))))))
theorem wk_wsX3_setClock_0_6 : Cond.initialized RX3 ∈ wsX3_setClock := lf_wsX3_setClock_0 _ (List.Mem.tail _ (List.Mem.tail _ (List.Mem.tail _ (List.Mem.tail _ (List.Mem.tail _ (List.Mem.tail _ (List.Mem.head _)))))))
theorem wk_wsX3_setClock_0_11 : Cond.code yX3_in cX3_in 3 (some .boolean) ∈ wsX3_setClock := lf_wsX3_setClock_0 _ (List.Mem.tail _ (List.Mem.tail _ (List.Mem.tail _ (List.Mem.tail _ (List.Mem.tail _ (List.Mem.tail _ (List.Mem.tail _ (List.Mem.tail _ (List.Mem.tail _ (List.Mem.tail _ (List.Mem.tail _ (List.Mem.head _))))))))))))
theorem wk_wsX3_setClock_0_3 : Cond.methodLink RX3 87 yX3_isNode ∈ wsX3_setClock := lf_wsX3_setClock_0 _ (List.Mem.tail _ (List.Mem.tail _ (List.Mem.tail _ (List.Mem.head _))))
theorem wk_wsX3_setClock_0_4 : Cond.instanceMethod yX3_isNode ∈ wsX3_setClock := lf_wsX3_setClock_0 _ (List.Mem.tail _ (List.Mem.tail _ (List.Mem.tail _ (List.Mem.tail _ (List.Mem.head _)))))
theorem wk_wsX3_setClock_0_5 : Cond.selects RX3 yX3_isNode yX3_isNode ∈ wsX3_setClock := lf_wsX3_setClock_0 _ (List.Mem.tail _ (List.Mem.tail _ (List.Mem.tail _ (List.Mem.tail _ (List.Mem.tail _ (List.Mem.head _))))))
theorem lf_wsX3_setDrift_0 : ∀ w ∈ ([.fieldLink RX3 76 "TimeNetModel" "thrown" "I", .fieldLink RX3 19 "TimeNetModel" "drifts" "[I", .methodLink RX3 87 yX3_isNode, .instanceMethod yX3_isNode, .selects RX3 yX3_isNode yX3_isNode, .initialized RX3, .code yX3_isNode cX3_isNode 2 (some .boolean), .fieldLink RX3 72 "TimeNetModel" "nodeMany" "I", .methodLink RX3 79 yX3_in, .static yX3_in, .code yX3_in cX3_in 3 (some .boolean)] : List Cond), w ∈ wsX3_setDrift := fun w h => (List.mem_cons_of_mem _ (List.mem_append_left _ h))
theorem lf_wsX3_setDrift_1 : ∀ w ∈ wsX30, w ∈ wsX3_setDrift := fun w h => (List.mem_cons_of_mem _ (List.mem_append_right _ h))
theorem wk_wsX3_setDrift_0_6 : Cond.code yX3_isNode cX3_isNode 2 (some .boolean) ∈ wsX3_setDrift := lf_wsX3_setDrift_0 _ (List.Mem.tail _ (List.Mem.tail _ (List.Mem.tail _ (List.Mem.tail _ (List.Mem.tail _ (List.Mem.tail _ (List.Mem.head _)))))))
theorem wk_wsX3_setDrift_0_7 : Cond.fieldLink RX3 72 "TimeNetModel" "nodeMany" "I" ∈ wsX3_setDrift := lf_wsX3_setDrift_0 _ (List.Mem.tail _ (List.Mem.tail _ (List.Mem.tail _ (List.Mem.tail _ (List.Mem.tail _ (List.Mem.tail _ (List.Mem.tail _ (List.Mem.head _))))))))
theorem wk_wsX3_setDrift_0_8 : Cond.methodLink RX3 79 yX3_in ∈ wsX3_setDrift := lf_wsX3_setDrift_0 _ (List.Mem.tail _ (List.Mem.tail _ (List.Mem.tail _ (List.Mem.tail _ (List.Mem.tail _ (List.Mem.tail _ (List.Mem.tail _ (List.Mem.tail _ (List.Mem.head _)))))))))
theorem wk_wsX3_setDrift_0_9 : Cond.static yX3_in ∈ wsX3_setDrift := lf_wsX3_setDrift_0 _ (List.Mem.tail _ (List.Mem.tail _ (List.Mem.tail _ (List.Mem.tail _ (List.Mem.tail _ (List.Mem.tail _ (List.Mem.tail _ (List.Mem.tail _ (List.Mem.tail _ (List.Mem.head _))))))))))
theorem wk_wsX3_setDrift_0_5 : Cond.initialized RX3 ∈ wsX3_setDrift := lf_wsX3_setDrift_0 _ (List.Mem.tail _ (List.Mem.tail _ (List.Mem.tail _ (List.Mem.tail _ (List.Mem.tail _ (List.Mem.head _))))))
theorem wk_wsX3_setDrift_0_10 : Cond.code yX3_in cX3_in 3 (some .boolean) ∈ wsX3_setDrift := lf_wsX3_setDrift_0 _ (List.Mem.tail _ (List.Mem.tail _ (List.Mem.tail _ (List.Mem.tail _ (List.Mem.tail _ (List.Mem.tail _ (List.Mem.tail _ (List.Mem.tail _ (List.Mem.tail _ (List.Mem.tail _ (List.Mem.head _)))))))))))
theorem wk_wsX3_setDrift_0_2 : Cond.methodLink RX3 87 yX3_isNode ∈ wsX3_setDrift := lf_wsX3_setDrift_0 _ (List.Mem.tail _ (List.Mem.tail _ (List.Mem.head _)))
theorem wk_wsX3_setDrift_0_3 : Cond.instanceMethod yX3_isNode ∈ wsX3_setDrift := lf_wsX3_setDrift_0 _ (List.Mem.tail _ (List.Mem.tail _ (List.Mem.tail _ (List.Mem.head _))))
theorem wk_wsX3_setDrift_0_4 : Cond.selects RX3 yX3_isNode yX3_isNode ∈ wsX3_setDrift := lf_wsX3_setDrift_0 _ (List.Mem.tail _ (List.Mem.tail _ (List.Mem.tail _ (List.Mem.tail _ (List.Mem.head _)))))
theorem lf_wsX3_setOffset_0 : ∀ w ∈ ([.constant RX3 91 (-1000000), .constant RX3 92 (1000000), .fieldLink RX3 76 "TimeNetModel" "thrown" "I", .fieldLink RX3 22 "TimeNetModel" "offsets" "[J", .methodLink RX3 87 yX3_isNode, .instanceMethod yX3_isNode, .selects RX3 yX3_isNode yX3_isNode, .initialized RX3, .code yX3_isNode cX3_isNode 2 (some .boolean), .fieldLink RX3 72 "TimeNetModel" "nodeMany" "I", .methodLink RX3 79 yX3_in, .static yX3_in, .code yX3_in cX3_in 3 (some .boolean)] : List Cond), w ∈ wsX3_setOffset := fun w h => (List.mem_cons_of_mem _ (List.mem_append_left _ h))
theorem lf_wsX3_setOffset_1 : ∀ w ∈ wsX30, w ∈ wsX3_setOffset := fun w h => (List.mem_cons_of_mem _ (List.mem_append_right _ h))
theorem wk_wsX3_setOffset_0_8 : Cond.code yX3_isNode cX3_isNode 2 (some .boolean) ∈ wsX3_setOffset := lf_wsX3_setOffset_0 _ (List.Mem.tail _ (List.Mem.tail _ (List.Mem.tail _ (List.Mem.tail _ (List.Mem.tail _ (List.Mem.tail _ (List.Mem.tail _ (List.Mem.tail _ (List.Mem.head _)))))))))
theorem wk_wsX3_setOffset_0_9 : Cond.fieldLink RX3 72 "TimeNetModel" "nodeMany" "I" ∈ wsX3_setOffset := lf_wsX3_setOffset_0 _ (List.Mem.tail _ (List.Mem.tail _ (List.Mem.tail _ (List.Mem.tail _ (List.Mem.tail _ (List.Mem.tail _ (List.Mem.tail _ (List.Mem.tail _ (List.Mem.tail _ (List.Mem.head _))))))))))
theorem wk_wsX3_setOffset_0_10 : Cond.methodLink RX3 79 yX3_in ∈ wsX3_setOffset := lf_wsX3_setOffset_0 _ (List.Mem.tail _ (List.Mem.tail _ (List.Mem.tail _ (List.Mem.tail _ (List.Mem.tail _ (List.Mem.tail _ (List.Mem.tail _ (List.Mem.tail _ (List.Mem.tail _ (List.Mem.tail _ (List.Mem.head _)))))))))))
theorem wk_wsX3_setOffset_0_11 : Cond.static yX3_in ∈ wsX3_setOffset := lf_wsX3_setOffset_0 _ (List.Mem.tail _ (List.Mem.tail _ (List.Mem.tail _ (List.Mem.tail _ (List.Mem.tail _ (List.Mem.tail _ (List.Mem.tail _ (List.Mem.tail _ (List.Mem.tail _ (List.Mem.tail _ (List.Mem.tail _ (List.Mem.head _))))))))))))
theorem wk_wsX3_setOffset_0_7 : Cond.initialized RX3 ∈ wsX3_setOffset := lf_wsX3_setOffset_0 _ (List.Mem.tail _ (List.Mem.tail _ (List.Mem.tail _ (List.Mem.tail _ (List.Mem.tail _ (List.Mem.tail _ (List.Mem.tail _ (List.Mem.head _))))))))
theorem wk_wsX3_setOffset_0_12 : Cond.code yX3_in cX3_in 3 (some .boolean) ∈ wsX3_setOffset := lf_wsX3_setOffset_0 _ (List.Mem.tail _ (List.Mem.tail _ (List.Mem.tail _ (List.Mem.tail _ (List.Mem.tail _ (List.Mem.tail _ (List.Mem.tail _ (List.Mem.tail _ (List.Mem.tail _ (List.Mem.tail _ (List.Mem.tail _ (List.Mem.tail _ (List.Mem.head _)))))))))))))
theorem wk_wsX3_setOffset_0_4 : Cond.methodLink RX3 87 yX3_isNode ∈ wsX3_setOffset := lf_wsX3_setOffset_0 _ (List.Mem.tail _ (List.Mem.tail _ (List.Mem.tail _ (List.Mem.tail _ (List.Mem.head _)))))
theorem wk_wsX3_setOffset_0_5 : Cond.instanceMethod yX3_isNode ∈ wsX3_setOffset := lf_wsX3_setOffset_0 _ (List.Mem.tail _ (List.Mem.tail _ (List.Mem.tail _ (List.Mem.tail _ (List.Mem.tail _ (List.Mem.head _))))))
theorem wk_wsX3_setOffset_0_6 : Cond.selects RX3 yX3_isNode yX3_isNode ∈ wsX3_setOffset := lf_wsX3_setOffset_0 _ (List.Mem.tail _ (List.Mem.tail _ (List.Mem.tail _ (List.Mem.tail _ (List.Mem.tail _ (List.Mem.tail _ (List.Mem.head _)))))))
theorem lf_wsX3_link_0 : ∀ w ∈ ([.constant RX3 93 (100000), .fieldLink RX3 29 "TimeNetModel" "isLinked" "[Z", .fieldLink RX3 76 "TimeNetModel" "thrown" "I", .fieldLink RX3 33 "TimeNetModel" "delays" "[I", .fieldLink RX3 36 "TimeNetModel" "differences" "[I", .fieldLink RX3 94 "TimeNetModel" "linkMany" "I", .methodLink RX3 87 yX3_isNode, .instanceMethod yX3_isNode, .selects RX3 yX3_isNode yX3_isNode, .initialized RX3, .code yX3_isNode cX3_isNode 2 (some .boolean), .fieldLink RX3 72 "TimeNetModel" "nodeMany" "I", .methodLink RX3 79 yX3_in, .static yX3_in, .code yX3_in cX3_in 3 (some .boolean)] : List Cond), w ∈ wsX3_link := fun w h => (List.mem_cons_of_mem _ (List.mem_append_left _ h))
theorem lf_wsX3_link_1 : ∀ w ∈ wsX30, w ∈ wsX3_link := fun w h => (List.mem_cons_of_mem _ (List.mem_append_right _ h))
theorem wk_wsX3_link_0_10 : Cond.code yX3_isNode cX3_isNode 2 (some .boolean) ∈ wsX3_link := lf_wsX3_link_0 _ (List.Mem.tail _ (List.Mem.tail _ (List.Mem.tail _ (List.Mem.tail _ (List.Mem.tail _ (List.Mem.tail _ (List.Mem.tail _ (List.Mem.tail _ (List.Mem.tail _ (List.Mem.tail _ (List.Mem.head _)))))))))))
theorem wk_wsX3_link_0_11 : Cond.fieldLink RX3 72 "TimeNetModel" "nodeMany" "I" ∈ wsX3_link := lf_wsX3_link_0 _ (List.Mem.tail _ (List.Mem.tail _ (List.Mem.tail _ (List.Mem.tail _ (List.Mem.tail _ (List.Mem.tail _ (List.Mem.tail _ (List.Mem.tail _ (List.Mem.tail _ (List.Mem.tail _ (List.Mem.tail _ (List.Mem.head _))))))))))))
theorem wk_wsX3_link_0_12 : Cond.methodLink RX3 79 yX3_in ∈ wsX3_link := lf_wsX3_link_0 _ (List.Mem.tail _ (List.Mem.tail _ (List.Mem.tail _ (List.Mem.tail _ (List.Mem.tail _ (List.Mem.tail _ (List.Mem.tail _ (List.Mem.tail _ (List.Mem.tail _ (List.Mem.tail _ (List.Mem.tail _ (List.Mem.tail _ (List.Mem.head _)))))))))))))
theorem wk_wsX3_link_0_13 : Cond.static yX3_in ∈ wsX3_link := lf_wsX3_link_0 _ (List.Mem.tail _ (List.Mem.tail _ (List.Mem.tail _ (List.Mem.tail _ (List.Mem.tail _ (List.Mem.tail _ (List.Mem.tail _ (List.Mem.tail _ (List.Mem.tail _ (List.Mem.tail _ (List.Mem.tail _ (List.Mem.tail _ (List.Mem.tail _ (List.Mem.head _))))))))))))))
theorem wk_wsX3_link_0_9 : Cond.initialized RX3 ∈ wsX3_link := lf_wsX3_link_0 _ (List.Mem.tail _ (List.Mem.tail _ (List.Mem.tail _ (List.Mem.tail _ (List.Mem.tail _ (List.Mem.tail _ (List.Mem.tail _ (List.Mem.tail _ (List.Mem.tail _ (List.Mem.head _))))))))))
theorem wk_wsX3_link_0_14 : Cond.code yX3_in cX3_in 3 (some .boolean) ∈ wsX3_link := lf_wsX3_link_0 _ (List.Mem.tail _ (List.Mem.tail _ (List.Mem.tail _ (List.Mem.tail _ (List.Mem.tail _ (List.Mem.tail _ (List.Mem.tail _ (List.Mem.tail _ (List.Mem.tail _ (List.Mem.tail _ (List.Mem.tail _ (List.Mem.tail _ (List.Mem.tail _ (List.Mem.tail _ (List.Mem.head _)))))))))))))))
theorem wk_wsX3_link_0_6 : Cond.methodLink RX3 87 yX3_isNode ∈ wsX3_link := lf_wsX3_link_0 _ (List.Mem.tail _ (List.Mem.tail _ (List.Mem.tail _ (List.Mem.tail _ (List.Mem.tail _ (List.Mem.tail _ (List.Mem.head _)))))))
theorem wk_wsX3_link_0_7 : Cond.instanceMethod yX3_isNode ∈ wsX3_link := lf_wsX3_link_0 _ (List.Mem.tail _ (List.Mem.tail _ (List.Mem.tail _ (List.Mem.tail _ (List.Mem.tail _ (List.Mem.tail _ (List.Mem.tail _ (List.Mem.head _))))))))
theorem wk_wsX3_link_0_8 : Cond.selects RX3 yX3_isNode yX3_isNode ∈ wsX3_link := lf_wsX3_link_0 _ (List.Mem.tail _ (List.Mem.tail _ (List.Mem.tail _ (List.Mem.tail _ (List.Mem.tail _ (List.Mem.tail _ (List.Mem.tail _ (List.Mem.tail _ (List.Mem.head _)))))))))
theorem lf_wsX3_cut_0 : ∀ w ∈ ([.fieldLink RX3 29 "TimeNetModel" "isLinked" "[Z", .fieldLink RX3 76 "TimeNetModel" "thrown" "I", .fieldLink RX3 51 "TimeNetModel" "parents" "[I", .fieldLink RX3 94 "TimeNetModel" "linkMany" "I", .methodLink RX3 87 yX3_isNode, .instanceMethod yX3_isNode, .selects RX3 yX3_isNode yX3_isNode, .initialized RX3, .code yX3_isNode cX3_isNode 2 (some .boolean), .fieldLink RX3 72 "TimeNetModel" "nodeMany" "I", .methodLink RX3 79 yX3_in, .static yX3_in, .code yX3_in cX3_in 3 (some .boolean), .methodLink RX3 83 yX3_knowItself, .instanceMethod yX3_knowItself, .selects RX3 yX3_knowItself yX3_knowItself, .code yX3_knowItself cX3_knowItself 2 none, .fieldLink RX3 39 "TimeNetModel" "knownNode" "[I", .fieldLink RX3 42 "TimeNetModel" "knownGrade" "[I", .fieldLink RX3 13 "TimeNetModel" "grades" "[I", .fieldLink RX3 45 "TimeNetModel" "knownVariance" "[I", .fieldLink RX3 16 "TimeNetModel" "variances" "[I", .fieldLink RX3 48 "TimeNetModel" "knownSteps" "[I"] : List Cond), w ∈ wsX3_cut := fun w h => (List.mem_cons_of_mem _ (List.mem_append_left _ h))
theorem lf_wsX3_cut_1 : ∀ w ∈ wsX30, w ∈ wsX3_cut := fun w h => (List.mem_cons_of_mem _ (List.mem_append_right _ h))
theorem wk_wsX3_cut_0_8 : Cond.code yX3_isNode cX3_isNode 2 (some .boolean) ∈ wsX3_cut := lf_wsX3_cut_0 _ (List.Mem.tail _ (List.Mem.tail _ (List.Mem.tail _ (List.Mem.tail _ (List.Mem.tail _ (List.Mem.tail _ (List.Mem.tail _ (List.Mem.tail _ (List.Mem.head _)))))))))
theorem wk_wsX3_cut_0_9 : Cond.fieldLink RX3 72 "TimeNetModel" "nodeMany" "I" ∈ wsX3_cut := lf_wsX3_cut_0 _ (List.Mem.tail _ (List.Mem.tail _ (List.Mem.tail _ (List.Mem.tail _ (List.Mem.tail _ (List.Mem.tail _ (List.Mem.tail _ (List.Mem.tail _ (List.Mem.tail _ (List.Mem.head _))))))))))
theorem wk_wsX3_cut_0_10 : Cond.methodLink RX3 79 yX3_in ∈ wsX3_cut := lf_wsX3_cut_0 _ (List.Mem.tail _ (List.Mem.tail _ (List.Mem.tail _ (List.Mem.tail _ (List.Mem.tail _ (List.Mem.tail _ (List.Mem.tail _ (List.Mem.tail _ (List.Mem.tail _ (List.Mem.tail _ (List.Mem.head _)))))))))))
theorem wk_wsX3_cut_0_11 : Cond.static yX3_in ∈ wsX3_cut := lf_wsX3_cut_0 _ (List.Mem.tail _ (List.Mem.tail _ (List.Mem.tail _ (List.Mem.tail _ (List.Mem.tail _ (List.Mem.tail _ (List.Mem.tail _ (List.Mem.tail _ (List.Mem.tail _ (List.Mem.tail _ (List.Mem.tail _ (List.Mem.head _))))))))))))
theorem wk_wsX3_cut_0_7 : Cond.initialized RX3 ∈ wsX3_cut := lf_wsX3_cut_0 _ (List.Mem.tail _ (List.Mem.tail _ (List.Mem.tail _ (List.Mem.tail _ (List.Mem.tail _ (List.Mem.tail _ (List.Mem.tail _ (List.Mem.head _))))))))
theorem wk_wsX3_cut_0_12 : Cond.code yX3_in cX3_in 3 (some .boolean) ∈ wsX3_cut := lf_wsX3_cut_0 _ (List.Mem.tail _ (List.Mem.tail _ (List.Mem.tail _ (List.Mem.tail _ (List.Mem.tail _ (List.Mem.tail _ (List.Mem.tail _ (List.Mem.tail _ (List.Mem.tail _ (List.Mem.tail _ (List.Mem.tail _ (List.Mem.tail _ (List.Mem.head _)))))))))))))
theorem wk_wsX3_cut_0_4 : Cond.methodLink RX3 87 yX3_isNode ∈ wsX3_cut := lf_wsX3_cut_0 _ (List.Mem.tail _ (List.Mem.tail _ (List.Mem.tail _ (List.Mem.tail _ (List.Mem.head _)))))
theorem wk_wsX3_cut_0_5 : Cond.instanceMethod yX3_isNode ∈ wsX3_cut := lf_wsX3_cut_0 _ (List.Mem.tail _ (List.Mem.tail _ (List.Mem.tail _ (List.Mem.tail _ (List.Mem.tail _ (List.Mem.head _))))))
theorem wk_wsX3_cut_0_6 : Cond.selects RX3 yX3_isNode yX3_isNode ∈ wsX3_cut := lf_wsX3_cut_0 _ (List.Mem.tail _ (List.Mem.tail _ (List.Mem.tail _ (List.Mem.tail _ (List.Mem.tail _ (List.Mem.tail _ (List.Mem.head _)))))))
theorem wk_wsX3_cut_0_16 : Cond.code yX3_knowItself cX3_knowItself 2 none ∈ wsX3_cut := lf_wsX3_cut_0 _ (List.Mem.tail _ (List.Mem.tail _ (List.Mem.tail _ (List.Mem.tail _ (List.Mem.tail _ (List.Mem.tail _ (List.Mem.tail _ (List.Mem.tail _ (List.Mem.tail _ (List.Mem.tail _ (List.Mem.tail _ (List.Mem.tail _ (List.Mem.tail _ (List.Mem.tail _ (List.Mem.tail _ (List.Mem.tail _ (List.Mem.head _)))))))))))))))))
theorem wk_wsX3_cut_0_17 : Cond.fieldLink RX3 39 "TimeNetModel" "knownNode" "[I" ∈ wsX3_cut := lf_wsX3_cut_0 _ (List.Mem.tail _ (List.Mem.tail _ (List.Mem.tail _ (List.Mem.tail _ (List.Mem.tail _ (List.Mem.tail _ (List.Mem.tail _ (List.Mem.tail _ (List.Mem.tail _ (List.Mem.tail _ (List.Mem.tail _ (List.Mem.tail _ (List.Mem.tail _ (List.Mem.tail _ (List.Mem.tail _ (List.Mem.tail _ (List.Mem.tail _ (List.Mem.head _))))))))))))))))))
theorem wk_wsX3_cut_0_18 : Cond.fieldLink RX3 42 "TimeNetModel" "knownGrade" "[I" ∈ wsX3_cut := lf_wsX3_cut_0 _ (List.Mem.tail _ (List.Mem.tail _ (List.Mem.tail _ (List.Mem.tail _ (List.Mem.tail _ (List.Mem.tail _ (List.Mem.tail _ (List.Mem.tail _ (List.Mem.tail _ (List.Mem.tail _ (List.Mem.tail _ (List.Mem.tail _ (List.Mem.tail _ (List.Mem.tail _ (List.Mem.tail _ (List.Mem.tail _ (List.Mem.tail _ (List.Mem.tail _ (List.Mem.head _)))))))))))))))))))
theorem wk_wsX3_cut_0_19 : Cond.fieldLink RX3 13 "TimeNetModel" "grades" "[I" ∈ wsX3_cut := lf_wsX3_cut_0 _ (List.Mem.tail _ (List.Mem.tail _ (List.Mem.tail _ (List.Mem.tail _ (List.Mem.tail _ (List.Mem.tail _ (List.Mem.tail _ (List.Mem.tail _ (List.Mem.tail _ (List.Mem.tail _ (List.Mem.tail _ (List.Mem.tail _ (List.Mem.tail _ (List.Mem.tail _ (List.Mem.tail _ (List.Mem.tail _ (List.Mem.tail _ (List.Mem.tail _ (List.Mem.tail _ (List.Mem.head _))))))))))))))))))))
theorem wk_wsX3_cut_0_20 : Cond.fieldLink RX3 45 "TimeNetModel" "knownVariance" "[I" ∈ wsX3_cut := lf_wsX3_cut_0 _ (List.Mem.tail _ (List.Mem.tail _ (List.Mem.tail _ (List.Mem.tail _ (List.Mem.tail _ (List.Mem.tail _ (List.Mem.tail _ (List.Mem.tail _ (List.Mem.tail _ (List.Mem.tail _ (List.Mem.tail _ (List.Mem.tail _ (List.Mem.tail _ (List.Mem.tail _ (List.Mem.tail _ (List.Mem.tail _ (List.Mem.tail _ (List.Mem.tail _ (List.Mem.tail _ (List.Mem.tail _ (List.Mem.head _)))))))))))))))))))))
theorem wk_wsX3_cut_0_21 : Cond.fieldLink RX3 16 "TimeNetModel" "variances" "[I" ∈ wsX3_cut := lf_wsX3_cut_0 _ (List.Mem.tail _ (List.Mem.tail _ (List.Mem.tail _ (List.Mem.tail _ (List.Mem.tail _ (List.Mem.tail _ (List.Mem.tail _ (List.Mem.tail _ (List.Mem.tail _ (List.Mem.tail _ (List.Mem.tail _ (List.Mem.tail _ (List.Mem.tail _ (List.Mem.tail _ (List.Mem.tail _ (List.Mem.tail _ (List.Mem.tail _ (List.Mem.tail _ (List.Mem.tail _ (List.Mem.tail _ (List.Mem.tail _ (List.Mem.head _))))))))))))))))))))))
theorem wk_wsX3_cut_0_22 : Cond.fieldLink RX3 48 "TimeNetModel" "knownSteps" "[I" ∈ wsX3_cut := lf_wsX3_cut_0 _ (List.Mem.tail _ (List.Mem.tail _ (List.Mem.tail _ (List.Mem.tail _ (List.Mem.tail _ (List.Mem.tail _ (List.Mem.tail _ (List.Mem.tail _ (List.Mem.tail _ (List.Mem.tail _ (List.Mem.tail _ (List.Mem.tail _ (List.Mem.tail _ (List.Mem.tail _ (List.Mem.tail _ (List.Mem.tail _ (List.Mem.tail _ (List.Mem.tail _ (List.Mem.tail _ (List.Mem.tail _ (List.Mem.tail _ (List.Mem.tail _ (List.Mem.head _)))))))))))))))))))))))
theorem wk_wsX3_cut_0_2 : Cond.fieldLink RX3 51 "TimeNetModel" "parents" "[I" ∈ wsX3_cut := lf_wsX3_cut_0 _ (List.Mem.tail _ (List.Mem.tail _ (List.Mem.head _)))
theorem wk_wsX3_cut_0_13 : Cond.methodLink RX3 83 yX3_knowItself ∈ wsX3_cut := lf_wsX3_cut_0 _ (List.Mem.tail _ (List.Mem.tail _ (List.Mem.tail _ (List.Mem.tail _ (List.Mem.tail _ (List.Mem.tail _ (List.Mem.tail _ (List.Mem.tail _ (List.Mem.tail _ (List.Mem.tail _ (List.Mem.tail _ (List.Mem.tail _ (List.Mem.tail _ (List.Mem.head _))))))))))))))
theorem wk_wsX3_cut_0_14 : Cond.instanceMethod yX3_knowItself ∈ wsX3_cut := lf_wsX3_cut_0 _ (List.Mem.tail _ (List.Mem.tail _ (List.Mem.tail _ (List.Mem.tail _ (List.Mem.tail _ (List.Mem.tail _ (List.Mem.tail _ (List.Mem.tail _ (List.Mem.tail _ (List.Mem.tail _ (List.Mem.tail _ (List.Mem.tail _ (List.Mem.tail _ (List.Mem.tail _ (List.Mem.head _)))))))))))))))
theorem wk_wsX3_cut_0_15 : Cond.selects RX3 yX3_knowItself yX3_knowItself ∈ wsX3_cut := lf_wsX3_cut_0 _ (List.Mem.tail _ (List.Mem.tail _ (List.Mem.tail _ (List.Mem.tail _ (List.Mem.tail _ (List.Mem.tail _ (List.Mem.tail _ (List.Mem.tail _ (List.Mem.tail _ (List.Mem.tail _ (List.Mem.tail _ (List.Mem.tail _ (List.Mem.tail _ (List.Mem.tail _ (List.Mem.tail _ (List.Mem.head _))))))))))))))))
theorem lf_wsX3_tell_0 : ∀ w ∈ ([.constant RX3 97 (-100000), .constant RX3 93 (100000), .fieldLink RX3 29 "TimeNetModel" "isLinked" "[Z", .fieldLink RX3 76 "TimeNetModel" "thrown" "I", .fieldLink RX3 36 "TimeNetModel" "differences" "[I", .methodLink RX3 87 yX3_isNode, .instanceMethod yX3_isNode, .selects RX3 yX3_isNode yX3_isNode, .initialized RX3, .code yX3_isNode cX3_isNode 2 (some .boolean), .fieldLink RX3 72 "TimeNetModel" "nodeMany" "I", .methodLink RX3 79 yX3_in, .static yX3_in, .code yX3_in cX3_in 3 (some .boolean)] : List Cond), w ∈ wsX3_tell := fun w h => (List.mem_cons_of_mem _ (List.mem_append_left _ h))
theorem lf_wsX3_tell_1 : ∀ w ∈ wsX30, w ∈ wsX3_tell := fun w h => (List.mem_cons_of_mem _ (List.mem_append_right _ h))
theorem wk_wsX3_tell_0_9 : Cond.code yX3_isNode cX3_isNode 2 (some .boolean) ∈ wsX3_tell := lf_wsX3_tell_0 _ (List.Mem.tail _ (List.Mem.tail _ (List.Mem.tail _ (List.Mem.tail _ (List.Mem.tail _ (List.Mem.tail _ (List.Mem.tail _ (List.Mem.tail _ (List.Mem.tail _ (List.Mem.head _))))))))))
theorem wk_wsX3_tell_0_10 : Cond.fieldLink RX3 72 "TimeNetModel" "nodeMany" "I" ∈ wsX3_tell := lf_wsX3_tell_0 _ (List.Mem.tail _ (List.Mem.tail _ (List.Mem.tail _ (List.Mem.tail _ (List.Mem.tail _ (List.Mem.tail _ (List.Mem.tail _ (List.Mem.tail _ (List.Mem.tail _ (List.Mem.tail _ (List.Mem.head _)))))))))))
theorem wk_wsX3_tell_0_11 : Cond.methodLink RX3 79 yX3_in ∈ wsX3_tell := lf_wsX3_tell_0 _ (List.Mem.tail _ (List.Mem.tail _ (List.Mem.tail _ (List.Mem.tail _ (List.Mem.tail _ (List.Mem.tail _ (List.Mem.tail _ (List.Mem.tail _ (List.Mem.tail _ (List.Mem.tail _ (List.Mem.tail _ (List.Mem.head _))))))))))))
theorem wk_wsX3_tell_0_12 : Cond.static yX3_in ∈ wsX3_tell := lf_wsX3_tell_0 _ (List.Mem.tail _ (List.Mem.tail _ (List.Mem.tail _ (List.Mem.tail _ (List.Mem.tail _ (List.Mem.tail _ (List.Mem.tail _ (List.Mem.tail _ (List.Mem.tail _ (List.Mem.tail _ (List.Mem.tail _ (List.Mem.tail _ (List.Mem.head _)))))))))))))
theorem wk_wsX3_tell_0_8 : Cond.initialized RX3 ∈ wsX3_tell := lf_wsX3_tell_0 _ (List.Mem.tail _ (List.Mem.tail _ (List.Mem.tail _ (List.Mem.tail _ (List.Mem.tail _ (List.Mem.tail _ (List.Mem.tail _ (List.Mem.tail _ (List.Mem.head _)))))))))
theorem wk_wsX3_tell_0_13 : Cond.code yX3_in cX3_in 3 (some .boolean) ∈ wsX3_tell := lf_wsX3_tell_0 _ (List.Mem.tail _ (List.Mem.tail _ (List.Mem.tail _ (List.Mem.tail _ (List.Mem.tail _ (List.Mem.tail _ (List.Mem.tail _ (List.Mem.tail _ (List.Mem.tail _ (List.Mem.tail _ (List.Mem.tail _ (List.Mem.tail _ (List.Mem.tail _ (List.Mem.head _))))))))))))))
theorem wk_wsX3_tell_0_5 : Cond.methodLink RX3 87 yX3_isNode ∈ wsX3_tell := lf_wsX3_tell_0 _ (List.Mem.tail _ (List.Mem.tail _ (List.Mem.tail _ (List.Mem.tail _ (List.Mem.tail _ (List.Mem.head _))))))
theorem wk_wsX3_tell_0_6 : Cond.instanceMethod yX3_isNode ∈ wsX3_tell := lf_wsX3_tell_0 _ (List.Mem.tail _ (List.Mem.tail _ (List.Mem.tail _ (List.Mem.tail _ (List.Mem.tail _ (List.Mem.tail _ (List.Mem.head _)))))))
theorem wk_wsX3_tell_0_7 : Cond.selects RX3 yX3_isNode yX3_isNode ∈ wsX3_tell := lf_wsX3_tell_0 _ (List.Mem.tail _ (List.Mem.tail _ (List.Mem.tail _ (List.Mem.tail _ (List.Mem.tail _ (List.Mem.tail _ (List.Mem.tail _ (List.Mem.head _))))))))
theorem lf_wsX3_listen_0 : ∀ w ∈ ([.fieldLink RX3 54 "TimeNetModel" "nextNode" "[I", .fieldLink RX3 57 "TimeNetModel" "nextGrade" "[I", .fieldLink RX3 13 "TimeNetModel" "grades" "[I", .fieldLink RX3 60 "TimeNetModel" "nextVariance" "[I", .fieldLink RX3 16 "TimeNetModel" "variances" "[I", .fieldLink RX3 63 "TimeNetModel" "nextSteps" "[I", .fieldLink RX3 66 "TimeNetModel" "nextParents" "[I", .fieldLink RX3 72 "TimeNetModel" "nodeMany" "I", .fieldLink RX3 48 "TimeNetModel" "knownSteps" "[I", .fieldLink RX3 51 "TimeNetModel" "parents" "[I", .fieldLink RX3 39 "TimeNetModel" "knownNode" "[I", .fieldLink RX3 42 "TimeNetModel" "knownGrade" "[I", .fieldLink RX3 45 "TimeNetModel" "knownVariance" "[I", .methodLink RX3 98 yX3_areNeighbours, .instanceMethod yX3_areNeighbours, .selects RX3 yX3_areNeighbours yX3_areNeighbours, .initialized RX3, .code yX3_areNeighbours cX3_areNeighbours 3 (some .boolean), .fieldLink RX3 29 "TimeNetModel" "isLinked" "[Z", .fieldLink RX3 7 "TimeNetModel" "domains" "[I", .methodLink RX3 102 yX3_isBetter, .instanceMethod yX3_isBetter, .selects RX3 yX3_isBetter yX3_isBetter, .code yX3_isBetter cX3_isBetter 3 (some .boolean)] : List Cond), w ∈ wsX3_listen := fun w h => (List.mem_cons_of_mem _ (List.mem_append_left _ h))
theorem lf_wsX3_listen_1 : ∀ w ∈ wsX30, w ∈ wsX3_listen := fun w h => (List.mem_cons_of_mem _ (List.mem_append_right _ h))
theorem wk_wsX3_listen_0_17 : Cond.code yX3_areNeighbours cX3_areNeighbours 3 (some .boolean) ∈ wsX3_listen := lf_wsX3_listen_0 _ (List.Mem.tail _ (List.Mem.tail _ (List.Mem.tail _ (List.Mem.tail _ (List.Mem.tail _ (List.Mem.tail _ (List.Mem.tail _ (List.Mem.tail _ (List.Mem.tail _ (List.Mem.tail _ (List.Mem.tail _ (List.Mem.tail _ (List.Mem.tail _ (List.Mem.tail _ (List.Mem.tail _ (List.Mem.tail _ (List.Mem.tail _ (List.Mem.head _))))))))))))))))))
theorem wk_wsX3_listen_0_18 : Cond.fieldLink RX3 29 "TimeNetModel" "isLinked" "[Z" ∈ wsX3_listen := lf_wsX3_listen_0 _ (List.Mem.tail _ (List.Mem.tail _ (List.Mem.tail _ (List.Mem.tail _ (List.Mem.tail _ (List.Mem.tail _ (List.Mem.tail _ (List.Mem.tail _ (List.Mem.tail _ (List.Mem.tail _ (List.Mem.tail _ (List.Mem.tail _ (List.Mem.tail _ (List.Mem.tail _ (List.Mem.tail _ (List.Mem.tail _ (List.Mem.tail _ (List.Mem.tail _ (List.Mem.head _)))))))))))))))))))
theorem wk_wsX3_listen_0_19 : Cond.fieldLink RX3 7 "TimeNetModel" "domains" "[I" ∈ wsX3_listen := lf_wsX3_listen_0 _ (List.Mem.tail _ (List.Mem.tail _ (List.Mem.tail _ (List.Mem.tail _ (List.Mem.tail _ (List.Mem.tail _ (List.Mem.tail _ (List.Mem.tail _ (List.Mem.tail _ (List.Mem.tail _ (List.Mem.tail _ (List.Mem.tail _ (List.Mem.tail _ (List.Mem.tail _ (List.Mem.tail _ (List.Mem.tail _ (List.Mem.tail _ (List.Mem.tail _ (List.Mem.tail _ (List.Mem.head _))))))))))))))))))))
theorem wk_wsX3_listen_0_13 : Cond.methodLink RX3 98 yX3_areNeighbours ∈ wsX3_listen := lf_wsX3_listen_0 _ (List.Mem.tail _ (List.Mem.tail _ (List.Mem.tail _ (List.Mem.tail _ (List.Mem.tail _ (List.Mem.tail _ (List.Mem.tail _ (List.Mem.tail _ (List.Mem.tail _ (List.Mem.tail _ (List.Mem.tail _ (List.Mem.tail _ (List.Mem.tail _ (List.Mem.head _))))))))))))))
theorem wk_wsX3_listen_0_14 : Cond.instanceMethod yX3_areNeighbours ∈ wsX3_listen := lf_wsX3_listen_0 _ (List.Mem.tail _ (List.Mem.tail _ (List.Mem.tail _ (List.Mem.tail _ (List.Mem.tail _ (List.Mem.tail _ (List.Mem.tail _ (List.Mem.tail _ (List.Mem.tail _ (List.Mem.tail _ (List.Mem.tail _ (List.Mem.tail _ (List.Mem.tail _ (List.Mem.tail _ (List.Mem.head _)))))))))))))))
theorem wk_wsX3_listen_0_15 : Cond.selects RX3 yX3_areNeighbours yX3_areNeighbours ∈ wsX3_listen := lf_wsX3_listen_0 _ (List.Mem.tail _ (List.Mem.tail _ (List.Mem.tail _ (List.Mem.tail _ (List.Mem.tail _ (List.Mem.tail _ (List.Mem.tail _ (List.Mem.tail _ (List.Mem.tail _ (List.Mem.tail _ (List.Mem.tail _ (List.Mem.tail _ (List.Mem.tail _ (List.Mem.tail _ (List.Mem.tail _ (List.Mem.head _))))))))))))))))
theorem wk_wsX3_listen_0_16 : Cond.initialized RX3 ∈ wsX3_listen := lf_wsX3_listen_0 _ (List.Mem.tail _ (List.Mem.tail _ (List.Mem.tail _ (List.Mem.tail _ (List.Mem.tail _ (List.Mem.tail _ (List.Mem.tail _ (List.Mem.tail _ (List.Mem.tail _ (List.Mem.tail _ (List.Mem.tail _ (List.Mem.tail _ (List.Mem.tail _ (List.Mem.tail _ (List.Mem.tail _ (List.Mem.tail _ (List.Mem.head _)))))))))))))))))
theorem wk_wsX3_listen_0_23 : Cond.code yX3_isBetter cX3_isBetter 3 (some .boolean) ∈ wsX3_listen := lf_wsX3_listen_0 _ (List.Mem.tail _ (List.Mem.tail _ (List.Mem.tail _ (List.Mem.tail _ (List.Mem.tail _ (List.Mem.tail _ (List.Mem.tail _ (List.Mem.tail _ (List.Mem.tail _ (List.Mem.tail _ (List.Mem.tail _ (List.Mem.tail _ (List.Mem.tail _ (List.Mem.tail _ (List.Mem.tail _ (List.Mem.tail _ (List.Mem.tail _ (List.Mem.tail _ (List.Mem.tail _ (List.Mem.tail _ (List.Mem.tail _ (List.Mem.tail _ (List.Mem.tail _ (List.Mem.head _))))))))))))))))))))))))
theorem wk_wsX3_listen_0_11 : Cond.fieldLink RX3 42 "TimeNetModel" "knownGrade" "[I" ∈ wsX3_listen := lf_wsX3_listen_0 _ (List.Mem.tail _ (List.Mem.tail _ (List.Mem.tail _ (List.Mem.tail _ (List.Mem.tail _ (List.Mem.tail _ (List.Mem.tail _ (List.Mem.tail _ (List.Mem.tail _ (List.Mem.tail _ (List.Mem.tail _ (List.Mem.head _))))))))))))
theorem wk_wsX3_listen_0_1 : Cond.fieldLink RX3 57 "TimeNetModel" "nextGrade" "[I" ∈ wsX3_listen := lf_wsX3_listen_0 _ (List.Mem.tail _ (List.Mem.head _))
theorem wk_wsX3_listen_0_12 : Cond.fieldLink RX3 45 "TimeNetModel" "knownVariance" "[I" ∈ wsX3_listen := lf_wsX3_listen_0 _ (List.Mem.tail _ (List.Mem.tail _ (List.Mem.tail _ (List.Mem.tail _ (List.Mem.tail _ (List.Mem.tail _ (List.Mem.tail _ (List.Mem.tail _ (List.Mem.tail _ (List.Mem.tail _ (List.Mem.tail _ (List.Mem.tail _ (List.Mem.head _)))))))))))))
theorem wk_wsX3_listen_0_3 : Cond.fieldLink RX3 60 "TimeNetModel" "nextVariance" "[I" ∈ wsX3_listen := lf_wsX3_listen_0 _ (List.Mem.tail _ (List.Mem.tail _ (List.Mem.tail _ (List.Mem.head _))))
theorem wk_wsX3_listen_0_10 : Cond.fieldLink RX3 39 "TimeNetModel" "knownNode" "[I" ∈ wsX3_listen := lf_wsX3_listen_0 _ (List.Mem.tail _ (List.Mem.tail _ (List.Mem.tail _ (List.Mem.tail _ (List.Mem.tail _ (List.Mem.tail _ (List.Mem.tail _ (List.Mem.tail _ (List.Mem.tail _ (List.Mem.tail _ (List.Mem.head _)))))))))))
theorem wk_wsX3_listen_0_0 : Cond.fieldLink RX3 54 "TimeNetModel" "nextNode" "[I" ∈ wsX3_listen := lf_wsX3_listen_0 _ (List.Mem.head _)
theorem wk_wsX3_listen_0_8 : Cond.fieldLink RX3 48 "TimeNetModel" "knownSteps" "[I" ∈ wsX3_listen := lf_wsX3_listen_0 _ (List.Mem.tail _ (List.Mem.tail _ (List.Mem.tail _ (List.Mem.tail _ (List.Mem.tail _ (List.Mem.tail _ (List.Mem.tail _ (List.Mem.tail _ (List.Mem.head _)))))))))
theorem wk_wsX3_listen_0_5 : Cond.fieldLink RX3 63 "TimeNetModel" "nextSteps" "[I" ∈ wsX3_listen := lf_wsX3_listen_0 _ (List.Mem.tail _ (List.Mem.tail _ (List.Mem.tail _ (List.Mem.tail _ (List.Mem.tail _ (List.Mem.head _))))))
theorem wk_wsX3_listen_0_20 : Cond.methodLink RX3 102 yX3_isBetter ∈ wsX3_listen := lf_wsX3_listen_0 _ (List.Mem.tail _ (List.Mem.tail _ (List.Mem.tail _ (List.Mem.tail _ (List.Mem.tail _ (List.Mem.tail _ (List.Mem.tail _ (List.Mem.tail _ (List.Mem.tail _ (List.Mem.tail _ (List.Mem.tail _ (List.Mem.tail _ (List.Mem.tail _ (List.Mem.tail _ (List.Mem.tail _ (List.Mem.tail _ (List.Mem.tail _ (List.Mem.tail _ (List.Mem.tail _ (List.Mem.tail _ (List.Mem.head _)))))))))))))))))))))
theorem wk_wsX3_listen_0_21 : Cond.instanceMethod yX3_isBetter ∈ wsX3_listen := lf_wsX3_listen_0 _ (List.Mem.tail _ (List.Mem.tail _ (List.Mem.tail _ (List.Mem.tail _ (List.Mem.tail _ (List.Mem.tail _ (List.Mem.tail _ (List.Mem.tail _ (List.Mem.tail _ (List.Mem.tail _ (List.Mem.tail _ (List.Mem.tail _ (List.Mem.tail _ (List.Mem.tail _ (List.Mem.tail _ (List.Mem.tail _ (List.Mem.tail _ (List.Mem.tail _ (List.Mem.tail _ (List.Mem.tail _ (List.Mem.tail _ (List.Mem.head _))))))))))))))))))))))
theorem wk_wsX3_listen_0_22 : Cond.selects RX3 yX3_isBetter yX3_isBetter ∈ wsX3_listen := lf_wsX3_listen_0 _ (List.Mem.tail _ (List.Mem.tail _ (List.Mem.tail _ (List.Mem.tail _ (List.Mem.tail _ (List.Mem.tail _ (List.Mem.tail _ (List.Mem.tail _ (List.Mem.tail _ (List.Mem.tail _ (List.Mem.tail _ (List.Mem.tail _ (List.Mem.tail _ (List.Mem.tail _ (List.Mem.tail _ (List.Mem.tail _ (List.Mem.tail _ (List.Mem.tail _ (List.Mem.tail _ (List.Mem.tail _ (List.Mem.tail _ (List.Mem.tail _ (List.Mem.head _)))))))))))))))))))))))
theorem lf_wsX3_announce_0 : ∀ w ∈ wsX3_announce_r1, w ∈ wsX3_announce := fun w h => (List.mem_cons_of_mem _ (List.mem_append_left _ (List.mem_append_left _ h)))
theorem lf_wsX3_announce_1 : ∀ w ∈ wsX3_announce_r2, w ∈ wsX3_announce := fun w h => (List.mem_cons_of_mem _ (List.mem_append_left _ (List.mem_append_right _ h)))
theorem lf_wsX3_announce_2 : ∀ w ∈ wsX30, w ∈ wsX3_announce := fun w h => (List.mem_cons_of_mem _ (List.mem_append_right _ h))
theorem wk_wsX3_announce_0_15 : Cond.code yX3_listen cX3_listen 4 none ∈ wsX3_announce := lf_wsX3_announce_0 _ (List.Mem.tail _ (List.Mem.tail _ (List.Mem.tail _ (List.Mem.tail _ (List.Mem.tail _ (List.Mem.tail _ (List.Mem.tail _ (List.Mem.tail _ (List.Mem.tail _ (List.Mem.tail _ (List.Mem.tail _ (List.Mem.tail _ (List.Mem.tail _ (List.Mem.tail _ (List.Mem.tail _ (List.Mem.head _))))))))))))))))
theorem wk_wsX3_announce_0_2 : Cond.fieldLink RX3 54 "TimeNetModel" "nextNode" "[I" ∈ wsX3_announce := lf_wsX3_announce_0 _ (List.Mem.tail _ (List.Mem.tail _ (List.Mem.head _)))
theorem wk_wsX3_announce_0_4 : Cond.fieldLink RX3 57 "TimeNetModel" "nextGrade" "[I" ∈ wsX3_announce := lf_wsX3_announce_0 _ (List.Mem.tail _ (List.Mem.tail _ (List.Mem.tail _ (List.Mem.tail _ (List.Mem.head _)))))
theorem wk_wsX3_announce_0_16 : Cond.fieldLink RX3 13 "TimeNetModel" "grades" "[I" ∈ wsX3_announce := lf_wsX3_announce_0 _ (List.Mem.tail _ (List.Mem.tail _ (List.Mem.tail _ (List.Mem.tail _ (List.Mem.tail _ (List.Mem.tail _ (List.Mem.tail _ (List.Mem.tail _ (List.Mem.tail _ (List.Mem.tail _ (List.Mem.tail _ (List.Mem.tail _ (List.Mem.tail _ (List.Mem.tail _ (List.Mem.tail _ (List.Mem.tail _ (List.Mem.head _)))))))))))))))))
theorem wk_wsX3_announce_0_6 : Cond.fieldLink RX3 60 "TimeNetModel" "nextVariance" "[I" ∈ wsX3_announce := lf_wsX3_announce_0 _ (List.Mem.tail _ (List.Mem.tail _ (List.Mem.tail _ (List.Mem.tail _ (List.Mem.tail _ (List.Mem.tail _ (List.Mem.head _)))))))
theorem wk_wsX3_announce_0_17 : Cond.fieldLink RX3 16 "TimeNetModel" "variances" "[I" ∈ wsX3_announce := lf_wsX3_announce_0 _ (List.Mem.tail _ (List.Mem.tail _ (List.Mem.tail _ (List.Mem.tail _ (List.Mem.tail _ (List.Mem.tail _ (List.Mem.tail _ (List.Mem.tail _ (List.Mem.tail _ (List.Mem.tail _ (List.Mem.tail _ (List.Mem.tail _ (List.Mem.tail _ (List.Mem.tail _ (List.Mem.tail _ (List.Mem.tail _ (List.Mem.tail _ (List.Mem.head _))))))))))))))))))
theorem wk_wsX3_announce_0_8 : Cond.fieldLink RX3 63 "TimeNetModel" "nextSteps" "[I" ∈ wsX3_announce := lf_wsX3_announce_0 _ (List.Mem.tail _ (List.Mem.tail _ (List.Mem.tail _ (List.Mem.tail _ (List.Mem.tail _ (List.Mem.tail _ (List.Mem.tail _ (List.Mem.tail _ (List.Mem.head _)))))))))
theorem wk_wsX3_announce_0_10 : Cond.fieldLink RX3 66 "TimeNetModel" "nextParents" "[I" ∈ wsX3_announce := lf_wsX3_announce_0 _ (List.Mem.tail _ (List.Mem.tail _ (List.Mem.tail _ (List.Mem.tail _ (List.Mem.tail _ (List.Mem.tail _ (List.Mem.tail _ (List.Mem.tail _ (List.Mem.tail _ (List.Mem.tail _ (List.Mem.head _)))))))))))
theorem wk_wsX3_announce_0_0 : Cond.fieldLink RX3 72 "TimeNetModel" "nodeMany" "I" ∈ wsX3_announce := lf_wsX3_announce_0 _ (List.Mem.head _)
theorem wk_wsX3_announce_0_7 : Cond.fieldLink RX3 48 "TimeNetModel" "knownSteps" "[I" ∈ wsX3_announce := lf_wsX3_announce_0 _ (List.Mem.tail _ (List.Mem.tail _ (List.Mem.tail _ (List.Mem.tail _ (List.Mem.tail _ (List.Mem.tail _ (List.Mem.tail _ (List.Mem.head _))))))))
theorem wk_wsX3_announce_0_9 : Cond.fieldLink RX3 51 "TimeNetModel" "parents" "[I" ∈ wsX3_announce := lf_wsX3_announce_0 _ (List.Mem.tail _ (List.Mem.tail _ (List.Mem.tail _ (List.Mem.tail _ (List.Mem.tail _ (List.Mem.tail _ (List.Mem.tail _ (List.Mem.tail _ (List.Mem.tail _ (List.Mem.head _))))))))))
theorem wk_wsX3_announce_0_1 : Cond.fieldLink RX3 39 "TimeNetModel" "knownNode" "[I" ∈ wsX3_announce := lf_wsX3_announce_0 _ (List.Mem.tail _ (List.Mem.head _))
theorem wk_wsX3_announce_0_3 : Cond.fieldLink RX3 42 "TimeNetModel" "knownGrade" "[I" ∈ wsX3_announce := lf_wsX3_announce_0 _ (List.Mem.tail _ (List.Mem.tail _ (List.Mem.tail _ (List.Mem.head _))))
theorem wk_wsX3_announce_0_5 : Cond.fieldLink RX3 45 "TimeNetModel" "knownVariance" "[I" ∈ wsX3_announce := lf_wsX3_announce_0 _ (List.Mem.tail _ (List.Mem.tail _ (List.Mem.tail _ (List.Mem.tail _ (List.Mem.tail _ (List.Mem.head _))))))
theorem wk_wsX3_announce_0_18 : Cond.methodLink RX3 98 yX3_areNeighbours ∈ wsX3_announce := lf_wsX3_announce_0 _ (List.Mem.tail _ (List.Mem.tail _ (List.Mem.tail _ (List.Mem.tail _ (List.Mem.tail _ (List.Mem.tail _ (List.Mem.tail _ (List.Mem.tail _ (List.Mem.tail _ (List.Mem.tail _ (List.Mem.tail _ (List.Mem.tail _ (List.Mem.tail _ (List.Mem.tail _ (List.Mem.tail _ (List.Mem.tail _ (List.Mem.tail _ (List.Mem.tail _ (List.Mem.head _)))))))))))))))))))
theorem wk_wsX3_announce_0_19 : Cond.instanceMethod yX3_areNeighbours ∈ wsX3_announce := lf_wsX3_announce_0 _ (List.Mem.tail _ (List.Mem.tail _ (List.Mem.tail _ (List.Mem.tail _ (List.Mem.tail _ (List.Mem.tail _ (List.Mem.tail _ (List.Mem.tail _ (List.Mem.tail _ (List.Mem.tail _ (List.Mem.tail _ (List.Mem.tail _ (List.Mem.tail _ (List.Mem.tail _ (List.Mem.tail _ (List.Mem.tail _ (List.Mem.tail _ (List.Mem.tail _ (List.Mem.tail _ (List.Mem.head _))))))))))))))))))))
theorem wk_wsX3_announce_0_20 : Cond.selects RX3 yX3_areNeighbours yX3_areNeighbours ∈ wsX3_announce := lf_wsX3_announce_0 _ (List.Mem.tail _ (List.Mem.tail _ (List.Mem.tail _ (List.Mem.tail _ (List.Mem.tail _ (List.Mem.tail _ (List.Mem.tail _ (List.Mem.tail _ (List.Mem.tail _ (List.Mem.tail _ (List.Mem.tail _ (List.Mem.tail _ (List.Mem.tail _ (List.Mem.tail _ (List.Mem.tail _ (List.Mem.tail _ (List.Mem.tail _ (List.Mem.tail _ (List.Mem.tail _ (List.Mem.tail _ (List.Mem.head _)))))))))))))))))))))
theorem wk_wsX3_announce_0_14 : Cond.initialized RX3 ∈ wsX3_announce := lf_wsX3_announce_0 _ (List.Mem.tail _ (List.Mem.tail _ (List.Mem.tail _ (List.Mem.tail _ (List.Mem.tail _ (List.Mem.tail _ (List.Mem.tail _ (List.Mem.tail _ (List.Mem.tail _ (List.Mem.tail _ (List.Mem.tail _ (List.Mem.tail _ (List.Mem.tail _ (List.Mem.tail _ (List.Mem.head _)))))))))))))))
theorem wk_wsX3_announce_0_21 : Cond.code yX3_areNeighbours cX3_areNeighbours 3 (some .boolean) ∈ wsX3_announce := lf_wsX3_announce_0 _ (List.Mem.tail _ (List.Mem.tail _ (List.Mem.tail _ (List.Mem.tail _ (List.Mem.tail _ (List.Mem.tail _ (List.Mem.tail _ (List.Mem.tail _ (List.Mem.tail _ (List.Mem.tail _ (List.Mem.tail _ (List.Mem.tail _ (List.Mem.tail _ (List.Mem.tail _ (List.Mem.tail _ (List.Mem.tail _ (List.Mem.tail _ (List.Mem.tail _ (List.Mem.tail _ (List.Mem.tail _ (List.Mem.tail _ (List.Mem.head _))))))))))))))))))))))
theorem wk_wsX3_announce_0_22 : Cond.fieldLink RX3 29 "TimeNetModel" "isLinked" "[Z" ∈ wsX3_announce := lf_wsX3_announce_0 _ (List.Mem.tail _ (List.Mem.tail _ (List.Mem.tail _ (List.Mem.tail _ (List.Mem.tail _ (List.Mem.tail _ (List.Mem.tail _ (List.Mem.tail _ (List.Mem.tail _ (List.Mem.tail _ (List.Mem.tail _ (List.Mem.tail _ (List.Mem.tail _ (List.Mem.tail _ (List.Mem.tail _ (List.Mem.tail _ (List.Mem.tail _ (List.Mem.tail _ (List.Mem.tail _ (List.Mem.tail _ (List.Mem.tail _ (List.Mem.tail _ (List.Mem.head _)))))))))))))))))))))))
theorem wk_wsX3_announce_0_23 : Cond.fieldLink RX3 7 "TimeNetModel" "domains" "[I" ∈ wsX3_announce := lf_wsX3_announce_0 _ (List.Mem.tail _ (List.Mem.tail _ (List.Mem.tail _ (List.Mem.tail _ (List.Mem.tail _ (List.Mem.tail _ (List.Mem.tail _ (List.Mem.tail _ (List.Mem.tail _ (List.Mem.tail _ (List.Mem.tail _ (List.Mem.tail _ (List.Mem.tail _ (List.Mem.tail _ (List.Mem.tail _ (List.Mem.tail _ (List.Mem.tail _ (List.Mem.tail _ (List.Mem.tail _ (List.Mem.tail _ (List.Mem.tail _ (List.Mem.tail _ (List.Mem.tail _ (List.Mem.head _))))))))))))))))))))))))
theorem wk_wsX3_announce_1_0 : Cond.methodLink RX3 102 yX3_isBetter ∈ wsX3_announce := lf_wsX3_announce_1 _ (List.Mem.head _)
theorem wk_wsX3_announce_1_1 : Cond.instanceMethod yX3_isBetter ∈ wsX3_announce := lf_wsX3_announce_1 _ (List.Mem.tail _ (List.Mem.head _))
theorem wk_wsX3_announce_1_2 : Cond.selects RX3 yX3_isBetter yX3_isBetter ∈ wsX3_announce := lf_wsX3_announce_1 _ (List.Mem.tail _ (List.Mem.tail _ (List.Mem.head _)))
theorem wk_wsX3_announce_1_3 : Cond.code yX3_isBetter cX3_isBetter 3 (some .boolean) ∈ wsX3_announce := lf_wsX3_announce_1 _ (List.Mem.tail _ (List.Mem.tail _ (List.Mem.tail _ (List.Mem.head _))))
theorem wk_wsX3_announce_0_11 : Cond.methodLink RX3 105 yX3_listen ∈ wsX3_announce := lf_wsX3_announce_0 _ (List.Mem.tail _ (List.Mem.tail _ (List.Mem.tail _ (List.Mem.tail _ (List.Mem.tail _ (List.Mem.tail _ (List.Mem.tail _ (List.Mem.tail _ (List.Mem.tail _ (List.Mem.tail _ (List.Mem.tail _ (List.Mem.head _))))))))))))
theorem wk_wsX3_announce_0_12 : Cond.instanceMethod yX3_listen ∈ wsX3_announce := lf_wsX3_announce_0 _ (List.Mem.tail _ (List.Mem.tail _ (List.Mem.tail _ (List.Mem.tail _ (List.Mem.tail _ (List.Mem.tail _ (List.Mem.tail _ (List.Mem.tail _ (List.Mem.tail _ (List.Mem.tail _ (List.Mem.tail _ (List.Mem.tail _ (List.Mem.head _)))))))))))))
theorem wk_wsX3_announce_0_13 : Cond.selects RX3 yX3_listen yX3_listen ∈ wsX3_announce := lf_wsX3_announce_0 _ (List.Mem.tail _ (List.Mem.tail _ (List.Mem.tail _ (List.Mem.tail _ (List.Mem.tail _ (List.Mem.tail _ (List.Mem.tail _ (List.Mem.tail _ (List.Mem.tail _ (List.Mem.tail _ (List.Mem.tail _ (List.Mem.tail _ (List.Mem.tail _ (List.Mem.head _))))))))))))))
theorem lf_wsX3_tick_0 : ∀ w ∈ wsX3_tick_r1, w ∈ wsX3_tick := fun w h => (List.mem_cons_of_mem _ (List.mem_append_left _ (List.mem_append_left _ h)))
theorem lf_wsX3_tick_1 : ∀ w ∈ wsX3_tick_r2, w ∈ wsX3_tick := fun w h => (List.mem_cons_of_mem _ (List.mem_append_left _ (List.mem_append_right _ h)))
theorem lf_wsX3_tick_2 : ∀ w ∈ wsX30, w ∈ wsX3_tick := fun w h => (List.mem_cons_of_mem _ (List.mem_append_right _ h))
theorem wk_wsX3_tick_0_11 : Cond.code yX3_in cX3_in 3 (some .boolean) ∈ wsX3_tick := lf_wsX3_tick_0 _ (List.Mem.tail _ (List.Mem.tail _ (List.Mem.tail _ (List.Mem.tail _ (List.Mem.tail _ (List.Mem.tail _ (List.Mem.tail _ (List.Mem.tail _ (List.Mem.tail _ (List.Mem.tail _ (List.Mem.tail _ (List.Mem.head _))))))))))))
theorem wk_wsX3_tick_0_8 : Cond.methodLink RX3 79 yX3_in ∈ wsX3_tick := lf_wsX3_tick_0 _ (List.Mem.tail _ (List.Mem.tail _ (List.Mem.tail _ (List.Mem.tail _ (List.Mem.tail _ (List.Mem.tail _ (List.Mem.tail _ (List.Mem.tail _ (List.Mem.head _)))))))))
theorem wk_wsX3_tick_0_9 : Cond.static yX3_in ∈ wsX3_tick := lf_wsX3_tick_0 _ (List.Mem.tail _ (List.Mem.tail _ (List.Mem.tail _ (List.Mem.tail _ (List.Mem.tail _ (List.Mem.tail _ (List.Mem.tail _ (List.Mem.tail _ (List.Mem.tail _ (List.Mem.head _))))))))))
theorem wk_wsX3_tick_0_10 : Cond.initialized RX3 ∈ wsX3_tick := lf_wsX3_tick_0 _ (List.Mem.tail _ (List.Mem.tail _ (List.Mem.tail _ (List.Mem.tail _ (List.Mem.tail _ (List.Mem.tail _ (List.Mem.tail _ (List.Mem.tail _ (List.Mem.tail _ (List.Mem.tail _ (List.Mem.head _)))))))))))
theorem wk_wsX3_tick_0_15 : Cond.code yX3_announce cX3_announce 2 none ∈ wsX3_tick := lf_wsX3_tick_0 _ (List.Mem.tail _ (List.Mem.tail _ (List.Mem.tail _ (List.Mem.tail _ (List.Mem.tail _ (List.Mem.tail _ (List.Mem.tail _ (List.Mem.tail _ (List.Mem.tail _ (List.Mem.tail _ (List.Mem.tail _ (List.Mem.tail _ (List.Mem.tail _ (List.Mem.tail _ (List.Mem.tail _ (List.Mem.head _))))))))))))))))
theorem wk_wsX3_tick_0_1 : Cond.fieldLink RX3 72 "TimeNetModel" "nodeMany" "I" ∈ wsX3_tick := lf_wsX3_tick_0 _ (List.Mem.tail _ (List.Mem.head _))
theorem wk_wsX3_tick_0_16 : Cond.fieldLink RX3 39 "TimeNetModel" "knownNode" "[I" ∈ wsX3_tick := lf_wsX3_tick_0 _ (List.Mem.tail _ (List.Mem.tail _ (List.Mem.tail _ (List.Mem.tail _ (List.Mem.tail _ (List.Mem.tail _ (List.Mem.tail _ (List.Mem.tail _ (List.Mem.tail _ (List.Mem.tail _ (List.Mem.tail _ (List.Mem.tail _ (List.Mem.tail _ (List.Mem.tail _ (List.Mem.tail _ (List.Mem.tail _ (List.Mem.head _)))))))))))))))))
theorem wk_wsX3_tick_0_17 : Cond.fieldLink RX3 54 "TimeNetModel" "nextNode" "[I" ∈ wsX3_tick := lf_wsX3_tick_0 _ (List.Mem.tail _ (List.Mem.tail _ (List.Mem.tail _ (List.Mem.tail _ (List.Mem.tail _ (List.Mem.tail _ (List.Mem.tail _ (List.Mem.tail _ (List.Mem.tail _ (List.Mem.tail _ (List.Mem.tail _ (List.Mem.tail _ (List.Mem.tail _ (List.Mem.tail _ (List.Mem.tail _ (List.Mem.tail _ (List.Mem.tail _ (List.Mem.head _))))))))))))))))))
theorem wk_wsX3_tick_0_18 : Cond.fieldLink RX3 42 "TimeNetModel" "knownGrade" "[I" ∈ wsX3_tick := lf_wsX3_tick_0 _ (List.Mem.tail _ (List.Mem.tail _ (List.Mem.tail _ (List.Mem.tail _ (List.Mem.tail _ (List.Mem.tail _ (List.Mem.tail _ (List.Mem.tail _ (List.Mem.tail _ (List.Mem.tail _ (List.Mem.tail _ (List.Mem.tail _ (List.Mem.tail _ (List.Mem.tail _ (List.Mem.tail _ (List.Mem.tail _ (List.Mem.tail _ (List.Mem.tail _ (List.Mem.head _)))))))))))))))))))
theorem wk_wsX3_tick_0_19 : Cond.fieldLink RX3 57 "TimeNetModel" "nextGrade" "[I" ∈ wsX3_tick := lf_wsX3_tick_0 _ (List.Mem.tail _ (List.Mem.tail _ (List.Mem.tail _ (List.Mem.tail _ (List.Mem.tail _ (List.Mem.tail _ (List.Mem.tail _ (List.Mem.tail _ (List.Mem.tail _ (List.Mem.tail _ (List.Mem.tail _ (List.Mem.tail _ (List.Mem.tail _ (List.Mem.tail _ (List.Mem.tail _ (List.Mem.tail _ (List.Mem.tail _ (List.Mem.tail _ (List.Mem.tail _ (List.Mem.head _))))))))))))))))))))
theorem wk_wsX3_tick_0_20 : Cond.fieldLink RX3 45 "TimeNetModel" "knownVariance" "[I" ∈ wsX3_tick := lf_wsX3_tick_0 _ (List.Mem.tail _ (List.Mem.tail _ (List.Mem.tail _ (List.Mem.tail _ (List.Mem.tail _ (List.Mem.tail _ (List.Mem.tail _ (List.Mem.tail _ (List.Mem.tail _ (List.Mem.tail _ (List.Mem.tail _ (List.Mem.tail _ (List.Mem.tail _ (List.Mem.tail _ (List.Mem.tail _ (List.Mem.tail _ (List.Mem.tail _ (List.Mem.tail _ (List.Mem.tail _ (List.Mem.tail _ (List.Mem.head _)))))))))))))))))))))
theorem wk_wsX3_tick_0_21 : Cond.fieldLink RX3 60 "TimeNetModel" "nextVariance" "[I" ∈ wsX3_tick := lf_wsX3_tick_0 _ (List.Mem.tail _ (List.Mem.tail _ (List.Mem.tail _ (List.Mem.tail _ (List.Mem.tail _ (List.Mem.tail _ (List.Mem.tail _ (List.Mem.tail _ (List.Mem.tail _ (List.Mem.tail _ (List.Mem.tail _ (List.Mem.tail _ (List.Mem.tail _ (List.Mem.tail _ (List.Mem.tail _ (List.Mem.tail _ (List.Mem.tail _ (List.Mem.tail _ (List.Mem.tail _ (List.Mem.tail _ (List.Mem.tail _ (List.Mem.head _))))))))))))))))))))))
theorem wk_wsX3_tick_0_6 : Cond.fieldLink RX3 48 "TimeNetModel" "knownSteps" "[I" ∈ wsX3_tick := lf_wsX3_tick_0 _ (List.Mem.tail _ (List.Mem.tail _ (List.Mem.tail _ (List.Mem.tail _ (List.Mem.tail _ (List.Mem.tail _ (List.Mem.head _)))))))
theorem wk_wsX3_tick_0_22 : Cond.fieldLink RX3 63 "TimeNetModel" "nextSteps" "[I" ∈ wsX3_tick := lf_wsX3_tick_0 _ (List.Mem.tail _ (List.Mem.tail _ (List.Mem.tail _ (List.Mem.tail _ (List.Mem.tail _ (List.Mem.tail _ (List.Mem.tail _ (List.Mem.tail _ (List.Mem.tail _ (List.Mem.tail _ (List.Mem.tail _ (List.Mem.tail _ (List.Mem.tail _ (List.Mem.tail _ (List.Mem.tail _ (List.Mem.tail _ (List.Mem.tail _ (List.Mem.tail _ (List.Mem.tail _ (List.Mem.tail _ (List.Mem.tail _ (List.Mem.tail _ (List.Mem.head _)))))))))))))))))))))))
theorem wk_wsX3_tick_0_5 : Cond.fieldLink RX3 51 "TimeNetModel" "parents" "[I" ∈ wsX3_tick := lf_wsX3_tick_0 _ (List.Mem.tail _ (List.Mem.tail _ (List.Mem.tail _ (List.Mem.tail _ (List.Mem.tail _ (List.Mem.head _))))))
theorem wk_wsX3_tick_0_23 : Cond.fieldLink RX3 66 "TimeNetModel" "nextParents" "[I" ∈ wsX3_tick := lf_wsX3_tick_0 _ (List.Mem.tail _ (List.Mem.tail _ (List.Mem.tail _ (List.Mem.tail _ (List.Mem.tail _ (List.Mem.tail _ (List.Mem.tail _ (List.Mem.tail _ (List.Mem.tail _ (List.Mem.tail _ (List.Mem.tail _ (List.Mem.tail _ (List.Mem.tail _ (List.Mem.tail _ (List.Mem.tail _ (List.Mem.tail _ (List.Mem.tail _ (List.Mem.tail _ (List.Mem.tail _ (List.Mem.tail _ (List.Mem.tail _ (List.Mem.tail _ (List.Mem.tail _ (List.Mem.head _))))))))))))))))))))))))
theorem wk_wsX3_tick_1_0 : Cond.methodLink RX3 105 yX3_listen ∈ wsX3_tick := lf_wsX3_tick_1 _ (List.Mem.head _)
theorem wk_wsX3_tick_1_1 : Cond.instanceMethod yX3_listen ∈ wsX3_tick := lf_wsX3_tick_1 _ (List.Mem.tail _ (List.Mem.head _))
theorem wk_wsX3_tick_1_2 : Cond.selects RX3 yX3_listen yX3_listen ∈ wsX3_tick := lf_wsX3_tick_1 _ (List.Mem.tail _ (List.Mem.tail _ (List.Mem.head _)))
theorem wk_wsX3_tick_1_3 : Cond.code yX3_listen cX3_listen 4 none ∈ wsX3_tick := lf_wsX3_tick_1 _ (List.Mem.tail _ (List.Mem.tail _ (List.Mem.tail _ (List.Mem.head _))))
theorem wk_wsX3_tick_1_4 : Cond.fieldLink RX3 13 "TimeNetModel" "grades" "[I" ∈ wsX3_tick := lf_wsX3_tick_1 _ (List.Mem.tail _ (List.Mem.tail _ (List.Mem.tail _ (List.Mem.tail _ (List.Mem.head _)))))
theorem wk_wsX3_tick_1_5 : Cond.fieldLink RX3 16 "TimeNetModel" "variances" "[I" ∈ wsX3_tick := lf_wsX3_tick_1 _ (List.Mem.tail _ (List.Mem.tail _ (List.Mem.tail _ (List.Mem.tail _ (List.Mem.tail _ (List.Mem.head _))))))
theorem wk_wsX3_tick_1_6 : Cond.methodLink RX3 98 yX3_areNeighbours ∈ wsX3_tick := lf_wsX3_tick_1 _ (List.Mem.tail _ (List.Mem.tail _ (List.Mem.tail _ (List.Mem.tail _ (List.Mem.tail _ (List.Mem.tail _ (List.Mem.head _)))))))
theorem wk_wsX3_tick_1_7 : Cond.instanceMethod yX3_areNeighbours ∈ wsX3_tick := lf_wsX3_tick_1 _ (List.Mem.tail _ (List.Mem.tail _ (List.Mem.tail _ (List.Mem.tail _ (List.Mem.tail _ (List.Mem.tail _ (List.Mem.tail _ (List.Mem.head _))))))))
theorem wk_wsX3_tick_1_8 : Cond.selects RX3 yX3_areNeighbours yX3_areNeighbours ∈ wsX3_tick := lf_wsX3_tick_1 _ (List.Mem.tail _ (List.Mem.tail _ (List.Mem.tail _ (List.Mem.tail _ (List.Mem.tail _ (List.Mem.tail _ (List.Mem.tail _ (List.Mem.tail _ (List.Mem.head _)))))))))
theorem wk_wsX3_tick_1_9 : Cond.code yX3_areNeighbours cX3_areNeighbours 3 (some .boolean) ∈ wsX3_tick := lf_wsX3_tick_1 _ (List.Mem.tail _ (List.Mem.tail _ (List.Mem.tail _ (List.Mem.tail _ (List.Mem.tail _ (List.Mem.tail _ (List.Mem.tail _ (List.Mem.tail _ (List.Mem.tail _ (List.Mem.head _))))))))))
theorem wk_wsX3_tick_1_10 : Cond.fieldLink RX3 29 "TimeNetModel" "isLinked" "[Z" ∈ wsX3_tick := lf_wsX3_tick_1 _ (List.Mem.tail _ (List.Mem.tail _ (List.Mem.tail _ (List.Mem.tail _ (List.Mem.tail _ (List.Mem.tail _ (List.Mem.tail _ (List.Mem.tail _ (List.Mem.tail _ (List.Mem.tail _ (List.Mem.head _)))))))))))
theorem wk_wsX3_tick_1_11 : Cond.fieldLink RX3 7 "TimeNetModel" "domains" "[I" ∈ wsX3_tick := lf_wsX3_tick_1 _ (List.Mem.tail _ (List.Mem.tail _ (List.Mem.tail _ (List.Mem.tail _ (List.Mem.tail _ (List.Mem.tail _ (List.Mem.tail _ (List.Mem.tail _ (List.Mem.tail _ (List.Mem.tail _ (List.Mem.tail _ (List.Mem.head _))))))))))))
theorem wsX3_announce_r1_of_wsX3_tick : ∀ w ∈ wsX3_announce_r1, w ∈ wsX3_tick := List.forall_mem_cons.mpr ⟨wk_wsX3_tick_0_1, List.forall_mem_cons.mpr ⟨wk_wsX3_tick_0_16, List.forall_mem_cons.mpr ⟨wk_wsX3_tick_0_17, List.forall_mem_cons.mpr ⟨wk_wsX3_tick_0_18, List.forall_mem_cons.mpr ⟨wk_wsX3_tick_0_19, List.forall_mem_cons.mpr ⟨wk_wsX3_tick_0_20, List.forall_mem_cons.mpr ⟨wk_wsX3_tick_0_21, List.forall_mem_cons.mpr ⟨wk_wsX3_tick_0_6, List.forall_mem_cons.mpr ⟨wk_wsX3_tick_0_22, List.forall_mem_cons.mpr ⟨wk_wsX3_tick_0_5, List.forall_mem_cons.mpr ⟨wk_wsX3_tick_0_23, List.forall_mem_cons.mpr ⟨wk_wsX3_tick_1_0, List.forall_mem_cons.mpr ⟨wk_wsX3_tick_1_1, List.forall_mem_cons.mpr ⟨wk_wsX3_tick_1_2, List.forall_mem_cons.mpr ⟨wk_wsX3_tick_0_10, List.forall_mem_cons.mpr ⟨wk_wsX3_tick_1_3, List.forall_mem_cons.mpr ⟨wk_wsX3_tick_1_4, List.forall_mem_cons.mpr ⟨wk_wsX3_tick_1_5, List.forall_mem_cons.mpr ⟨wk_wsX3_tick_1_6, List.forall_mem_cons.mpr ⟨wk_wsX3_tick_1_7, List.forall_mem_cons.mpr ⟨wk_wsX3_tick_1_8, List.forall_mem_cons.mpr ⟨wk_wsX3_tick_1_9, List.forall_mem_cons.mpr ⟨wk_wsX3_tick_1_10, List.forall_mem_cons.mpr ⟨wk_wsX3_tick_1_11, fun _ h => absurd h List.not_mem_nil⟩⟩⟩⟩⟩⟩⟩⟩⟩⟩⟩⟩⟩⟩⟩⟩⟩⟩⟩⟩⟩⟩⟩⟩
theorem wk_wsX3_tick_1_12 : Cond.methodLink RX3 102 yX3_isBetter ∈ wsX3_tick := lf_wsX3_tick_1 _ (List.Mem.tail _ (List.Mem.tail _ (List.Mem.tail _ (List.Mem.tail _ (List.Mem.tail _ (List.Mem.tail _ (List.Mem.tail _ (List.Mem.tail _ (List.Mem.tail _ (List.Mem.tail _ (List.Mem.tail _ (List.Mem.tail _ (List.Mem.head _)))))))))))))
theorem wk_wsX3_tick_1_13 : Cond.instanceMethod yX3_isBetter ∈ wsX3_tick := lf_wsX3_tick_1 _ (List.Mem.tail _ (List.Mem.tail _ (List.Mem.tail _ (List.Mem.tail _ (List.Mem.tail _ (List.Mem.tail _ (List.Mem.tail _ (List.Mem.tail _ (List.Mem.tail _ (List.Mem.tail _ (List.Mem.tail _ (List.Mem.tail _ (List.Mem.tail _ (List.Mem.head _))))))))))))))
theorem wk_wsX3_tick_1_14 : Cond.selects RX3 yX3_isBetter yX3_isBetter ∈ wsX3_tick := lf_wsX3_tick_1 _ (List.Mem.tail _ (List.Mem.tail _ (List.Mem.tail _ (List.Mem.tail _ (List.Mem.tail _ (List.Mem.tail _ (List.Mem.tail _ (List.Mem.tail _ (List.Mem.tail _ (List.Mem.tail _ (List.Mem.tail _ (List.Mem.tail _ (List.Mem.tail _ (List.Mem.tail _ (List.Mem.head _)))))))))))))))
theorem wk_wsX3_tick_1_15 : Cond.code yX3_isBetter cX3_isBetter 3 (some .boolean) ∈ wsX3_tick := lf_wsX3_tick_1 _ (List.Mem.tail _ (List.Mem.tail _ (List.Mem.tail _ (List.Mem.tail _ (List.Mem.tail _ (List.Mem.tail _ (List.Mem.tail _ (List.Mem.tail _ (List.Mem.tail _ (List.Mem.tail _ (List.Mem.tail _ (List.Mem.tail _ (List.Mem.tail _ (List.Mem.tail _ (List.Mem.tail _ (List.Mem.head _))))))))))))))))
theorem wsX3_announce_r2_of_wsX3_tick : ∀ w ∈ wsX3_announce_r2, w ∈ wsX3_tick := List.forall_mem_cons.mpr ⟨wk_wsX3_tick_1_12, List.forall_mem_cons.mpr ⟨wk_wsX3_tick_1_13, List.forall_mem_cons.mpr ⟨wk_wsX3_tick_1_14, List.forall_mem_cons.mpr ⟨wk_wsX3_tick_1_15, fun _ h => absurd h List.not_mem_nil⟩⟩⟩⟩
theorem wk_wsX3_tick_0_12 : Cond.methodLink RX3 112 yX3_announce ∈ wsX3_tick := lf_wsX3_tick_0 _ (List.Mem.tail _ (List.Mem.tail _ (List.Mem.tail _ (List.Mem.tail _ (List.Mem.tail _ (List.Mem.tail _ (List.Mem.tail _ (List.Mem.tail _ (List.Mem.tail _ (List.Mem.tail _ (List.Mem.tail _ (List.Mem.tail _ (List.Mem.head _)))))))))))))
theorem wk_wsX3_tick_0_13 : Cond.instanceMethod yX3_announce ∈ wsX3_tick := lf_wsX3_tick_0 _ (List.Mem.tail _ (List.Mem.tail _ (List.Mem.tail _ (List.Mem.tail _ (List.Mem.tail _ (List.Mem.tail _ (List.Mem.tail _ (List.Mem.tail _ (List.Mem.tail _ (List.Mem.tail _ (List.Mem.tail _ (List.Mem.tail _ (List.Mem.tail _ (List.Mem.head _))))))))))))))
theorem wk_wsX3_tick_0_14 : Cond.selects RX3 yX3_announce yX3_announce ∈ wsX3_tick := lf_wsX3_tick_0 _ (List.Mem.tail _ (List.Mem.tail _ (List.Mem.tail _ (List.Mem.tail _ (List.Mem.tail _ (List.Mem.tail _ (List.Mem.tail _ (List.Mem.tail _ (List.Mem.tail _ (List.Mem.tail _ (List.Mem.tail _ (List.Mem.tail _ (List.Mem.tail _ (List.Mem.tail _ (List.Mem.head _)))))))))))))))
theorem wk_wsX3_tick_1_19 : Cond.code yX3_steer cX3_steer 8 none ∈ wsX3_tick := lf_wsX3_tick_1 _ (List.Mem.tail _ (List.Mem.tail _ (List.Mem.tail _ (List.Mem.tail _ (List.Mem.tail _ (List.Mem.tail _ (List.Mem.tail _ (List.Mem.tail _ (List.Mem.tail _ (List.Mem.tail _ (List.Mem.tail _ (List.Mem.tail _ (List.Mem.tail _ (List.Mem.tail _ (List.Mem.tail _ (List.Mem.tail _ (List.Mem.tail _ (List.Mem.tail _ (List.Mem.tail _ (List.Mem.head _))))))))))))))))))))
theorem wk_wsX3_tick_1_20 : Cond.fieldLink RX3 33 "TimeNetModel" "delays" "[I" ∈ wsX3_tick := lf_wsX3_tick_1 _ (List.Mem.tail _ (List.Mem.tail _ (List.Mem.tail _ (List.Mem.tail _ (List.Mem.tail _ (List.Mem.tail _ (List.Mem.tail _ (List.Mem.tail _ (List.Mem.tail _ (List.Mem.tail _ (List.Mem.tail _ (List.Mem.tail _ (List.Mem.tail _ (List.Mem.tail _ (List.Mem.tail _ (List.Mem.tail _ (List.Mem.tail _ (List.Mem.tail _ (List.Mem.tail _ (List.Mem.tail _ (List.Mem.head _)))))))))))))))))))))
theorem wk_wsX3_tick_1_21 : Cond.fieldLink RX3 36 "TimeNetModel" "differences" "[I" ∈ wsX3_tick := lf_wsX3_tick_1 _ (List.Mem.tail _ (List.Mem.tail _ (List.Mem.tail _ (List.Mem.tail _ (List.Mem.tail _ (List.Mem.tail _ (List.Mem.tail _ (List.Mem.tail _ (List.Mem.tail _ (List.Mem.tail _ (List.Mem.tail _ (List.Mem.tail _ (List.Mem.tail _ (List.Mem.tail _ (List.Mem.tail _ (List.Mem.tail _ (List.Mem.tail _ (List.Mem.tail _ (List.Mem.tail _ (List.Mem.tail _ (List.Mem.tail _ (List.Mem.head _))))))))))))))))))))))
theorem wk_wsX3_tick_0_2 : Cond.fieldLink RX3 22 "TimeNetModel" "offsets" "[J" ∈ wsX3_tick := lf_wsX3_tick_0 _ (List.Mem.tail _ (List.Mem.tail _ (List.Mem.head _)))
theorem wk_wsX3_tick_1_22 : Cond.constantLong RX3 108 (2) ∈ wsX3_tick := lf_wsX3_tick_1 _ (List.Mem.tail _ (List.Mem.tail _ (List.Mem.tail _ (List.Mem.tail _ (List.Mem.tail _ (List.Mem.tail _ (List.Mem.tail _ (List.Mem.tail _ (List.Mem.tail _ (List.Mem.tail _ (List.Mem.tail _ (List.Mem.tail _ (List.Mem.tail _ (List.Mem.tail _ (List.Mem.tail _ (List.Mem.tail _ (List.Mem.tail _ (List.Mem.tail _ (List.Mem.tail _ (List.Mem.tail _ (List.Mem.tail _ (List.Mem.tail _ (List.Mem.head _)))))))))))))))))))))))
theorem wk_wsX3_tick_0_4 : Cond.fieldLink RX3 26 "TimeNetModel" "rates" "[J" ∈ wsX3_tick := lf_wsX3_tick_0 _ (List.Mem.tail _ (List.Mem.tail _ (List.Mem.tail _ (List.Mem.tail _ (List.Mem.head _)))))
theorem wk_wsX3_tick_1_23 : Cond.constantLong RX3 110 (16) ∈ wsX3_tick := lf_wsX3_tick_1 _ (List.Mem.tail _ (List.Mem.tail _ (List.Mem.tail _ (List.Mem.tail _ (List.Mem.tail _ (List.Mem.tail _ (List.Mem.tail _ (List.Mem.tail _ (List.Mem.tail _ (List.Mem.tail _ (List.Mem.tail _ (List.Mem.tail _ (List.Mem.tail _ (List.Mem.tail _ (List.Mem.tail _ (List.Mem.tail _ (List.Mem.tail _ (List.Mem.tail _ (List.Mem.tail _ (List.Mem.tail _ (List.Mem.tail _ (List.Mem.tail _ (List.Mem.tail _ (List.Mem.head _))))))))))))))))))))))))
theorem wk_wsX3_tick_1_16 : Cond.methodLink RX3 115 yX3_steer ∈ wsX3_tick := lf_wsX3_tick_1 _ (List.Mem.tail _ (List.Mem.tail _ (List.Mem.tail _ (List.Mem.tail _ (List.Mem.tail _ (List.Mem.tail _ (List.Mem.tail _ (List.Mem.tail _ (List.Mem.tail _ (List.Mem.tail _ (List.Mem.tail _ (List.Mem.tail _ (List.Mem.tail _ (List.Mem.tail _ (List.Mem.tail _ (List.Mem.tail _ (List.Mem.head _)))))))))))))))))
theorem wk_wsX3_tick_1_17 : Cond.instanceMethod yX3_steer ∈ wsX3_tick := lf_wsX3_tick_1 _ (List.Mem.tail _ (List.Mem.tail _ (List.Mem.tail _ (List.Mem.tail _ (List.Mem.tail _ (List.Mem.tail _ (List.Mem.tail _ (List.Mem.tail _ (List.Mem.tail _ (List.Mem.tail _ (List.Mem.tail _ (List.Mem.tail _ (List.Mem.tail _ (List.Mem.tail _ (List.Mem.tail _ (List.Mem.tail _ (List.Mem.tail _ (List.Mem.head _))))))))))))))))))
theorem wk_wsX3_tick_1_18 : Cond.selects RX3 yX3_steer yX3_steer ∈ wsX3_tick := lf_wsX3_tick_1 _ (List.Mem.tail _ (List.Mem.tail _ (List.Mem.tail _ (List.Mem.tail _ (List.Mem.tail _ (List.Mem.tail _ (List.Mem.tail _ (List.Mem.tail _ (List.Mem.tail _ (List.Mem.tail _ (List.Mem.tail _ (List.Mem.tail _ (List.Mem.tail _ (List.Mem.tail _ (List.Mem.tail _ (List.Mem.tail _ (List.Mem.tail _ (List.Mem.tail _ (List.Mem.head _)))))))))))))))))))
theorem lf_wsX3_asksFor_0 : ∀ w ∈ ([.fieldLink RX3 76 "TimeNetModel" "thrown" "I", .methodLink RX3 87 yX3_isNode, .instanceMethod yX3_isNode, .selects RX3 yX3_isNode yX3_isNode, .initialized RX3, .code yX3_isNode cX3_isNode 2 (some .boolean), .fieldLink RX3 72 "TimeNetModel" "nodeMany" "I", .methodLink RX3 79 yX3_in, .static yX3_in, .code yX3_in cX3_in 3 (some .boolean)] : List Cond), w ∈ wsX3_asksFor := fun w h => (List.mem_cons_of_mem _ (List.mem_append_left _ h))
theorem lf_wsX3_asksFor_1 : ∀ w ∈ wsX30, w ∈ wsX3_asksFor := fun w h => (List.mem_cons_of_mem _ (List.mem_append_right _ h))
theorem wk_wsX3_asksFor_0_5 : Cond.code yX3_isNode cX3_isNode 2 (some .boolean) ∈ wsX3_asksFor := lf_wsX3_asksFor_0 _ (List.Mem.tail _ (List.Mem.tail _ (List.Mem.tail _ (List.Mem.tail _ (List.Mem.tail _ (List.Mem.head _))))))
theorem wk_wsX3_asksFor_0_6 : Cond.fieldLink RX3 72 "TimeNetModel" "nodeMany" "I" ∈ wsX3_asksFor := lf_wsX3_asksFor_0 _ (List.Mem.tail _ (List.Mem.tail _ (List.Mem.tail _ (List.Mem.tail _ (List.Mem.tail _ (List.Mem.tail _ (List.Mem.head _)))))))
theorem wk_wsX3_asksFor_0_7 : Cond.methodLink RX3 79 yX3_in ∈ wsX3_asksFor := lf_wsX3_asksFor_0 _ (List.Mem.tail _ (List.Mem.tail _ (List.Mem.tail _ (List.Mem.tail _ (List.Mem.tail _ (List.Mem.tail _ (List.Mem.tail _ (List.Mem.head _))))))))
theorem wk_wsX3_asksFor_0_8 : Cond.static yX3_in ∈ wsX3_asksFor := lf_wsX3_asksFor_0 _ (List.Mem.tail _ (List.Mem.tail _ (List.Mem.tail _ (List.Mem.tail _ (List.Mem.tail _ (List.Mem.tail _ (List.Mem.tail _ (List.Mem.tail _ (List.Mem.head _)))))))))
theorem wk_wsX3_asksFor_0_4 : Cond.initialized RX3 ∈ wsX3_asksFor := lf_wsX3_asksFor_0 _ (List.Mem.tail _ (List.Mem.tail _ (List.Mem.tail _ (List.Mem.tail _ (List.Mem.head _)))))
theorem wk_wsX3_asksFor_0_9 : Cond.code yX3_in cX3_in 3 (some .boolean) ∈ wsX3_asksFor := lf_wsX3_asksFor_0 _ (List.Mem.tail _ (List.Mem.tail _ (List.Mem.tail _ (List.Mem.tail _ (List.Mem.tail _ (List.Mem.tail _ (List.Mem.tail _ (List.Mem.tail _ (List.Mem.tail _ (List.Mem.head _))))))))))
theorem wk_wsX3_asksFor_0_1 : Cond.methodLink RX3 87 yX3_isNode ∈ wsX3_asksFor := lf_wsX3_asksFor_0 _ (List.Mem.tail _ (List.Mem.head _))
theorem wk_wsX3_asksFor_0_2 : Cond.instanceMethod yX3_isNode ∈ wsX3_asksFor := lf_wsX3_asksFor_0 _ (List.Mem.tail _ (List.Mem.tail _ (List.Mem.head _)))
theorem wk_wsX3_asksFor_0_3 : Cond.selects RX3 yX3_isNode yX3_isNode ∈ wsX3_asksFor := lf_wsX3_asksFor_0 _ (List.Mem.tail _ (List.Mem.tail _ (List.Mem.tail _ (List.Mem.head _))))
theorem lf_wsX3_best_0 : ∀ w ∈ ([.fieldLink RX3 39 "TimeNetModel" "knownNode" "[I", .methodLink RX3 121 yX3_asksFor, .instanceMethod yX3_asksFor, .selects RX3 yX3_asksFor yX3_asksFor, .initialized RX3, .code yX3_asksFor cX3_asksFor 2 (some .boolean), .fieldLink RX3 76 "TimeNetModel" "thrown" "I", .methodLink RX3 87 yX3_isNode, .instanceMethod yX3_isNode, .selects RX3 yX3_isNode yX3_isNode, .code yX3_isNode cX3_isNode 2 (some .boolean), .fieldLink RX3 72 "TimeNetModel" "nodeMany" "I", .methodLink RX3 79 yX3_in, .static yX3_in, .code yX3_in cX3_in 3 (some .boolean)] : List Cond), w ∈ wsX3_best := fun w h => (List.mem_cons_of_mem _ (List.mem_append_left _ h))
theorem lf_wsX3_best_1 : ∀ w ∈ wsX30, w ∈ wsX3_best := fun w h => (List.mem_cons_of_mem _ (List.mem_append_right _ h))
theorem wk_wsX3_best_0_5 : Cond.code yX3_asksFor cX3_asksFor 2 (some .boolean) ∈ wsX3_best := lf_wsX3_best_0 _ (List.Mem.tail _ (List.Mem.tail _ (List.Mem.tail _ (List.Mem.tail _ (List.Mem.tail _ (List.Mem.head _))))))
theorem wk_wsX3_best_0_6 : Cond.fieldLink RX3 76 "TimeNetModel" "thrown" "I" ∈ wsX3_best := lf_wsX3_best_0 _ (List.Mem.tail _ (List.Mem.tail _ (List.Mem.tail _ (List.Mem.tail _ (List.Mem.tail _ (List.Mem.tail _ (List.Mem.head _)))))))
theorem wk_wsX3_best_0_7 : Cond.methodLink RX3 87 yX3_isNode ∈ wsX3_best := lf_wsX3_best_0 _ (List.Mem.tail _ (List.Mem.tail _ (List.Mem.tail _ (List.Mem.tail _ (List.Mem.tail _ (List.Mem.tail _ (List.Mem.tail _ (List.Mem.head _))))))))
theorem wk_wsX3_best_0_8 : Cond.instanceMethod yX3_isNode ∈ wsX3_best := lf_wsX3_best_0 _ (List.Mem.tail _ (List.Mem.tail _ (List.Mem.tail _ (List.Mem.tail _ (List.Mem.tail _ (List.Mem.tail _ (List.Mem.tail _ (List.Mem.tail _ (List.Mem.head _)))))))))
theorem wk_wsX3_best_0_9 : Cond.selects RX3 yX3_isNode yX3_isNode ∈ wsX3_best := lf_wsX3_best_0 _ (List.Mem.tail _ (List.Mem.tail _ (List.Mem.tail _ (List.Mem.tail _ (List.Mem.tail _ (List.Mem.tail _ (List.Mem.tail _ (List.Mem.tail _ (List.Mem.tail _ (List.Mem.head _))))))))))
theorem wk_wsX3_best_0_4 : Cond.initialized RX3 ∈ wsX3_best := lf_wsX3_best_0 _ (List.Mem.tail _ (List.Mem.tail _ (List.Mem.tail _ (List.Mem.tail _ (List.Mem.head _)))))
theorem wk_wsX3_best_0_10 : Cond.code yX3_isNode cX3_isNode 2 (some .boolean) ∈ wsX3_best := lf_wsX3_best_0 _ (List.Mem.tail _ (List.Mem.tail _ (List.Mem.tail _ (List.Mem.tail _ (List.Mem.tail _ (List.Mem.tail _ (List.Mem.tail _ (List.Mem.tail _ (List.Mem.tail _ (List.Mem.tail _ (List.Mem.head _)))))))))))
theorem wk_wsX3_best_0_11 : Cond.fieldLink RX3 72 "TimeNetModel" "nodeMany" "I" ∈ wsX3_best := lf_wsX3_best_0 _ (List.Mem.tail _ (List.Mem.tail _ (List.Mem.tail _ (List.Mem.tail _ (List.Mem.tail _ (List.Mem.tail _ (List.Mem.tail _ (List.Mem.tail _ (List.Mem.tail _ (List.Mem.tail _ (List.Mem.tail _ (List.Mem.head _))))))))))))
theorem wk_wsX3_best_0_12 : Cond.methodLink RX3 79 yX3_in ∈ wsX3_best := lf_wsX3_best_0 _ (List.Mem.tail _ (List.Mem.tail _ (List.Mem.tail _ (List.Mem.tail _ (List.Mem.tail _ (List.Mem.tail _ (List.Mem.tail _ (List.Mem.tail _ (List.Mem.tail _ (List.Mem.tail _ (List.Mem.tail _ (List.Mem.tail _ (List.Mem.head _)))))))))))))
theorem wk_wsX3_best_0_13 : Cond.static yX3_in ∈ wsX3_best := lf_wsX3_best_0 _ (List.Mem.tail _ (List.Mem.tail _ (List.Mem.tail _ (List.Mem.tail _ (List.Mem.tail _ (List.Mem.tail _ (List.Mem.tail _ (List.Mem.tail _ (List.Mem.tail _ (List.Mem.tail _ (List.Mem.tail _ (List.Mem.tail _ (List.Mem.tail _ (List.Mem.head _))))))))))))))
theorem wk_wsX3_best_0_14 : Cond.code yX3_in cX3_in 3 (some .boolean) ∈ wsX3_best := lf_wsX3_best_0 _ (List.Mem.tail _ (List.Mem.tail _ (List.Mem.tail _ (List.Mem.tail _ (List.Mem.tail _ (List.Mem.tail _ (List.Mem.tail _ (List.Mem.tail _ (List.Mem.tail _ (List.Mem.tail _ (List.Mem.tail _ (List.Mem.tail _ (List.Mem.tail _ (List.Mem.tail _ (List.Mem.head _)))))))))))))))
theorem wk_wsX3_best_0_1 : Cond.methodLink RX3 121 yX3_asksFor ∈ wsX3_best := lf_wsX3_best_0 _ (List.Mem.tail _ (List.Mem.head _))
theorem wk_wsX3_best_0_2 : Cond.instanceMethod yX3_asksFor ∈ wsX3_best := lf_wsX3_best_0 _ (List.Mem.tail _ (List.Mem.tail _ (List.Mem.head _)))
theorem wk_wsX3_best_0_3 : Cond.selects RX3 yX3_asksFor yX3_asksFor ∈ wsX3_best := lf_wsX3_best_0 _ (List.Mem.tail _ (List.Mem.tail _ (List.Mem.tail _ (List.Mem.head _))))
theorem lf_wsX3_steps_0 : ∀ w ∈ ([.fieldLink RX3 48 "TimeNetModel" "knownSteps" "[I", .methodLink RX3 121 yX3_asksFor, .instanceMethod yX3_asksFor, .selects RX3 yX3_asksFor yX3_asksFor, .initialized RX3, .code yX3_asksFor cX3_asksFor 2 (some .boolean), .fieldLink RX3 76 "TimeNetModel" "thrown" "I", .methodLink RX3 87 yX3_isNode, .instanceMethod yX3_isNode, .selects RX3 yX3_isNode yX3_isNode, .code yX3_isNode cX3_isNode 2 (some .boolean), .fieldLink RX3 72 "TimeNetModel" "nodeMany" "I", .methodLink RX3 79 yX3_in, .static yX3_in, .code yX3_in cX3_in 3 (some .boolean)] : List Cond), w ∈ wsX3_steps := fun w h => (List.mem_cons_of_mem _ (List.mem_append_left _ h))
theorem lf_wsX3_steps_1 : ∀ w ∈ wsX30, w ∈ wsX3_steps := fun w h => (List.mem_cons_of_mem _ (List.mem_append_right _ h))
theorem wk_wsX3_steps_0_5 : Cond.code yX3_asksFor cX3_asksFor 2 (some .boolean) ∈ wsX3_steps := lf_wsX3_steps_0 _ (List.Mem.tail _ (List.Mem.tail _ (List.Mem.tail _ (List.Mem.tail _ (List.Mem.tail _ (List.Mem.head _))))))
theorem wk_wsX3_steps_0_6 : Cond.fieldLink RX3 76 "TimeNetModel" "thrown" "I" ∈ wsX3_steps := lf_wsX3_steps_0 _ (List.Mem.tail _ (List.Mem.tail _ (List.Mem.tail _ (List.Mem.tail _ (List.Mem.tail _ (List.Mem.tail _ (List.Mem.head _)))))))
theorem wk_wsX3_steps_0_7 : Cond.methodLink RX3 87 yX3_isNode ∈ wsX3_steps := lf_wsX3_steps_0 _ (List.Mem.tail _ (List.Mem.tail _ (List.Mem.tail _ (List.Mem.tail _ (List.Mem.tail _ (List.Mem.tail _ (List.Mem.tail _ (List.Mem.head _))))))))
theorem wk_wsX3_steps_0_8 : Cond.instanceMethod yX3_isNode ∈ wsX3_steps := lf_wsX3_steps_0 _ (List.Mem.tail _ (List.Mem.tail _ (List.Mem.tail _ (List.Mem.tail _ (List.Mem.tail _ (List.Mem.tail _ (List.Mem.tail _ (List.Mem.tail _ (List.Mem.head _)))))))))
theorem wk_wsX3_steps_0_9 : Cond.selects RX3 yX3_isNode yX3_isNode ∈ wsX3_steps := lf_wsX3_steps_0 _ (List.Mem.tail _ (List.Mem.tail _ (List.Mem.tail _ (List.Mem.tail _ (List.Mem.tail _ (List.Mem.tail _ (List.Mem.tail _ (List.Mem.tail _ (List.Mem.tail _ (List.Mem.head _))))))))))
theorem wk_wsX3_steps_0_4 : Cond.initialized RX3 ∈ wsX3_steps := lf_wsX3_steps_0 _ (List.Mem.tail _ (List.Mem.tail _ (List.Mem.tail _ (List.Mem.tail _ (List.Mem.head _)))))
theorem wk_wsX3_steps_0_10 : Cond.code yX3_isNode cX3_isNode 2 (some .boolean) ∈ wsX3_steps := lf_wsX3_steps_0 _ (List.Mem.tail _ (List.Mem.tail _ (List.Mem.tail _ (List.Mem.tail _ (List.Mem.tail _ (List.Mem.tail _ (List.Mem.tail _ (List.Mem.tail _ (List.Mem.tail _ (List.Mem.tail _ (List.Mem.head _)))))))))))
theorem wk_wsX3_steps_0_11 : Cond.fieldLink RX3 72 "TimeNetModel" "nodeMany" "I" ∈ wsX3_steps := lf_wsX3_steps_0 _ (List.Mem.tail _ (List.Mem.tail _ (List.Mem.tail _ (List.Mem.tail _ (List.Mem.tail _ (List.Mem.tail _ (List.Mem.tail _ (List.Mem.tail _ (List.Mem.tail _ (List.Mem.tail _ (List.Mem.tail _ (List.Mem.head _))))))))))))
theorem wk_wsX3_steps_0_12 : Cond.methodLink RX3 79 yX3_in ∈ wsX3_steps := lf_wsX3_steps_0 _ (List.Mem.tail _ (List.Mem.tail _ (List.Mem.tail _ (List.Mem.tail _ (List.Mem.tail _ (List.Mem.tail _ (List.Mem.tail _ (List.Mem.tail _ (List.Mem.tail _ (List.Mem.tail _ (List.Mem.tail _ (List.Mem.tail _ (List.Mem.head _)))))))))))))
theorem wk_wsX3_steps_0_13 : Cond.static yX3_in ∈ wsX3_steps := lf_wsX3_steps_0 _ (List.Mem.tail _ (List.Mem.tail _ (List.Mem.tail _ (List.Mem.tail _ (List.Mem.tail _ (List.Mem.tail _ (List.Mem.tail _ (List.Mem.tail _ (List.Mem.tail _ (List.Mem.tail _ (List.Mem.tail _ (List.Mem.tail _ (List.Mem.tail _ (List.Mem.head _))))))))))))))
theorem wk_wsX3_steps_0_14 : Cond.code yX3_in cX3_in 3 (some .boolean) ∈ wsX3_steps := lf_wsX3_steps_0 _ (List.Mem.tail _ (List.Mem.tail _ (List.Mem.tail _ (List.Mem.tail _ (List.Mem.tail _ (List.Mem.tail _ (List.Mem.tail _ (List.Mem.tail _ (List.Mem.tail _ (List.Mem.tail _ (List.Mem.tail _ (List.Mem.tail _ (List.Mem.tail _ (List.Mem.tail _ (List.Mem.head _)))))))))))))))
theorem wk_wsX3_steps_0_1 : Cond.methodLink RX3 121 yX3_asksFor ∈ wsX3_steps := lf_wsX3_steps_0 _ (List.Mem.tail _ (List.Mem.head _))
theorem wk_wsX3_steps_0_2 : Cond.instanceMethod yX3_asksFor ∈ wsX3_steps := lf_wsX3_steps_0 _ (List.Mem.tail _ (List.Mem.tail _ (List.Mem.head _)))
theorem wk_wsX3_steps_0_3 : Cond.selects RX3 yX3_asksFor yX3_asksFor ∈ wsX3_steps := lf_wsX3_steps_0 _ (List.Mem.tail _ (List.Mem.tail _ (List.Mem.tail _ (List.Mem.head _))))
theorem lf_wsX3_parent_0 : ∀ w ∈ ([.fieldLink RX3 51 "TimeNetModel" "parents" "[I", .methodLink RX3 121 yX3_asksFor, .instanceMethod yX3_asksFor, .selects RX3 yX3_asksFor yX3_asksFor, .initialized RX3, .code yX3_asksFor cX3_asksFor 2 (some .boolean), .fieldLink RX3 76 "TimeNetModel" "thrown" "I", .methodLink RX3 87 yX3_isNode, .instanceMethod yX3_isNode, .selects RX3 yX3_isNode yX3_isNode, .code yX3_isNode cX3_isNode 2 (some .boolean), .fieldLink RX3 72 "TimeNetModel" "nodeMany" "I", .methodLink RX3 79 yX3_in, .static yX3_in, .code yX3_in cX3_in 3 (some .boolean)] : List Cond), w ∈ wsX3_parent := fun w h => (List.mem_cons_of_mem _ (List.mem_append_left _ h))
theorem lf_wsX3_parent_1 : ∀ w ∈ wsX30, w ∈ wsX3_parent := fun w h => (List.mem_cons_of_mem _ (List.mem_append_right _ h))
theorem wk_wsX3_parent_0_5 : Cond.code yX3_asksFor cX3_asksFor 2 (some .boolean) ∈ wsX3_parent := lf_wsX3_parent_0 _ (List.Mem.tail _ (List.Mem.tail _ (List.Mem.tail _ (List.Mem.tail _ (List.Mem.tail _ (List.Mem.head _))))))
theorem wk_wsX3_parent_0_6 : Cond.fieldLink RX3 76 "TimeNetModel" "thrown" "I" ∈ wsX3_parent := lf_wsX3_parent_0 _ (List.Mem.tail _ (List.Mem.tail _ (List.Mem.tail _ (List.Mem.tail _ (List.Mem.tail _ (List.Mem.tail _ (List.Mem.head _)))))))
theorem wk_wsX3_parent_0_7 : Cond.methodLink RX3 87 yX3_isNode ∈ wsX3_parent := lf_wsX3_parent_0 _ (List.Mem.tail _ (List.Mem.tail _ (List.Mem.tail _ (List.Mem.tail _ (List.Mem.tail _ (List.Mem.tail _ (List.Mem.tail _ (List.Mem.head _))))))))
theorem wk_wsX3_parent_0_8 : Cond.instanceMethod yX3_isNode ∈ wsX3_parent := lf_wsX3_parent_0 _ (List.Mem.tail _ (List.Mem.tail _ (List.Mem.tail _ (List.Mem.tail _ (List.Mem.tail _ (List.Mem.tail _ (List.Mem.tail _ (List.Mem.tail _ (List.Mem.head _)))))))))
theorem wk_wsX3_parent_0_9 : Cond.selects RX3 yX3_isNode yX3_isNode ∈ wsX3_parent := lf_wsX3_parent_0 _ (List.Mem.tail _ (List.Mem.tail _ (List.Mem.tail _ (List.Mem.tail _ (List.Mem.tail _ (List.Mem.tail _ (List.Mem.tail _ (List.Mem.tail _ (List.Mem.tail _ (List.Mem.head _))))))))))
theorem wk_wsX3_parent_0_4 : Cond.initialized RX3 ∈ wsX3_parent := lf_wsX3_parent_0 _ (List.Mem.tail _ (List.Mem.tail _ (List.Mem.tail _ (List.Mem.tail _ (List.Mem.head _)))))
theorem wk_wsX3_parent_0_10 : Cond.code yX3_isNode cX3_isNode 2 (some .boolean) ∈ wsX3_parent := lf_wsX3_parent_0 _ (List.Mem.tail _ (List.Mem.tail _ (List.Mem.tail _ (List.Mem.tail _ (List.Mem.tail _ (List.Mem.tail _ (List.Mem.tail _ (List.Mem.tail _ (List.Mem.tail _ (List.Mem.tail _ (List.Mem.head _)))))))))))
theorem wk_wsX3_parent_0_11 : Cond.fieldLink RX3 72 "TimeNetModel" "nodeMany" "I" ∈ wsX3_parent := lf_wsX3_parent_0 _ (List.Mem.tail _ (List.Mem.tail _ (List.Mem.tail _ (List.Mem.tail _ (List.Mem.tail _ (List.Mem.tail _ (List.Mem.tail _ (List.Mem.tail _ (List.Mem.tail _ (List.Mem.tail _ (List.Mem.tail _ (List.Mem.head _))))))))))))
theorem wk_wsX3_parent_0_12 : Cond.methodLink RX3 79 yX3_in ∈ wsX3_parent := lf_wsX3_parent_0 _ (List.Mem.tail _ (List.Mem.tail _ (List.Mem.tail _ (List.Mem.tail _ (List.Mem.tail _ (List.Mem.tail _ (List.Mem.tail _ (List.Mem.tail _ (List.Mem.tail _ (List.Mem.tail _ (List.Mem.tail _ (List.Mem.tail _ (List.Mem.head _)))))))))))))
theorem wk_wsX3_parent_0_13 : Cond.static yX3_in ∈ wsX3_parent := lf_wsX3_parent_0 _ (List.Mem.tail _ (List.Mem.tail _ (List.Mem.tail _ (List.Mem.tail _ (List.Mem.tail _ (List.Mem.tail _ (List.Mem.tail _ (List.Mem.tail _ (List.Mem.tail _ (List.Mem.tail _ (List.Mem.tail _ (List.Mem.tail _ (List.Mem.tail _ (List.Mem.head _))))))))))))))
theorem wk_wsX3_parent_0_14 : Cond.code yX3_in cX3_in 3 (some .boolean) ∈ wsX3_parent := lf_wsX3_parent_0 _ (List.Mem.tail _ (List.Mem.tail _ (List.Mem.tail _ (List.Mem.tail _ (List.Mem.tail _ (List.Mem.tail _ (List.Mem.tail _ (List.Mem.tail _ (List.Mem.tail _ (List.Mem.tail _ (List.Mem.tail _ (List.Mem.tail _ (List.Mem.tail _ (List.Mem.tail _ (List.Mem.head _)))))))))))))))
theorem wk_wsX3_parent_0_1 : Cond.methodLink RX3 121 yX3_asksFor ∈ wsX3_parent := lf_wsX3_parent_0 _ (List.Mem.tail _ (List.Mem.head _))
theorem wk_wsX3_parent_0_2 : Cond.instanceMethod yX3_asksFor ∈ wsX3_parent := lf_wsX3_parent_0 _ (List.Mem.tail _ (List.Mem.tail _ (List.Mem.head _)))
theorem wk_wsX3_parent_0_3 : Cond.selects RX3 yX3_asksFor yX3_asksFor ∈ wsX3_parent := lf_wsX3_parent_0 _ (List.Mem.tail _ (List.Mem.tail _ (List.Mem.tail _ (List.Mem.head _))))
theorem lf_wsX3_port_0 : ∀ w ∈ ([.fieldLink RX3 76 "TimeNetModel" "thrown" "I", .fieldLink RX3 51 "TimeNetModel" "parents" "[I", .fieldLink RX3 48 "TimeNetModel" "knownSteps" "[I", .methodLink RX3 87 yX3_isNode, .instanceMethod yX3_isNode, .selects RX3 yX3_isNode yX3_isNode, .initialized RX3, .code yX3_isNode cX3_isNode 2 (some .boolean), .fieldLink RX3 72 "TimeNetModel" "nodeMany" "I", .methodLink RX3 79 yX3_in, .static yX3_in, .code yX3_in cX3_in 3 (some .boolean), .methodLink RX3 98 yX3_areNeighbours, .instanceMethod yX3_areNeighbours, .selects RX3 yX3_areNeighbours yX3_areNeighbours, .code yX3_areNeighbours cX3_areNeighbours 3 (some .boolean), .fieldLink RX3 29 "TimeNetModel" "isLinked" "[Z", .fieldLink RX3 7 "TimeNetModel" "domains" "[I"] : List Cond), w ∈ wsX3_port := fun w h => (List.mem_cons_of_mem _ (List.mem_append_left _ h))
theorem lf_wsX3_port_1 : ∀ w ∈ wsX30, w ∈ wsX3_port := fun w h => (List.mem_cons_of_mem _ (List.mem_append_right _ h))
theorem wk_wsX3_port_0_7 : Cond.code yX3_isNode cX3_isNode 2 (some .boolean) ∈ wsX3_port := lf_wsX3_port_0 _ (List.Mem.tail _ (List.Mem.tail _ (List.Mem.tail _ (List.Mem.tail _ (List.Mem.tail _ (List.Mem.tail _ (List.Mem.tail _ (List.Mem.head _))))))))
theorem wk_wsX3_port_0_8 : Cond.fieldLink RX3 72 "TimeNetModel" "nodeMany" "I" ∈ wsX3_port := lf_wsX3_port_0 _ (List.Mem.tail _ (List.Mem.tail _ (List.Mem.tail _ (List.Mem.tail _ (List.Mem.tail _ (List.Mem.tail _ (List.Mem.tail _ (List.Mem.tail _ (List.Mem.head _)))))))))
theorem wk_wsX3_port_0_9 : Cond.methodLink RX3 79 yX3_in ∈ wsX3_port := lf_wsX3_port_0 _ (List.Mem.tail _ (List.Mem.tail _ (List.Mem.tail _ (List.Mem.tail _ (List.Mem.tail _ (List.Mem.tail _ (List.Mem.tail _ (List.Mem.tail _ (List.Mem.tail _ (List.Mem.head _))))))))))
theorem wk_wsX3_port_0_10 : Cond.static yX3_in ∈ wsX3_port := lf_wsX3_port_0 _ (List.Mem.tail _ (List.Mem.tail _ (List.Mem.tail _ (List.Mem.tail _ (List.Mem.tail _ (List.Mem.tail _ (List.Mem.tail _ (List.Mem.tail _ (List.Mem.tail _ (List.Mem.tail _ (List.Mem.head _)))))))))))
theorem wk_wsX3_port_0_6 : Cond.initialized RX3 ∈ wsX3_port := lf_wsX3_port_0 _ (List.Mem.tail _ (List.Mem.tail _ (List.Mem.tail _ (List.Mem.tail _ (List.Mem.tail _ (List.Mem.tail _ (List.Mem.head _)))))))
theorem wk_wsX3_port_0_11 : Cond.code yX3_in cX3_in 3 (some .boolean) ∈ wsX3_port := lf_wsX3_port_0 _ (List.Mem.tail _ (List.Mem.tail _ (List.Mem.tail _ (List.Mem.tail _ (List.Mem.tail _ (List.Mem.tail _ (List.Mem.tail _ (List.Mem.tail _ (List.Mem.tail _ (List.Mem.tail _ (List.Mem.tail _ (List.Mem.head _))))))))))))
theorem wk_wsX3_port_0_3 : Cond.methodLink RX3 87 yX3_isNode ∈ wsX3_port := lf_wsX3_port_0 _ (List.Mem.tail _ (List.Mem.tail _ (List.Mem.tail _ (List.Mem.head _))))
theorem wk_wsX3_port_0_4 : Cond.instanceMethod yX3_isNode ∈ wsX3_port := lf_wsX3_port_0 _ (List.Mem.tail _ (List.Mem.tail _ (List.Mem.tail _ (List.Mem.tail _ (List.Mem.head _)))))
theorem wk_wsX3_port_0_5 : Cond.selects RX3 yX3_isNode yX3_isNode ∈ wsX3_port := lf_wsX3_port_0 _ (List.Mem.tail _ (List.Mem.tail _ (List.Mem.tail _ (List.Mem.tail _ (List.Mem.tail _ (List.Mem.head _))))))
theorem wk_wsX3_port_0_15 : Cond.code yX3_areNeighbours cX3_areNeighbours 3 (some .boolean) ∈ wsX3_port := lf_wsX3_port_0 _ (List.Mem.tail _ (List.Mem.tail _ (List.Mem.tail _ (List.Mem.tail _ (List.Mem.tail _ (List.Mem.tail _ (List.Mem.tail _ (List.Mem.tail _ (List.Mem.tail _ (List.Mem.tail _ (List.Mem.tail _ (List.Mem.tail _ (List.Mem.tail _ (List.Mem.tail _ (List.Mem.tail _ (List.Mem.head _))))))))))))))))
theorem wk_wsX3_port_0_16 : Cond.fieldLink RX3 29 "TimeNetModel" "isLinked" "[Z" ∈ wsX3_port := lf_wsX3_port_0 _ (List.Mem.tail _ (List.Mem.tail _ (List.Mem.tail _ (List.Mem.tail _ (List.Mem.tail _ (List.Mem.tail _ (List.Mem.tail _ (List.Mem.tail _ (List.Mem.tail _ (List.Mem.tail _ (List.Mem.tail _ (List.Mem.tail _ (List.Mem.tail _ (List.Mem.tail _ (List.Mem.tail _ (List.Mem.tail _ (List.Mem.head _)))))))))))))))))
theorem wk_wsX3_port_0_17 : Cond.fieldLink RX3 7 "TimeNetModel" "domains" "[I" ∈ wsX3_port := lf_wsX3_port_0 _ (List.Mem.tail _ (List.Mem.tail _ (List.Mem.tail _ (List.Mem.tail _ (List.Mem.tail _ (List.Mem.tail _ (List.Mem.tail _ (List.Mem.tail _ (List.Mem.tail _ (List.Mem.tail _ (List.Mem.tail _ (List.Mem.tail _ (List.Mem.tail _ (List.Mem.tail _ (List.Mem.tail _ (List.Mem.tail _ (List.Mem.tail _ (List.Mem.head _))))))))))))))))))
theorem wk_wsX3_port_0_12 : Cond.methodLink RX3 98 yX3_areNeighbours ∈ wsX3_port := lf_wsX3_port_0 _ (List.Mem.tail _ (List.Mem.tail _ (List.Mem.tail _ (List.Mem.tail _ (List.Mem.tail _ (List.Mem.tail _ (List.Mem.tail _ (List.Mem.tail _ (List.Mem.tail _ (List.Mem.tail _ (List.Mem.tail _ (List.Mem.tail _ (List.Mem.head _)))))))))))))
theorem wk_wsX3_port_0_13 : Cond.instanceMethod yX3_areNeighbours ∈ wsX3_port := lf_wsX3_port_0 _ (List.Mem.tail _ (List.Mem.tail _ (List.Mem.tail _ (List.Mem.tail _ (List.Mem.tail _ (List.Mem.tail _ (List.Mem.tail _ (List.Mem.tail _ (List.Mem.tail _ (List.Mem.tail _ (List.Mem.tail _ (List.Mem.tail _ (List.Mem.tail _ (List.Mem.head _))))))))))))))
theorem wk_wsX3_port_0_14 : Cond.selects RX3 yX3_areNeighbours yX3_areNeighbours ∈ wsX3_port := lf_wsX3_port_0 _ (List.Mem.tail _ (List.Mem.tail _ (List.Mem.tail _ (List.Mem.tail _ (List.Mem.tail _ (List.Mem.tail _ (List.Mem.tail _ (List.Mem.tail _ (List.Mem.tail _ (List.Mem.tail _ (List.Mem.tail _ (List.Mem.tail _ (List.Mem.tail _ (List.Mem.tail _ (List.Mem.head _)))))))))))))))
theorem lf_wsX3_layDistances_0 : ∀ w ∈ ([.fieldLink RX3 72 "TimeNetModel" "nodeMany" "I", .fieldLink RX3 69 "TimeNetModel" "distances" "[I", .methodLink RX3 98 yX3_areNeighbours, .instanceMethod yX3_areNeighbours, .selects RX3 yX3_areNeighbours yX3_areNeighbours, .initialized RX3, .code yX3_areNeighbours cX3_areNeighbours 3 (some .boolean), .fieldLink RX3 29 "TimeNetModel" "isLinked" "[Z", .fieldLink RX3 7 "TimeNetModel" "domains" "[I"] : List Cond), w ∈ wsX3_layDistances := fun w h => (List.mem_cons_of_mem _ (List.mem_append_left _ h))
theorem lf_wsX3_layDistances_1 : ∀ w ∈ wsX30, w ∈ wsX3_layDistances := fun w h => (List.mem_cons_of_mem _ (List.mem_append_right _ h))
theorem wk_wsX3_layDistances_0_6 : Cond.code yX3_areNeighbours cX3_areNeighbours 3 (some .boolean) ∈ wsX3_layDistances := lf_wsX3_layDistances_0 _ (List.Mem.tail _ (List.Mem.tail _ (List.Mem.tail _ (List.Mem.tail _ (List.Mem.tail _ (List.Mem.tail _ (List.Mem.head _)))))))
theorem wk_wsX3_layDistances_0_7 : Cond.fieldLink RX3 29 "TimeNetModel" "isLinked" "[Z" ∈ wsX3_layDistances := lf_wsX3_layDistances_0 _ (List.Mem.tail _ (List.Mem.tail _ (List.Mem.tail _ (List.Mem.tail _ (List.Mem.tail _ (List.Mem.tail _ (List.Mem.tail _ (List.Mem.head _))))))))
theorem wk_wsX3_layDistances_0_8 : Cond.fieldLink RX3 7 "TimeNetModel" "domains" "[I" ∈ wsX3_layDistances := lf_wsX3_layDistances_0 _ (List.Mem.tail _ (List.Mem.tail _ (List.Mem.tail _ (List.Mem.tail _ (List.Mem.tail _ (List.Mem.tail _ (List.Mem.tail _ (List.Mem.tail _ (List.Mem.head _)))))))))
theorem wk_wsX3_layDistances_0_2 : Cond.methodLink RX3 98 yX3_areNeighbours ∈ wsX3_layDistances := lf_wsX3_layDistances_0 _ (List.Mem.tail _ (List.Mem.tail _ (List.Mem.head _)))
theorem wk_wsX3_layDistances_0_3 : Cond.instanceMethod yX3_areNeighbours ∈ wsX3_layDistances := lf_wsX3_layDistances_0 _ (List.Mem.tail _ (List.Mem.tail _ (List.Mem.tail _ (List.Mem.head _))))
theorem wk_wsX3_layDistances_0_4 : Cond.selects RX3 yX3_areNeighbours yX3_areNeighbours ∈ wsX3_layDistances := lf_wsX3_layDistances_0 _ (List.Mem.tail _ (List.Mem.tail _ (List.Mem.tail _ (List.Mem.tail _ (List.Mem.head _)))))
theorem wk_wsX3_layDistances_0_5 : Cond.initialized RX3 ∈ wsX3_layDistances := lf_wsX3_layDistances_0 _ (List.Mem.tail _ (List.Mem.tail _ (List.Mem.tail _ (List.Mem.tail _ (List.Mem.tail _ (List.Mem.head _))))))
theorem lf_wsX3_bestReached_0 : ∀ w ∈ ([.fieldLink RX3 72 "TimeNetModel" "nodeMany" "I", .fieldLink RX3 13 "TimeNetModel" "grades" "[I", .fieldLink RX3 16 "TimeNetModel" "variances" "[I", .fieldLink RX3 69 "TimeNetModel" "distances" "[I", .methodLink RX3 124 yX3_layDistances, .instanceMethod yX3_layDistances, .selects RX3 yX3_layDistances yX3_layDistances, .initialized RX3, .code yX3_layDistances cX3_layDistances 5 none, .methodLink RX3 98 yX3_areNeighbours, .instanceMethod yX3_areNeighbours, .selects RX3 yX3_areNeighbours yX3_areNeighbours, .code yX3_areNeighbours cX3_areNeighbours 3 (some .boolean), .fieldLink RX3 29 "TimeNetModel" "isLinked" "[Z", .fieldLink RX3 7 "TimeNetModel" "domains" "[I"] : List Cond), w ∈ wsX3_bestReached := fun w h => (List.mem_cons_of_mem _ (List.mem_append_left _ h))
theorem lf_wsX3_bestReached_1 : ∀ w ∈ wsX30, w ∈ wsX3_bestReached := fun w h => (List.mem_cons_of_mem _ (List.mem_append_right _ h))
theorem wk_wsX3_bestReached_0_8 : Cond.code yX3_layDistances cX3_layDistances 5 none ∈ wsX3_bestReached := lf_wsX3_bestReached_0 _ (List.Mem.tail _ (List.Mem.tail _ (List.Mem.tail _ (List.Mem.tail _ (List.Mem.tail _ (List.Mem.tail _ (List.Mem.tail _ (List.Mem.tail _ (List.Mem.head _)))))))))
theorem wk_wsX3_bestReached_0_0 : Cond.fieldLink RX3 72 "TimeNetModel" "nodeMany" "I" ∈ wsX3_bestReached := lf_wsX3_bestReached_0 _ (List.Mem.head _)
theorem wk_wsX3_bestReached_0_3 : Cond.fieldLink RX3 69 "TimeNetModel" "distances" "[I" ∈ wsX3_bestReached := lf_wsX3_bestReached_0 _ (List.Mem.tail _ (List.Mem.tail _ (List.Mem.tail _ (List.Mem.head _))))
theorem wk_wsX3_bestReached_0_9 : Cond.methodLink RX3 98 yX3_areNeighbours ∈ wsX3_bestReached := lf_wsX3_bestReached_0 _ (List.Mem.tail _ (List.Mem.tail _ (List.Mem.tail _ (List.Mem.tail _ (List.Mem.tail _ (List.Mem.tail _ (List.Mem.tail _ (List.Mem.tail _ (List.Mem.tail _ (List.Mem.head _))))))))))
theorem wk_wsX3_bestReached_0_10 : Cond.instanceMethod yX3_areNeighbours ∈ wsX3_bestReached := lf_wsX3_bestReached_0 _ (List.Mem.tail _ (List.Mem.tail _ (List.Mem.tail _ (List.Mem.tail _ (List.Mem.tail _ (List.Mem.tail _ (List.Mem.tail _ (List.Mem.tail _ (List.Mem.tail _ (List.Mem.tail _ (List.Mem.head _)))))))))))
theorem wk_wsX3_bestReached_0_11 : Cond.selects RX3 yX3_areNeighbours yX3_areNeighbours ∈ wsX3_bestReached := lf_wsX3_bestReached_0 _ (List.Mem.tail _ (List.Mem.tail _ (List.Mem.tail _ (List.Mem.tail _ (List.Mem.tail _ (List.Mem.tail _ (List.Mem.tail _ (List.Mem.tail _ (List.Mem.tail _ (List.Mem.tail _ (List.Mem.tail _ (List.Mem.head _))))))))))))
theorem wk_wsX3_bestReached_0_7 : Cond.initialized RX3 ∈ wsX3_bestReached := lf_wsX3_bestReached_0 _ (List.Mem.tail _ (List.Mem.tail _ (List.Mem.tail _ (List.Mem.tail _ (List.Mem.tail _ (List.Mem.tail _ (List.Mem.tail _ (List.Mem.head _))))))))
theorem wk_wsX3_bestReached_0_12 : Cond.code yX3_areNeighbours cX3_areNeighbours 3 (some .boolean) ∈ wsX3_bestReached := lf_wsX3_bestReached_0 _ (List.Mem.tail _ (List.Mem.tail _ (List.Mem.tail _ (List.Mem.tail _ (List.Mem.tail _ (List.Mem.tail _ (List.Mem.tail _ (List.Mem.tail _ (List.Mem.tail _ (List.Mem.tail _ (List.Mem.tail _ (List.Mem.tail _ (List.Mem.head _)))))))))))))
theorem wk_wsX3_bestReached_0_13 : Cond.fieldLink RX3 29 "TimeNetModel" "isLinked" "[Z" ∈ wsX3_bestReached := lf_wsX3_bestReached_0 _ (List.Mem.tail _ (List.Mem.tail _ (List.Mem.tail _ (List.Mem.tail _ (List.Mem.tail _ (List.Mem.tail _ (List.Mem.tail _ (List.Mem.tail _ (List.Mem.tail _ (List.Mem.tail _ (List.Mem.tail _ (List.Mem.tail _ (List.Mem.tail _ (List.Mem.head _))))))))))))))
theorem wk_wsX3_bestReached_0_14 : Cond.fieldLink RX3 7 "TimeNetModel" "domains" "[I" ∈ wsX3_bestReached := lf_wsX3_bestReached_0 _ (List.Mem.tail _ (List.Mem.tail _ (List.Mem.tail _ (List.Mem.tail _ (List.Mem.tail _ (List.Mem.tail _ (List.Mem.tail _ (List.Mem.tail _ (List.Mem.tail _ (List.Mem.tail _ (List.Mem.tail _ (List.Mem.tail _ (List.Mem.tail _ (List.Mem.tail _ (List.Mem.head _)))))))))))))))
theorem wk_wsX3_bestReached_0_4 : Cond.methodLink RX3 124 yX3_layDistances ∈ wsX3_bestReached := lf_wsX3_bestReached_0 _ (List.Mem.tail _ (List.Mem.tail _ (List.Mem.tail _ (List.Mem.tail _ (List.Mem.head _)))))
theorem wk_wsX3_bestReached_0_5 : Cond.instanceMethod yX3_layDistances ∈ wsX3_bestReached := lf_wsX3_bestReached_0 _ (List.Mem.tail _ (List.Mem.tail _ (List.Mem.tail _ (List.Mem.tail _ (List.Mem.tail _ (List.Mem.head _))))))
theorem wk_wsX3_bestReached_0_6 : Cond.selects RX3 yX3_layDistances yX3_layDistances ∈ wsX3_bestReached := lf_wsX3_bestReached_0 _ (List.Mem.tail _ (List.Mem.tail _ (List.Mem.tail _ (List.Mem.tail _ (List.Mem.tail _ (List.Mem.tail _ (List.Mem.head _)))))))
theorem lf_wsX3_bestByGraph_0 : ∀ w ∈ wsX3_bestByGraph_r1, w ∈ wsX3_bestByGraph := fun w h => (List.mem_cons_of_mem _ (List.mem_append_left _ (List.mem_append_left _ h)))
theorem lf_wsX3_bestByGraph_1 : ∀ w ∈ wsX3_bestByGraph_r2, w ∈ wsX3_bestByGraph := fun w h => (List.mem_cons_of_mem _ (List.mem_append_left _ (List.mem_append_right _ h)))
theorem lf_wsX3_bestByGraph_2 : ∀ w ∈ wsX30, w ∈ wsX3_bestByGraph := fun w h => (List.mem_cons_of_mem _ (List.mem_append_right _ h))
theorem wk_wsX3_bestByGraph_0_4 : Cond.code yX3_asksFor cX3_asksFor 2 (some .boolean) ∈ wsX3_bestByGraph := lf_wsX3_bestByGraph_0 _ (List.Mem.tail _ (List.Mem.tail _ (List.Mem.tail _ (List.Mem.tail _ (List.Mem.head _)))))
theorem wk_wsX3_bestByGraph_0_5 : Cond.fieldLink RX3 76 "TimeNetModel" "thrown" "I" ∈ wsX3_bestByGraph := lf_wsX3_bestByGraph_0 _ (List.Mem.tail _ (List.Mem.tail _ (List.Mem.tail _ (List.Mem.tail _ (List.Mem.tail _ (List.Mem.head _))))))
theorem wk_wsX3_bestByGraph_0_6 : Cond.methodLink RX3 87 yX3_isNode ∈ wsX3_bestByGraph := lf_wsX3_bestByGraph_0 _ (List.Mem.tail _ (List.Mem.tail _ (List.Mem.tail _ (List.Mem.tail _ (List.Mem.tail _ (List.Mem.tail _ (List.Mem.head _)))))))
theorem wk_wsX3_bestByGraph_0_7 : Cond.instanceMethod yX3_isNode ∈ wsX3_bestByGraph := lf_wsX3_bestByGraph_0 _ (List.Mem.tail _ (List.Mem.tail _ (List.Mem.tail _ (List.Mem.tail _ (List.Mem.tail _ (List.Mem.tail _ (List.Mem.tail _ (List.Mem.head _))))))))
theorem wk_wsX3_bestByGraph_0_8 : Cond.selects RX3 yX3_isNode yX3_isNode ∈ wsX3_bestByGraph := lf_wsX3_bestByGraph_0 _ (List.Mem.tail _ (List.Mem.tail _ (List.Mem.tail _ (List.Mem.tail _ (List.Mem.tail _ (List.Mem.tail _ (List.Mem.tail _ (List.Mem.tail _ (List.Mem.head _)))))))))
theorem wk_wsX3_bestByGraph_0_3 : Cond.initialized RX3 ∈ wsX3_bestByGraph := lf_wsX3_bestByGraph_0 _ (List.Mem.tail _ (List.Mem.tail _ (List.Mem.tail _ (List.Mem.head _))))
theorem wk_wsX3_bestByGraph_0_9 : Cond.code yX3_isNode cX3_isNode 2 (some .boolean) ∈ wsX3_bestByGraph := lf_wsX3_bestByGraph_0 _ (List.Mem.tail _ (List.Mem.tail _ (List.Mem.tail _ (List.Mem.tail _ (List.Mem.tail _ (List.Mem.tail _ (List.Mem.tail _ (List.Mem.tail _ (List.Mem.tail _ (List.Mem.head _))))))))))
theorem wk_wsX3_bestByGraph_0_10 : Cond.fieldLink RX3 72 "TimeNetModel" "nodeMany" "I" ∈ wsX3_bestByGraph := lf_wsX3_bestByGraph_0 _ (List.Mem.tail _ (List.Mem.tail _ (List.Mem.tail _ (List.Mem.tail _ (List.Mem.tail _ (List.Mem.tail _ (List.Mem.tail _ (List.Mem.tail _ (List.Mem.tail _ (List.Mem.tail _ (List.Mem.head _)))))))))))
theorem wk_wsX3_bestByGraph_0_11 : Cond.methodLink RX3 79 yX3_in ∈ wsX3_bestByGraph := lf_wsX3_bestByGraph_0 _ (List.Mem.tail _ (List.Mem.tail _ (List.Mem.tail _ (List.Mem.tail _ (List.Mem.tail _ (List.Mem.tail _ (List.Mem.tail _ (List.Mem.tail _ (List.Mem.tail _ (List.Mem.tail _ (List.Mem.tail _ (List.Mem.head _))))))))))))
theorem wk_wsX3_bestByGraph_0_12 : Cond.static yX3_in ∈ wsX3_bestByGraph := lf_wsX3_bestByGraph_0 _ (List.Mem.tail _ (List.Mem.tail _ (List.Mem.tail _ (List.Mem.tail _ (List.Mem.tail _ (List.Mem.tail _ (List.Mem.tail _ (List.Mem.tail _ (List.Mem.tail _ (List.Mem.tail _ (List.Mem.tail _ (List.Mem.tail _ (List.Mem.head _)))))))))))))
theorem wk_wsX3_bestByGraph_0_13 : Cond.code yX3_in cX3_in 3 (some .boolean) ∈ wsX3_bestByGraph := lf_wsX3_bestByGraph_0 _ (List.Mem.tail _ (List.Mem.tail _ (List.Mem.tail _ (List.Mem.tail _ (List.Mem.tail _ (List.Mem.tail _ (List.Mem.tail _ (List.Mem.tail _ (List.Mem.tail _ (List.Mem.tail _ (List.Mem.tail _ (List.Mem.tail _ (List.Mem.tail _ (List.Mem.head _))))))))))))))
theorem wk_wsX3_bestByGraph_0_0 : Cond.methodLink RX3 121 yX3_asksFor ∈ wsX3_bestByGraph := lf_wsX3_bestByGraph_0 _ (List.Mem.head _)
theorem wk_wsX3_bestByGraph_0_1 : Cond.instanceMethod yX3_asksFor ∈ wsX3_bestByGraph := lf_wsX3_bestByGraph_0 _ (List.Mem.tail _ (List.Mem.head _))
theorem wk_wsX3_bestByGraph_0_2 : Cond.selects RX3 yX3_asksFor yX3_asksFor ∈ wsX3_bestByGraph := lf_wsX3_bestByGraph_0 _ (List.Mem.tail _ (List.Mem.tail _ (List.Mem.head _)))
theorem wk_wsX3_bestByGraph_0_17 : Cond.code yX3_bestReached cX3_bestReached 7 (some .int) ∈ wsX3_bestByGraph := lf_wsX3_bestByGraph_0 _ (List.Mem.tail _ (List.Mem.tail _ (List.Mem.tail _ (List.Mem.tail _ (List.Mem.tail _ (List.Mem.tail _ (List.Mem.tail _ (List.Mem.tail _ (List.Mem.tail _ (List.Mem.tail _ (List.Mem.tail _ (List.Mem.tail _ (List.Mem.tail _ (List.Mem.tail _ (List.Mem.tail _ (List.Mem.tail _ (List.Mem.tail _ (List.Mem.head _))))))))))))))))))
theorem wk_wsX3_bestByGraph_0_18 : Cond.fieldLink RX3 13 "TimeNetModel" "grades" "[I" ∈ wsX3_bestByGraph := lf_wsX3_bestByGraph_0 _ (List.Mem.tail _ (List.Mem.tail _ (List.Mem.tail _ (List.Mem.tail _ (List.Mem.tail _ (List.Mem.tail _ (List.Mem.tail _ (List.Mem.tail _ (List.Mem.tail _ (List.Mem.tail _ (List.Mem.tail _ (List.Mem.tail _ (List.Mem.tail _ (List.Mem.tail _ (List.Mem.tail _ (List.Mem.tail _ (List.Mem.tail _ (List.Mem.tail _ (List.Mem.head _)))))))))))))))))))
theorem wk_wsX3_bestByGraph_0_19 : Cond.fieldLink RX3 16 "TimeNetModel" "variances" "[I" ∈ wsX3_bestByGraph := lf_wsX3_bestByGraph_0 _ (List.Mem.tail _ (List.Mem.tail _ (List.Mem.tail _ (List.Mem.tail _ (List.Mem.tail _ (List.Mem.tail _ (List.Mem.tail _ (List.Mem.tail _ (List.Mem.tail _ (List.Mem.tail _ (List.Mem.tail _ (List.Mem.tail _ (List.Mem.tail _ (List.Mem.tail _ (List.Mem.tail _ (List.Mem.tail _ (List.Mem.tail _ (List.Mem.tail _ (List.Mem.tail _ (List.Mem.head _))))))))))))))))))))
theorem wk_wsX3_bestByGraph_0_20 : Cond.fieldLink RX3 69 "TimeNetModel" "distances" "[I" ∈ wsX3_bestByGraph := lf_wsX3_bestByGraph_0 _ (List.Mem.tail _ (List.Mem.tail _ (List.Mem.tail _ (List.Mem.tail _ (List.Mem.tail _ (List.Mem.tail _ (List.Mem.tail _ (List.Mem.tail _ (List.Mem.tail _ (List.Mem.tail _ (List.Mem.tail _ (List.Mem.tail _ (List.Mem.tail _ (List.Mem.tail _ (List.Mem.tail _ (List.Mem.tail _ (List.Mem.tail _ (List.Mem.tail _ (List.Mem.tail _ (List.Mem.tail _ (List.Mem.head _)))))))))))))))))))))
theorem wk_wsX3_bestByGraph_0_21 : Cond.methodLink RX3 124 yX3_layDistances ∈ wsX3_bestByGraph := lf_wsX3_bestByGraph_0 _ (List.Mem.tail _ (List.Mem.tail _ (List.Mem.tail _ (List.Mem.tail _ (List.Mem.tail _ (List.Mem.tail _ (List.Mem.tail _ (List.Mem.tail _ (List.Mem.tail _ (List.Mem.tail _ (List.Mem.tail _ (List.Mem.tail _ (List.Mem.tail _ (List.Mem.tail _ (List.Mem.tail _ (List.Mem.tail _ (List.Mem.tail _ (List.Mem.tail _ (List.Mem.tail _ (List.Mem.tail _ (List.Mem.tail _ (List.Mem.head _))))))))))))))))))))))
theorem wk_wsX3_bestByGraph_0_22 : Cond.instanceMethod yX3_layDistances ∈ wsX3_bestByGraph := lf_wsX3_bestByGraph_0 _ (List.Mem.tail _ (List.Mem.tail _ (List.Mem.tail _ (List.Mem.tail _ (List.Mem.tail _ (List.Mem.tail _ (List.Mem.tail _ (List.Mem.tail _ (List.Mem.tail _ (List.Mem.tail _ (List.Mem.tail _ (List.Mem.tail _ (List.Mem.tail _ (List.Mem.tail _ (List.Mem.tail _ (List.Mem.tail _ (List.Mem.tail _ (List.Mem.tail _ (List.Mem.tail _ (List.Mem.tail _ (List.Mem.tail _ (List.Mem.tail _ (List.Mem.head _)))))))))))))))))))))))
theorem wk_wsX3_bestByGraph_0_23 : Cond.selects RX3 yX3_layDistances yX3_layDistances ∈ wsX3_bestByGraph := lf_wsX3_bestByGraph_0 _ (List.Mem.tail _ (List.Mem.tail _ (List.Mem.tail _ (List.Mem.tail _ (List.Mem.tail _ (List.Mem.tail _ (List.Mem.tail _ (List.Mem.tail _ (List.Mem.tail _ (List.Mem.tail _ (List.Mem.tail _ (List.Mem.tail _ (List.Mem.tail _ (List.Mem.tail _ (List.Mem.tail _ (List.Mem.tail _ (List.Mem.tail _ (List.Mem.tail _ (List.Mem.tail _ (List.Mem.tail _ (List.Mem.tail _ (List.Mem.tail _ (List.Mem.tail _ (List.Mem.head _))))))))))))))))))))))))
theorem wk_wsX3_bestByGraph_1_0 : Cond.code yX3_layDistances cX3_layDistances 5 none ∈ wsX3_bestByGraph := lf_wsX3_bestByGraph_1 _ (List.Mem.head _)
theorem wk_wsX3_bestByGraph_1_1 : Cond.methodLink RX3 98 yX3_areNeighbours ∈ wsX3_bestByGraph := lf_wsX3_bestByGraph_1 _ (List.Mem.tail _ (List.Mem.head _))
theorem wk_wsX3_bestByGraph_1_2 : Cond.instanceMethod yX3_areNeighbours ∈ wsX3_bestByGraph := lf_wsX3_bestByGraph_1 _ (List.Mem.tail _ (List.Mem.tail _ (List.Mem.head _)))
theorem wk_wsX3_bestByGraph_1_3 : Cond.selects RX3 yX3_areNeighbours yX3_areNeighbours ∈ wsX3_bestByGraph := lf_wsX3_bestByGraph_1 _ (List.Mem.tail _ (List.Mem.tail _ (List.Mem.tail _ (List.Mem.head _))))
theorem wk_wsX3_bestByGraph_1_4 : Cond.code yX3_areNeighbours cX3_areNeighbours 3 (some .boolean) ∈ wsX3_bestByGraph := lf_wsX3_bestByGraph_1 _ (List.Mem.tail _ (List.Mem.tail _ (List.Mem.tail _ (List.Mem.tail _ (List.Mem.head _)))))
theorem wk_wsX3_bestByGraph_1_5 : Cond.fieldLink RX3 29 "TimeNetModel" "isLinked" "[Z" ∈ wsX3_bestByGraph := lf_wsX3_bestByGraph_1 _ (List.Mem.tail _ (List.Mem.tail _ (List.Mem.tail _ (List.Mem.tail _ (List.Mem.tail _ (List.Mem.head _))))))
theorem wk_wsX3_bestByGraph_1_6 : Cond.fieldLink RX3 7 "TimeNetModel" "domains" "[I" ∈ wsX3_bestByGraph := lf_wsX3_bestByGraph_1 _ (List.Mem.tail _ (List.Mem.tail _ (List.Mem.tail _ (List.Mem.tail _ (List.Mem.tail _ (List.Mem.tail _ (List.Mem.head _)))))))
theorem wk_wsX3_bestByGraph_0_14 : Cond.methodLink RX3 127 yX3_bestReached ∈ wsX3_bestByGraph := lf_wsX3_bestByGraph_0 _ (List.Mem.tail _ (List.Mem.tail _ (List.Mem.tail _ (List.Mem.tail _ (List.Mem.tail _ (List.Mem.tail _ (List.Mem.tail _ (List.Mem.tail _ (List.Mem.tail _ (List.Mem.tail _ (List.Mem.tail _ (List.Mem.tail _ (List.Mem.tail _ (List.Mem.tail _ (List.Mem.head _)))))))))))))))
theorem wk_wsX3_bestByGraph_0_15 : Cond.instanceMethod yX3_bestReached ∈ wsX3_bestByGraph := lf_wsX3_bestByGraph_0 _ (List.Mem.tail _ (List.Mem.tail _ (List.Mem.tail _ (List.Mem.tail _ (List.Mem.tail _ (List.Mem.tail _ (List.Mem.tail _ (List.Mem.tail _ (List.Mem.tail _ (List.Mem.tail _ (List.Mem.tail _ (List.Mem.tail _ (List.Mem.tail _ (List.Mem.tail _ (List.Mem.tail _ (List.Mem.head _))))))))))))))))
theorem wk_wsX3_bestByGraph_0_16 : Cond.selects RX3 yX3_bestReached yX3_bestReached ∈ wsX3_bestByGraph := lf_wsX3_bestByGraph_0 _ (List.Mem.tail _ (List.Mem.tail _ (List.Mem.tail _ (List.Mem.tail _ (List.Mem.tail _ (List.Mem.tail _ (List.Mem.tail _ (List.Mem.tail _ (List.Mem.tail _ (List.Mem.tail _ (List.Mem.tail _ (List.Mem.tail _ (List.Mem.tail _ (List.Mem.tail _ (List.Mem.tail _ (List.Mem.tail _ (List.Mem.head _)))))))))))))))))
theorem lf_wsX3_stepsByGraph_0 : ∀ w ∈ wsX3_stepsByGraph_r1, w ∈ wsX3_stepsByGraph := fun w h => (List.mem_cons_of_mem _ (List.mem_append_left _ (List.mem_append_left _ h)))
theorem lf_wsX3_stepsByGraph_1 : ∀ w ∈ wsX3_stepsByGraph_r2, w ∈ wsX3_stepsByGraph := fun w h => (List.mem_cons_of_mem _ (List.mem_append_left _ (List.mem_append_right _ h)))
theorem lf_wsX3_stepsByGraph_2 : ∀ w ∈ wsX30, w ∈ wsX3_stepsByGraph := fun w h => (List.mem_cons_of_mem _ (List.mem_append_right _ h))
theorem wk_wsX3_stepsByGraph_0_5 : Cond.code yX3_asksFor cX3_asksFor 2 (some .boolean) ∈ wsX3_stepsByGraph := lf_wsX3_stepsByGraph_0 _ (List.Mem.tail _ (List.Mem.tail _ (List.Mem.tail _ (List.Mem.tail _ (List.Mem.tail _ (List.Mem.head _))))))
theorem wk_wsX3_stepsByGraph_0_6 : Cond.fieldLink RX3 76 "TimeNetModel" "thrown" "I" ∈ wsX3_stepsByGraph := lf_wsX3_stepsByGraph_0 _ (List.Mem.tail _ (List.Mem.tail _ (List.Mem.tail _ (List.Mem.tail _ (List.Mem.tail _ (List.Mem.tail _ (List.Mem.head _)))))))
theorem wk_wsX3_stepsByGraph_0_7 : Cond.methodLink RX3 87 yX3_isNode ∈ wsX3_stepsByGraph := lf_wsX3_stepsByGraph_0 _ (List.Mem.tail _ (List.Mem.tail _ (List.Mem.tail _ (List.Mem.tail _ (List.Mem.tail _ (List.Mem.tail _ (List.Mem.tail _ (List.Mem.head _))))))))
theorem wk_wsX3_stepsByGraph_0_8 : Cond.instanceMethod yX3_isNode ∈ wsX3_stepsByGraph := lf_wsX3_stepsByGraph_0 _ (List.Mem.tail _ (List.Mem.tail _ (List.Mem.tail _ (List.Mem.tail _ (List.Mem.tail _ (List.Mem.tail _ (List.Mem.tail _ (List.Mem.tail _ (List.Mem.head _)))))))))
theorem wk_wsX3_stepsByGraph_0_9 : Cond.selects RX3 yX3_isNode yX3_isNode ∈ wsX3_stepsByGraph := lf_wsX3_stepsByGraph_0 _ (List.Mem.tail _ (List.Mem.tail _ (List.Mem.tail _ (List.Mem.tail _ (List.Mem.tail _ (List.Mem.tail _ (List.Mem.tail _ (List.Mem.tail _ (List.Mem.tail _ (List.Mem.head _))))))))))
theorem wk_wsX3_stepsByGraph_0_4 : Cond.initialized RX3 ∈ wsX3_stepsByGraph := lf_wsX3_stepsByGraph_0 _ (List.Mem.tail _ (List.Mem.tail _ (List.Mem.tail _ (List.Mem.tail _ (List.Mem.head _)))))
theorem wk_wsX3_stepsByGraph_0_10 : Cond.code yX3_isNode cX3_isNode 2 (some .boolean) ∈ wsX3_stepsByGraph := lf_wsX3_stepsByGraph_0 _ (List.Mem.tail _ (List.Mem.tail _ (List.Mem.tail _ (List.Mem.tail _ (List.Mem.tail _ (List.Mem.tail _ (List.Mem.tail _ (List.Mem.tail _ (List.Mem.tail _ (List.Mem.tail _ (List.Mem.head _)))))))))))
theorem wk_wsX3_stepsByGraph_0_11 : Cond.fieldLink RX3 72 "TimeNetModel" "nodeMany" "I" ∈ wsX3_stepsByGraph := lf_wsX3_stepsByGraph_0 _ (List.Mem.tail _ (List.Mem.tail _ (List.Mem.tail _ (List.Mem.tail _ (List.Mem.tail _ (List.Mem.tail _ (List.Mem.tail _ (List.Mem.tail _ (List.Mem.tail _ (List.Mem.tail _ (List.Mem.tail _ (List.Mem.head _))))))))))))
theorem wk_wsX3_stepsByGraph_0_12 : Cond.methodLink RX3 79 yX3_in ∈ wsX3_stepsByGraph := lf_wsX3_stepsByGraph_0 _ (List.Mem.tail _ (List.Mem.tail _ (List.Mem.tail _ (List.Mem.tail _ (List.Mem.tail _ (List.Mem.tail _ (List.Mem.tail _ (List.Mem.tail _ (List.Mem.tail _ (List.Mem.tail _ (List.Mem.tail _ (List.Mem.tail _ (List.Mem.head _)))))))))))))
theorem wk_wsX3_stepsByGraph_0_13 : Cond.static yX3_in ∈ wsX3_stepsByGraph := lf_wsX3_stepsByGraph_0 _ (List.Mem.tail _ (List.Mem.tail _ (List.Mem.tail _ (List.Mem.tail _ (List.Mem.tail _ (List.Mem.tail _ (List.Mem.tail _ (List.Mem.tail _ (List.Mem.tail _ (List.Mem.tail _ (List.Mem.tail _ (List.Mem.tail _ (List.Mem.tail _ (List.Mem.head _))))))))))))))
theorem wk_wsX3_stepsByGraph_0_14 : Cond.code yX3_in cX3_in 3 (some .boolean) ∈ wsX3_stepsByGraph := lf_wsX3_stepsByGraph_0 _ (List.Mem.tail _ (List.Mem.tail _ (List.Mem.tail _ (List.Mem.tail _ (List.Mem.tail _ (List.Mem.tail _ (List.Mem.tail _ (List.Mem.tail _ (List.Mem.tail _ (List.Mem.tail _ (List.Mem.tail _ (List.Mem.tail _ (List.Mem.tail _ (List.Mem.tail _ (List.Mem.head _)))))))))))))))
theorem wk_wsX3_stepsByGraph_0_1 : Cond.methodLink RX3 121 yX3_asksFor ∈ wsX3_stepsByGraph := lf_wsX3_stepsByGraph_0 _ (List.Mem.tail _ (List.Mem.head _))
theorem wk_wsX3_stepsByGraph_0_2 : Cond.instanceMethod yX3_asksFor ∈ wsX3_stepsByGraph := lf_wsX3_stepsByGraph_0 _ (List.Mem.tail _ (List.Mem.tail _ (List.Mem.head _)))
theorem wk_wsX3_stepsByGraph_0_3 : Cond.selects RX3 yX3_asksFor yX3_asksFor ∈ wsX3_stepsByGraph := lf_wsX3_stepsByGraph_0 _ (List.Mem.tail _ (List.Mem.tail _ (List.Mem.tail _ (List.Mem.head _))))
theorem wk_wsX3_stepsByGraph_0_18 : Cond.code yX3_bestReached cX3_bestReached 7 (some .int) ∈ wsX3_stepsByGraph := lf_wsX3_stepsByGraph_0 _ (List.Mem.tail _ (List.Mem.tail _ (List.Mem.tail _ (List.Mem.tail _ (List.Mem.tail _ (List.Mem.tail _ (List.Mem.tail _ (List.Mem.tail _ (List.Mem.tail _ (List.Mem.tail _ (List.Mem.tail _ (List.Mem.tail _ (List.Mem.tail _ (List.Mem.tail _ (List.Mem.tail _ (List.Mem.tail _ (List.Mem.tail _ (List.Mem.tail _ (List.Mem.head _)))))))))))))))))))
theorem wk_wsX3_stepsByGraph_0_19 : Cond.fieldLink RX3 13 "TimeNetModel" "grades" "[I" ∈ wsX3_stepsByGraph := lf_wsX3_stepsByGraph_0 _ (List.Mem.tail _ (List.Mem.tail _ (List.Mem.tail _ (List.Mem.tail _ (List.Mem.tail _ (List.Mem.tail _ (List.Mem.tail _ (List.Mem.tail _ (List.Mem.tail _ (List.Mem.tail _ (List.Mem.tail _ (List.Mem.tail _ (List.Mem.tail _ (List.Mem.tail _ (List.Mem.tail _ (List.Mem.tail _ (List.Mem.tail _ (List.Mem.tail _ (List.Mem.tail _ (List.Mem.head _))))))))))))))))))))
theorem wk_wsX3_stepsByGraph_0_20 : Cond.fieldLink RX3 16 "TimeNetModel" "variances" "[I" ∈ wsX3_stepsByGraph := lf_wsX3_stepsByGraph_0 _ (List.Mem.tail _ (List.Mem.tail _ (List.Mem.tail _ (List.Mem.tail _ (List.Mem.tail _ (List.Mem.tail _ (List.Mem.tail _ (List.Mem.tail _ (List.Mem.tail _ (List.Mem.tail _ (List.Mem.tail _ (List.Mem.tail _ (List.Mem.tail _ (List.Mem.tail _ (List.Mem.tail _ (List.Mem.tail _ (List.Mem.tail _ (List.Mem.tail _ (List.Mem.tail _ (List.Mem.tail _ (List.Mem.head _)))))))))))))))))))))
theorem wk_wsX3_stepsByGraph_0_0 : Cond.fieldLink RX3 69 "TimeNetModel" "distances" "[I" ∈ wsX3_stepsByGraph := lf_wsX3_stepsByGraph_0 _ (List.Mem.head _)
theorem wk_wsX3_stepsByGraph_0_21 : Cond.methodLink RX3 124 yX3_layDistances ∈ wsX3_stepsByGraph := lf_wsX3_stepsByGraph_0 _ (List.Mem.tail _ (List.Mem.tail _ (List.Mem.tail _ (List.Mem.tail _ (List.Mem.tail _ (List.Mem.tail _ (List.Mem.tail _ (List.Mem.tail _ (List.Mem.tail _ (List.Mem.tail _ (List.Mem.tail _ (List.Mem.tail _ (List.Mem.tail _ (List.Mem.tail _ (List.Mem.tail _ (List.Mem.tail _ (List.Mem.tail _ (List.Mem.tail _ (List.Mem.tail _ (List.Mem.tail _ (List.Mem.tail _ (List.Mem.head _))))))))))))))))))))))
theorem wk_wsX3_stepsByGraph_0_22 : Cond.instanceMethod yX3_layDistances ∈ wsX3_stepsByGraph := lf_wsX3_stepsByGraph_0 _ (List.Mem.tail _ (List.Mem.tail _ (List.Mem.tail _ (List.Mem.tail _ (List.Mem.tail _ (List.Mem.tail _ (List.Mem.tail _ (List.Mem.tail _ (List.Mem.tail _ (List.Mem.tail _ (List.Mem.tail _ (List.Mem.tail _ (List.Mem.tail _ (List.Mem.tail _ (List.Mem.tail _ (List.Mem.tail _ (List.Mem.tail _ (List.Mem.tail _ (List.Mem.tail _ (List.Mem.tail _ (List.Mem.tail _ (List.Mem.tail _ (List.Mem.head _)))))))))))))))))))))))
theorem wk_wsX3_stepsByGraph_0_23 : Cond.selects RX3 yX3_layDistances yX3_layDistances ∈ wsX3_stepsByGraph := lf_wsX3_stepsByGraph_0 _ (List.Mem.tail _ (List.Mem.tail _ (List.Mem.tail _ (List.Mem.tail _ (List.Mem.tail _ (List.Mem.tail _ (List.Mem.tail _ (List.Mem.tail _ (List.Mem.tail _ (List.Mem.tail _ (List.Mem.tail _ (List.Mem.tail _ (List.Mem.tail _ (List.Mem.tail _ (List.Mem.tail _ (List.Mem.tail _ (List.Mem.tail _ (List.Mem.tail _ (List.Mem.tail _ (List.Mem.tail _ (List.Mem.tail _ (List.Mem.tail _ (List.Mem.tail _ (List.Mem.head _))))))))))))))))))))))))
theorem wk_wsX3_stepsByGraph_1_0 : Cond.code yX3_layDistances cX3_layDistances 5 none ∈ wsX3_stepsByGraph := lf_wsX3_stepsByGraph_1 _ (List.Mem.head _)
theorem wk_wsX3_stepsByGraph_1_1 : Cond.methodLink RX3 98 yX3_areNeighbours ∈ wsX3_stepsByGraph := lf_wsX3_stepsByGraph_1 _ (List.Mem.tail _ (List.Mem.head _))
theorem wk_wsX3_stepsByGraph_1_2 : Cond.instanceMethod yX3_areNeighbours ∈ wsX3_stepsByGraph := lf_wsX3_stepsByGraph_1 _ (List.Mem.tail _ (List.Mem.tail _ (List.Mem.head _)))
theorem wk_wsX3_stepsByGraph_1_3 : Cond.selects RX3 yX3_areNeighbours yX3_areNeighbours ∈ wsX3_stepsByGraph := lf_wsX3_stepsByGraph_1 _ (List.Mem.tail _ (List.Mem.tail _ (List.Mem.tail _ (List.Mem.head _))))
theorem wk_wsX3_stepsByGraph_1_4 : Cond.code yX3_areNeighbours cX3_areNeighbours 3 (some .boolean) ∈ wsX3_stepsByGraph := lf_wsX3_stepsByGraph_1 _ (List.Mem.tail _ (List.Mem.tail _ (List.Mem.tail _ (List.Mem.tail _ (List.Mem.head _)))))
theorem wk_wsX3_stepsByGraph_1_5 : Cond.fieldLink RX3 29 "TimeNetModel" "isLinked" "[Z" ∈ wsX3_stepsByGraph := lf_wsX3_stepsByGraph_1 _ (List.Mem.tail _ (List.Mem.tail _ (List.Mem.tail _ (List.Mem.tail _ (List.Mem.tail _ (List.Mem.head _))))))
theorem wk_wsX3_stepsByGraph_1_6 : Cond.fieldLink RX3 7 "TimeNetModel" "domains" "[I" ∈ wsX3_stepsByGraph := lf_wsX3_stepsByGraph_1 _ (List.Mem.tail _ (List.Mem.tail _ (List.Mem.tail _ (List.Mem.tail _ (List.Mem.tail _ (List.Mem.tail _ (List.Mem.head _)))))))
theorem wk_wsX3_stepsByGraph_0_15 : Cond.methodLink RX3 127 yX3_bestReached ∈ wsX3_stepsByGraph := lf_wsX3_stepsByGraph_0 _ (List.Mem.tail _ (List.Mem.tail _ (List.Mem.tail _ (List.Mem.tail _ (List.Mem.tail _ (List.Mem.tail _ (List.Mem.tail _ (List.Mem.tail _ (List.Mem.tail _ (List.Mem.tail _ (List.Mem.tail _ (List.Mem.tail _ (List.Mem.tail _ (List.Mem.tail _ (List.Mem.tail _ (List.Mem.head _))))))))))))))))
theorem wk_wsX3_stepsByGraph_0_16 : Cond.instanceMethod yX3_bestReached ∈ wsX3_stepsByGraph := lf_wsX3_stepsByGraph_0 _ (List.Mem.tail _ (List.Mem.tail _ (List.Mem.tail _ (List.Mem.tail _ (List.Mem.tail _ (List.Mem.tail _ (List.Mem.tail _ (List.Mem.tail _ (List.Mem.tail _ (List.Mem.tail _ (List.Mem.tail _ (List.Mem.tail _ (List.Mem.tail _ (List.Mem.tail _ (List.Mem.tail _ (List.Mem.tail _ (List.Mem.head _)))))))))))))))))
theorem wk_wsX3_stepsByGraph_0_17 : Cond.selects RX3 yX3_bestReached yX3_bestReached ∈ wsX3_stepsByGraph := lf_wsX3_stepsByGraph_0 _ (List.Mem.tail _ (List.Mem.tail _ (List.Mem.tail _ (List.Mem.tail _ (List.Mem.tail _ (List.Mem.tail _ (List.Mem.tail _ (List.Mem.tail _ (List.Mem.tail _ (List.Mem.tail _ (List.Mem.tail _ (List.Mem.tail _ (List.Mem.tail _ (List.Mem.tail _ (List.Mem.tail _ (List.Mem.tail _ (List.Mem.tail _ (List.Mem.head _))))))))))))))))))
theorem lf_wsX3_isSettled_0 : ∀ w ∈ ([.fieldLink RX3 76 "TimeNetModel" "thrown" "I", .fieldLink RX3 72 "TimeNetModel" "nodeMany" "I", .fieldLink RX3 39 "TimeNetModel" "knownNode" "[I", .fieldLink RX3 48 "TimeNetModel" "knownSteps" "[I", .fieldLink RX3 69 "TimeNetModel" "distances" "[I", .methodLink RX3 127 yX3_bestReached, .instanceMethod yX3_bestReached, .selects RX3 yX3_bestReached yX3_bestReached, .initialized RX3, .code yX3_bestReached cX3_bestReached 7 (some .int), .fieldLink RX3 13 "TimeNetModel" "grades" "[I", .fieldLink RX3 16 "TimeNetModel" "variances" "[I", .methodLink RX3 124 yX3_layDistances, .instanceMethod yX3_layDistances, .selects RX3 yX3_layDistances yX3_layDistances, .code yX3_layDistances cX3_layDistances 5 none, .methodLink RX3 98 yX3_areNeighbours, .instanceMethod yX3_areNeighbours, .selects RX3 yX3_areNeighbours yX3_areNeighbours, .code yX3_areNeighbours cX3_areNeighbours 3 (some .boolean), .fieldLink RX3 29 "TimeNetModel" "isLinked" "[Z", .fieldLink RX3 7 "TimeNetModel" "domains" "[I"] : List Cond), w ∈ wsX3_isSettled := fun w h => (List.mem_cons_of_mem _ (List.mem_append_left _ h))
theorem lf_wsX3_isSettled_1 : ∀ w ∈ wsX30, w ∈ wsX3_isSettled := fun w h => (List.mem_cons_of_mem _ (List.mem_append_right _ h))
theorem wk_wsX3_isSettled_0_9 : Cond.code yX3_bestReached cX3_bestReached 7 (some .int) ∈ wsX3_isSettled := lf_wsX3_isSettled_0 _ (List.Mem.tail _ (List.Mem.tail _ (List.Mem.tail _ (List.Mem.tail _ (List.Mem.tail _ (List.Mem.tail _ (List.Mem.tail _ (List.Mem.tail _ (List.Mem.tail _ (List.Mem.head _))))))))))
theorem wk_wsX3_isSettled_0_1 : Cond.fieldLink RX3 72 "TimeNetModel" "nodeMany" "I" ∈ wsX3_isSettled := lf_wsX3_isSettled_0 _ (List.Mem.tail _ (List.Mem.head _))
theorem wk_wsX3_isSettled_0_10 : Cond.fieldLink RX3 13 "TimeNetModel" "grades" "[I" ∈ wsX3_isSettled := lf_wsX3_isSettled_0 _ (List.Mem.tail _ (List.Mem.tail _ (List.Mem.tail _ (List.Mem.tail _ (List.Mem.tail _ (List.Mem.tail _ (List.Mem.tail _ (List.Mem.tail _ (List.Mem.tail _ (List.Mem.tail _ (List.Mem.head _)))))))))))
theorem wk_wsX3_isSettled_0_11 : Cond.fieldLink RX3 16 "TimeNetModel" "variances" "[I" ∈ wsX3_isSettled := lf_wsX3_isSettled_0 _ (List.Mem.tail _ (List.Mem.tail _ (List.Mem.tail _ (List.Mem.tail _ (List.Mem.tail _ (List.Mem.tail _ (List.Mem.tail _ (List.Mem.tail _ (List.Mem.tail _ (List.Mem.tail _ (List.Mem.tail _ (List.Mem.head _))))))))))))
theorem wk_wsX3_isSettled_0_4 : Cond.fieldLink RX3 69 "TimeNetModel" "distances" "[I" ∈ wsX3_isSettled := lf_wsX3_isSettled_0 _ (List.Mem.tail _ (List.Mem.tail _ (List.Mem.tail _ (List.Mem.tail _ (List.Mem.head _)))))
theorem wk_wsX3_isSettled_0_12 : Cond.methodLink RX3 124 yX3_layDistances ∈ wsX3_isSettled := lf_wsX3_isSettled_0 _ (List.Mem.tail _ (List.Mem.tail _ (List.Mem.tail _ (List.Mem.tail _ (List.Mem.tail _ (List.Mem.tail _ (List.Mem.tail _ (List.Mem.tail _ (List.Mem.tail _ (List.Mem.tail _ (List.Mem.tail _ (List.Mem.tail _ (List.Mem.head _)))))))))))))
theorem wk_wsX3_isSettled_0_13 : Cond.instanceMethod yX3_layDistances ∈ wsX3_isSettled := lf_wsX3_isSettled_0 _ (List.Mem.tail _ (List.Mem.tail _ (List.Mem.tail _ (List.Mem.tail _ (List.Mem.tail _ (List.Mem.tail _ (List.Mem.tail _ (List.Mem.tail _ (List.Mem.tail _ (List.Mem.tail _ (List.Mem.tail _ (List.Mem.tail _ (List.Mem.tail _ (List.Mem.head _))))))))))))))
theorem wk_wsX3_isSettled_0_14 : Cond.selects RX3 yX3_layDistances yX3_layDistances ∈ wsX3_isSettled := lf_wsX3_isSettled_0 _ (List.Mem.tail _ (List.Mem.tail _ (List.Mem.tail _ (List.Mem.tail _ (List.Mem.tail _ (List.Mem.tail _ (List.Mem.tail _ (List.Mem.tail _ (List.Mem.tail _ (List.Mem.tail _ (List.Mem.tail _ (List.Mem.tail _ (List.Mem.tail _ (List.Mem.tail _ (List.Mem.head _)))))))))))))))
theorem wk_wsX3_isSettled_0_8 : Cond.initialized RX3 ∈ wsX3_isSettled := lf_wsX3_isSettled_0 _ (List.Mem.tail _ (List.Mem.tail _ (List.Mem.tail _ (List.Mem.tail _ (List.Mem.tail _ (List.Mem.tail _ (List.Mem.tail _ (List.Mem.tail _ (List.Mem.head _)))))))))
theorem wk_wsX3_isSettled_0_15 : Cond.code yX3_layDistances cX3_layDistances 5 none ∈ wsX3_isSettled := lf_wsX3_isSettled_0 _ (List.Mem.tail _ (List.Mem.tail _ (List.Mem.tail _ (List.Mem.tail _ (List.Mem.tail _ (List.Mem.tail _ (List.Mem.tail _ (List.Mem.tail _ (List.Mem.tail _ (List.Mem.tail _ (List.Mem.tail _ (List.Mem.tail _ (List.Mem.tail _ (List.Mem.tail _ (List.Mem.tail _ (List.Mem.head _))))))))))))))))
theorem wk_wsX3_isSettled_0_16 : Cond.methodLink RX3 98 yX3_areNeighbours ∈ wsX3_isSettled := lf_wsX3_isSettled_0 _ (List.Mem.tail _ (List.Mem.tail _ (List.Mem.tail _ (List.Mem.tail _ (List.Mem.tail _ (List.Mem.tail _ (List.Mem.tail _ (List.Mem.tail _ (List.Mem.tail _ (List.Mem.tail _ (List.Mem.tail _ (List.Mem.tail _ (List.Mem.tail _ (List.Mem.tail _ (List.Mem.tail _ (List.Mem.tail _ (List.Mem.head _)))))))))))))))))
theorem wk_wsX3_isSettled_0_17 : Cond.instanceMethod yX3_areNeighbours ∈ wsX3_isSettled := lf_wsX3_isSettled_0 _ (List.Mem.tail _ (List.Mem.tail _ (List.Mem.tail _ (List.Mem.tail _ (List.Mem.tail _ (List.Mem.tail _ (List.Mem.tail _ (List.Mem.tail _ (List.Mem.tail _ (List.Mem.tail _ (List.Mem.tail _ (List.Mem.tail _ (List.Mem.tail _ (List.Mem.tail _ (List.Mem.tail _ (List.Mem.tail _ (List.Mem.tail _ (List.Mem.head _))))))))))))))))))
theorem wk_wsX3_isSettled_0_18 : Cond.selects RX3 yX3_areNeighbours yX3_areNeighbours ∈ wsX3_isSettled := lf_wsX3_isSettled_0 _ (List.Mem.tail _ (List.Mem.tail _ (List.Mem.tail _ (List.Mem.tail _ (List.Mem.tail _ (List.Mem.tail _ (List.Mem.tail _ (List.Mem.tail _ (List.Mem.tail _ (List.Mem.tail _ (List.Mem.tail _ (List.Mem.tail _ (List.Mem.tail _ (List.Mem.tail _ (List.Mem.tail _ (List.Mem.tail _ (List.Mem.tail _ (List.Mem.tail _ (List.Mem.head _)))))))))))))))))))
theorem wk_wsX3_isSettled_0_19 : Cond.code yX3_areNeighbours cX3_areNeighbours 3 (some .boolean) ∈ wsX3_isSettled := lf_wsX3_isSettled_0 _ (List.Mem.tail _ (List.Mem.tail _ (List.Mem.tail _ (List.Mem.tail _ (List.Mem.tail _ (List.Mem.tail _ (List.Mem.tail _ (List.Mem.tail _ (List.Mem.tail _ (List.Mem.tail _ (List.Mem.tail _ (List.Mem.tail _ (List.Mem.tail _ (List.Mem.tail _ (List.Mem.tail _ (List.Mem.tail _ (List.Mem.tail _ (List.Mem.tail _ (List.Mem.tail _ (List.Mem.head _))))))))))))))))))))
theorem wk_wsX3_isSettled_0_20 : Cond.fieldLink RX3 29 "TimeNetModel" "isLinked" "[Z" ∈ wsX3_isSettled := lf_wsX3_isSettled_0 _ (List.Mem.tail _ (List.Mem.tail _ (List.Mem.tail _ (List.Mem.tail _ (List.Mem.tail _ (List.Mem.tail _ (List.Mem.tail _ (List.Mem.tail _ (List.Mem.tail _ (List.Mem.tail _ (List.Mem.tail _ (List.Mem.tail _ (List.Mem.tail _ (List.Mem.tail _ (List.Mem.tail _ (List.Mem.tail _ (List.Mem.tail _ (List.Mem.tail _ (List.Mem.tail _ (List.Mem.tail _ (List.Mem.head _)))))))))))))))))))))
theorem wk_wsX3_isSettled_0_21 : Cond.fieldLink RX3 7 "TimeNetModel" "domains" "[I" ∈ wsX3_isSettled := lf_wsX3_isSettled_0 _ (List.Mem.tail _ (List.Mem.tail _ (List.Mem.tail _ (List.Mem.tail _ (List.Mem.tail _ (List.Mem.tail _ (List.Mem.tail _ (List.Mem.tail _ (List.Mem.tail _ (List.Mem.tail _ (List.Mem.tail _ (List.Mem.tail _ (List.Mem.tail _ (List.Mem.tail _ (List.Mem.tail _ (List.Mem.tail _ (List.Mem.tail _ (List.Mem.tail _ (List.Mem.tail _ (List.Mem.tail _ (List.Mem.tail _ (List.Mem.head _))))))))))))))))))))))
theorem wk_wsX3_isSettled_0_5 : Cond.methodLink RX3 127 yX3_bestReached ∈ wsX3_isSettled := lf_wsX3_isSettled_0 _ (List.Mem.tail _ (List.Mem.tail _ (List.Mem.tail _ (List.Mem.tail _ (List.Mem.tail _ (List.Mem.head _))))))
theorem wk_wsX3_isSettled_0_6 : Cond.instanceMethod yX3_bestReached ∈ wsX3_isSettled := lf_wsX3_isSettled_0 _ (List.Mem.tail _ (List.Mem.tail _ (List.Mem.tail _ (List.Mem.tail _ (List.Mem.tail _ (List.Mem.tail _ (List.Mem.head _)))))))
theorem wk_wsX3_isSettled_0_7 : Cond.selects RX3 yX3_bestReached yX3_bestReached ∈ wsX3_isSettled := lf_wsX3_isSettled_0 _ (List.Mem.tail _ (List.Mem.tail _ (List.Mem.tail _ (List.Mem.tail _ (List.Mem.tail _ (List.Mem.tail _ (List.Mem.tail _ (List.Mem.head _))))))))
theorem lf_wsX3_offset_0 : ∀ w ∈ ([.fieldLink RX3 22 "TimeNetModel" "offsets" "[J", .methodLink RX3 121 yX3_asksFor, .instanceMethod yX3_asksFor, .selects RX3 yX3_asksFor yX3_asksFor, .initialized RX3, .code yX3_asksFor cX3_asksFor 2 (some .boolean), .fieldLink RX3 76 "TimeNetModel" "thrown" "I", .methodLink RX3 87 yX3_isNode, .instanceMethod yX3_isNode, .selects RX3 yX3_isNode yX3_isNode, .code yX3_isNode cX3_isNode 2 (some .boolean), .fieldLink RX3 72 "TimeNetModel" "nodeMany" "I", .methodLink RX3 79 yX3_in, .static yX3_in, .code yX3_in cX3_in 3 (some .boolean)] : List Cond), w ∈ wsX3_offset := fun w h => (List.mem_cons_of_mem _ (List.mem_append_left _ h))
theorem lf_wsX3_offset_1 : ∀ w ∈ wsX30, w ∈ wsX3_offset := fun w h => (List.mem_cons_of_mem _ (List.mem_append_right _ h))
theorem wk_wsX3_offset_0_5 : Cond.code yX3_asksFor cX3_asksFor 2 (some .boolean) ∈ wsX3_offset := lf_wsX3_offset_0 _ (List.Mem.tail _ (List.Mem.tail _ (List.Mem.tail _ (List.Mem.tail _ (List.Mem.tail _ (List.Mem.head _))))))
theorem wk_wsX3_offset_0_6 : Cond.fieldLink RX3 76 "TimeNetModel" "thrown" "I" ∈ wsX3_offset := lf_wsX3_offset_0 _ (List.Mem.tail _ (List.Mem.tail _ (List.Mem.tail _ (List.Mem.tail _ (List.Mem.tail _ (List.Mem.tail _ (List.Mem.head _)))))))
theorem wk_wsX3_offset_0_7 : Cond.methodLink RX3 87 yX3_isNode ∈ wsX3_offset := lf_wsX3_offset_0 _ (List.Mem.tail _ (List.Mem.tail _ (List.Mem.tail _ (List.Mem.tail _ (List.Mem.tail _ (List.Mem.tail _ (List.Mem.tail _ (List.Mem.head _))))))))
theorem wk_wsX3_offset_0_8 : Cond.instanceMethod yX3_isNode ∈ wsX3_offset := lf_wsX3_offset_0 _ (List.Mem.tail _ (List.Mem.tail _ (List.Mem.tail _ (List.Mem.tail _ (List.Mem.tail _ (List.Mem.tail _ (List.Mem.tail _ (List.Mem.tail _ (List.Mem.head _)))))))))
theorem wk_wsX3_offset_0_9 : Cond.selects RX3 yX3_isNode yX3_isNode ∈ wsX3_offset := lf_wsX3_offset_0 _ (List.Mem.tail _ (List.Mem.tail _ (List.Mem.tail _ (List.Mem.tail _ (List.Mem.tail _ (List.Mem.tail _ (List.Mem.tail _ (List.Mem.tail _ (List.Mem.tail _ (List.Mem.head _))))))))))
theorem wk_wsX3_offset_0_4 : Cond.initialized RX3 ∈ wsX3_offset := lf_wsX3_offset_0 _ (List.Mem.tail _ (List.Mem.tail _ (List.Mem.tail _ (List.Mem.tail _ (List.Mem.head _)))))
theorem wk_wsX3_offset_0_10 : Cond.code yX3_isNode cX3_isNode 2 (some .boolean) ∈ wsX3_offset := lf_wsX3_offset_0 _ (List.Mem.tail _ (List.Mem.tail _ (List.Mem.tail _ (List.Mem.tail _ (List.Mem.tail _ (List.Mem.tail _ (List.Mem.tail _ (List.Mem.tail _ (List.Mem.tail _ (List.Mem.tail _ (List.Mem.head _)))))))))))
theorem wk_wsX3_offset_0_11 : Cond.fieldLink RX3 72 "TimeNetModel" "nodeMany" "I" ∈ wsX3_offset := lf_wsX3_offset_0 _ (List.Mem.tail _ (List.Mem.tail _ (List.Mem.tail _ (List.Mem.tail _ (List.Mem.tail _ (List.Mem.tail _ (List.Mem.tail _ (List.Mem.tail _ (List.Mem.tail _ (List.Mem.tail _ (List.Mem.tail _ (List.Mem.head _))))))))))))
theorem wk_wsX3_offset_0_12 : Cond.methodLink RX3 79 yX3_in ∈ wsX3_offset := lf_wsX3_offset_0 _ (List.Mem.tail _ (List.Mem.tail _ (List.Mem.tail _ (List.Mem.tail _ (List.Mem.tail _ (List.Mem.tail _ (List.Mem.tail _ (List.Mem.tail _ (List.Mem.tail _ (List.Mem.tail _ (List.Mem.tail _ (List.Mem.tail _ (List.Mem.head _)))))))))))))
theorem wk_wsX3_offset_0_13 : Cond.static yX3_in ∈ wsX3_offset := lf_wsX3_offset_0 _ (List.Mem.tail _ (List.Mem.tail _ (List.Mem.tail _ (List.Mem.tail _ (List.Mem.tail _ (List.Mem.tail _ (List.Mem.tail _ (List.Mem.tail _ (List.Mem.tail _ (List.Mem.tail _ (List.Mem.tail _ (List.Mem.tail _ (List.Mem.tail _ (List.Mem.head _))))))))))))))
theorem wk_wsX3_offset_0_14 : Cond.code yX3_in cX3_in 3 (some .boolean) ∈ wsX3_offset := lf_wsX3_offset_0 _ (List.Mem.tail _ (List.Mem.tail _ (List.Mem.tail _ (List.Mem.tail _ (List.Mem.tail _ (List.Mem.tail _ (List.Mem.tail _ (List.Mem.tail _ (List.Mem.tail _ (List.Mem.tail _ (List.Mem.tail _ (List.Mem.tail _ (List.Mem.tail _ (List.Mem.tail _ (List.Mem.head _)))))))))))))))
theorem wk_wsX3_offset_0_1 : Cond.methodLink RX3 121 yX3_asksFor ∈ wsX3_offset := lf_wsX3_offset_0 _ (List.Mem.tail _ (List.Mem.head _))
theorem wk_wsX3_offset_0_2 : Cond.instanceMethod yX3_asksFor ∈ wsX3_offset := lf_wsX3_offset_0 _ (List.Mem.tail _ (List.Mem.tail _ (List.Mem.head _)))
theorem wk_wsX3_offset_0_3 : Cond.selects RX3 yX3_asksFor yX3_asksFor ∈ wsX3_offset := lf_wsX3_offset_0 _ (List.Mem.tail _ (List.Mem.tail _ (List.Mem.tail _ (List.Mem.head _))))
theorem lf_wsX3_rate_0 : ∀ w ∈ ([.fieldLink RX3 26 "TimeNetModel" "rates" "[J", .methodLink RX3 121 yX3_asksFor, .instanceMethod yX3_asksFor, .selects RX3 yX3_asksFor yX3_asksFor, .initialized RX3, .code yX3_asksFor cX3_asksFor 2 (some .boolean), .fieldLink RX3 76 "TimeNetModel" "thrown" "I", .methodLink RX3 87 yX3_isNode, .instanceMethod yX3_isNode, .selects RX3 yX3_isNode yX3_isNode, .code yX3_isNode cX3_isNode 2 (some .boolean), .fieldLink RX3 72 "TimeNetModel" "nodeMany" "I", .methodLink RX3 79 yX3_in, .static yX3_in, .code yX3_in cX3_in 3 (some .boolean)] : List Cond), w ∈ wsX3_rate := fun w h => (List.mem_cons_of_mem _ (List.mem_append_left _ h))
theorem lf_wsX3_rate_1 : ∀ w ∈ wsX30, w ∈ wsX3_rate := fun w h => (List.mem_cons_of_mem _ (List.mem_append_right _ h))
theorem wk_wsX3_rate_0_5 : Cond.code yX3_asksFor cX3_asksFor 2 (some .boolean) ∈ wsX3_rate := lf_wsX3_rate_0 _ (List.Mem.tail _ (List.Mem.tail _ (List.Mem.tail _ (List.Mem.tail _ (List.Mem.tail _ (List.Mem.head _))))))
theorem wk_wsX3_rate_0_6 : Cond.fieldLink RX3 76 "TimeNetModel" "thrown" "I" ∈ wsX3_rate := lf_wsX3_rate_0 _ (List.Mem.tail _ (List.Mem.tail _ (List.Mem.tail _ (List.Mem.tail _ (List.Mem.tail _ (List.Mem.tail _ (List.Mem.head _)))))))
theorem wk_wsX3_rate_0_7 : Cond.methodLink RX3 87 yX3_isNode ∈ wsX3_rate := lf_wsX3_rate_0 _ (List.Mem.tail _ (List.Mem.tail _ (List.Mem.tail _ (List.Mem.tail _ (List.Mem.tail _ (List.Mem.tail _ (List.Mem.tail _ (List.Mem.head _))))))))
theorem wk_wsX3_rate_0_8 : Cond.instanceMethod yX3_isNode ∈ wsX3_rate := lf_wsX3_rate_0 _ (List.Mem.tail _ (List.Mem.tail _ (List.Mem.tail _ (List.Mem.tail _ (List.Mem.tail _ (List.Mem.tail _ (List.Mem.tail _ (List.Mem.tail _ (List.Mem.head _)))))))))
theorem wk_wsX3_rate_0_9 : Cond.selects RX3 yX3_isNode yX3_isNode ∈ wsX3_rate := lf_wsX3_rate_0 _ (List.Mem.tail _ (List.Mem.tail _ (List.Mem.tail _ (List.Mem.tail _ (List.Mem.tail _ (List.Mem.tail _ (List.Mem.tail _ (List.Mem.tail _ (List.Mem.tail _ (List.Mem.head _))))))))))
theorem wk_wsX3_rate_0_4 : Cond.initialized RX3 ∈ wsX3_rate := lf_wsX3_rate_0 _ (List.Mem.tail _ (List.Mem.tail _ (List.Mem.tail _ (List.Mem.tail _ (List.Mem.head _)))))
theorem wk_wsX3_rate_0_10 : Cond.code yX3_isNode cX3_isNode 2 (some .boolean) ∈ wsX3_rate := lf_wsX3_rate_0 _ (List.Mem.tail _ (List.Mem.tail _ (List.Mem.tail _ (List.Mem.tail _ (List.Mem.tail _ (List.Mem.tail _ (List.Mem.tail _ (List.Mem.tail _ (List.Mem.tail _ (List.Mem.tail _ (List.Mem.head _)))))))))))
theorem wk_wsX3_rate_0_11 : Cond.fieldLink RX3 72 "TimeNetModel" "nodeMany" "I" ∈ wsX3_rate := lf_wsX3_rate_0 _ (List.Mem.tail _ (List.Mem.tail _ (List.Mem.tail _ (List.Mem.tail _ (List.Mem.tail _ (List.Mem.tail _ (List.Mem.tail _ (List.Mem.tail _ (List.Mem.tail _ (List.Mem.tail _ (List.Mem.tail _ (List.Mem.head _))))))))))))
theorem wk_wsX3_rate_0_12 : Cond.methodLink RX3 79 yX3_in ∈ wsX3_rate := lf_wsX3_rate_0 _ (List.Mem.tail _ (List.Mem.tail _ (List.Mem.tail _ (List.Mem.tail _ (List.Mem.tail _ (List.Mem.tail _ (List.Mem.tail _ (List.Mem.tail _ (List.Mem.tail _ (List.Mem.tail _ (List.Mem.tail _ (List.Mem.tail _ (List.Mem.head _)))))))))))))
theorem wk_wsX3_rate_0_13 : Cond.static yX3_in ∈ wsX3_rate := lf_wsX3_rate_0 _ (List.Mem.tail _ (List.Mem.tail _ (List.Mem.tail _ (List.Mem.tail _ (List.Mem.tail _ (List.Mem.tail _ (List.Mem.tail _ (List.Mem.tail _ (List.Mem.tail _ (List.Mem.tail _ (List.Mem.tail _ (List.Mem.tail _ (List.Mem.tail _ (List.Mem.head _))))))))))))))
theorem wk_wsX3_rate_0_14 : Cond.code yX3_in cX3_in 3 (some .boolean) ∈ wsX3_rate := lf_wsX3_rate_0 _ (List.Mem.tail _ (List.Mem.tail _ (List.Mem.tail _ (List.Mem.tail _ (List.Mem.tail _ (List.Mem.tail _ (List.Mem.tail _ (List.Mem.tail _ (List.Mem.tail _ (List.Mem.tail _ (List.Mem.tail _ (List.Mem.tail _ (List.Mem.tail _ (List.Mem.tail _ (List.Mem.head _)))))))))))))))
theorem wk_wsX3_rate_0_1 : Cond.methodLink RX3 121 yX3_asksFor ∈ wsX3_rate := lf_wsX3_rate_0 _ (List.Mem.tail _ (List.Mem.head _))
theorem wk_wsX3_rate_0_2 : Cond.instanceMethod yX3_asksFor ∈ wsX3_rate := lf_wsX3_rate_0 _ (List.Mem.tail _ (List.Mem.tail _ (List.Mem.head _)))
theorem wk_wsX3_rate_0_3 : Cond.selects RX3 yX3_asksFor yX3_asksFor ∈ wsX3_rate := lf_wsX3_rate_0 _ (List.Mem.tail _ (List.Mem.tail _ (List.Mem.tail _ (List.Mem.head _))))
theorem lf_wsX3_spread_0 : ∀ w ∈ ([.fieldLink RX3 76 "TimeNetModel" "thrown" "I", .fieldLink RX3 72 "TimeNetModel" "nodeMany" "I", .fieldLink RX3 22 "TimeNetModel" "offsets" "[J", .fieldLink RX3 7 "TimeNetModel" "domains" "[I", .methodLink RX3 79 yX3_in, .static yX3_in, .initialized RX3, .code yX3_in cX3_in 3 (some .boolean)] : List Cond), w ∈ wsX3_spread := fun w h => (List.mem_cons_of_mem _ (List.mem_append_left _ h))
theorem lf_wsX3_spread_1 : ∀ w ∈ wsX30, w ∈ wsX3_spread := fun w h => (List.mem_cons_of_mem _ (List.mem_append_right _ h))
theorem wk_wsX3_spread_0_7 : Cond.code yX3_in cX3_in 3 (some .boolean) ∈ wsX3_spread := lf_wsX3_spread_0 _ (List.Mem.tail _ (List.Mem.tail _ (List.Mem.tail _ (List.Mem.tail _ (List.Mem.tail _ (List.Mem.tail _ (List.Mem.tail _ (List.Mem.head _))))))))
theorem wk_wsX3_spread_0_4 : Cond.methodLink RX3 79 yX3_in ∈ wsX3_spread := lf_wsX3_spread_0 _ (List.Mem.tail _ (List.Mem.tail _ (List.Mem.tail _ (List.Mem.tail _ (List.Mem.head _)))))
theorem wk_wsX3_spread_0_5 : Cond.static yX3_in ∈ wsX3_spread := lf_wsX3_spread_0 _ (List.Mem.tail _ (List.Mem.tail _ (List.Mem.tail _ (List.Mem.tail _ (List.Mem.tail _ (List.Mem.head _))))))
theorem wk_wsX3_spread_0_6 : Cond.initialized RX3 ∈ wsX3_spread := lf_wsX3_spread_0 _ (List.Mem.tail _ (List.Mem.tail _ (List.Mem.tail _ (List.Mem.tail _ (List.Mem.tail _ (List.Mem.tail _ (List.Mem.head _)))))))
set_option maxRecDepth 20000 in
theorem ggX1_areLinked_X1_place : GoodIn wsX1_areLinked wsX1_place := goodIn_sub (List.forall_mem_cons.mpr ⟨wk_wsX1_areLinked_0_4, (fun _ h => absurd h List.not_mem_nil)⟩) (by decide +kernel)
set_option maxRecDepth 20000 in
theorem gX1_areLinked_X1_place : GoodIn wsX1_areLinked (va_wsS RX1 26 yX1_place wsX1_place) := goodIn_app (goodIn_sub (List.forall_mem_cons.mpr ⟨wk_wsX1_areLinked_0_1, List.forall_mem_cons.mpr ⟨wk_wsX1_areLinked_0_2, List.forall_mem_cons.mpr ⟨wk_wsX1_areLinked_0_3, fun _ h => absurd h List.not_mem_nil⟩⟩⟩) (by decide +kernel)) ggX1_areLinked_X1_place
theorem dX1_areLinked_0 : decode cX1_areLinked 0 = .ok (.aload_n 0, 1) := by decide +kernel
theorem dX1_areLinked_1 : decode cX1_areLinked 1 = .ok (.getfield 9, 3) := by decide +kernel
theorem dX1_areLinked_4 : decode cX1_areLinked 4 = .ok (.iload_n 1, 1) := by decide +kernel
theorem dX1_areLinked_5 : decode cX1_areLinked 5 = .ok (.iload_n 2, 1) := by decide +kernel
theorem dX1_areLinked_6 : decode cX1_areLinked 6 = .ok (.invokestatic 26, 3) := by decide +kernel
theorem dX1_areLinked_9 : decode cX1_areLinked 9 = .ok (.baload, 1) := by decide +kernel
theorem dX1_areLinked_10 : decode cX1_areLinked 10 = .ok (.ireturn, 1) := by decide +kernel
set_option maxRecDepth 20000 in
theorem ggX1_lay_X1_place : GoodIn wsX1_lay wsX1_place := goodIn_sub (List.forall_mem_cons.mpr ⟨wk_wsX1_lay_0_6, (fun _ h => absurd h List.not_mem_nil)⟩) (by decide +kernel)
set_option maxRecDepth 20000 in
theorem gX1_lay_X1_place : GoodIn wsX1_lay (va_wsS RX1 26 yX1_place wsX1_place) := goodIn_app (goodIn_sub (List.forall_mem_cons.mpr ⟨wk_wsX1_lay_0_3, List.forall_mem_cons.mpr ⟨wk_wsX1_lay_0_4, List.forall_mem_cons.mpr ⟨wk_wsX1_lay_0_5, fun _ h => absurd h List.not_mem_nil⟩⟩⟩) (by decide +kernel)) ggX1_lay_X1_place
set_option maxRecDepth 20000 in
theorem ggX1_lay_X1_noteDifference : GoodIn wsX1_lay wsX1_noteDifference := goodIn_sub (List.forall_mem_cons.mpr ⟨wk_wsX1_lay_0_10, (fun w h => (List.mem_append.mp h).elim ((List.forall_mem_cons.mpr ⟨wk_wsX1_lay_0_11, List.forall_mem_cons.mpr ⟨wk_wsX1_lay_0_3, List.forall_mem_cons.mpr ⟨wk_wsX1_lay_0_4, List.forall_mem_cons.mpr ⟨wk_wsX1_lay_0_5, List.forall_mem_cons.mpr ⟨wk_wsX1_lay_0_6, fun _ h => absurd h List.not_mem_nil⟩⟩⟩⟩⟩) w) (lf_wsX1_lay_1 w))⟩) (by decide +kernel)
set_option maxRecDepth 20000 in
theorem gX1_lay_X1_noteDifference : GoodIn wsX1_lay (wsV RX1 30 RX1 yX1_noteDifference wsX1_noteDifference) := goodIn_app (goodIn_sub (List.forall_mem_cons.mpr ⟨wk_wsX1_lay_0_7, List.forall_mem_cons.mpr ⟨wk_wsX1_lay_0_8, List.forall_mem_cons.mpr ⟨wk_wsX1_lay_0_9, List.forall_mem_cons.mpr ⟨wk_wsX1_lay_0_5, fun _ h => absurd h List.not_mem_nil⟩⟩⟩⟩) (by decide +kernel)) ggX1_lay_X1_noteDifference
theorem dX1_lay_0 : decode cX1_lay 0 = .ok (.aload_n 0, 1) := by decide +kernel
theorem dX1_lay_1 : decode cX1_lay 1 = .ok (.getfield 9, 3) := by decide +kernel
theorem dX1_lay_4 : decode cX1_lay 4 = .ok (.iload_n 1, 1) := by decide +kernel
theorem dX1_lay_5 : decode cX1_lay 5 = .ok (.iload_n 2, 1) := by decide +kernel
theorem dX1_lay_6 : decode cX1_lay 6 = .ok (.invokestatic 26, 3) := by decide +kernel
theorem dX1_lay_9 : decode cX1_lay 9 = .ok (.iconst 1, 1) := by decide +kernel
theorem dX1_lay_10 : decode cX1_lay 10 = .ok (.bastore, 1) := by decide +kernel
theorem dX1_lay_11 : decode cX1_lay 11 = .ok (.aload_n 0, 1) := by decide +kernel
theorem dX1_lay_12 : decode cX1_lay 12 = .ok (.getfield 9, 3) := by decide +kernel
theorem dX1_lay_15 : decode cX1_lay 15 = .ok (.iload_n 2, 1) := by decide +kernel
theorem dX1_lay_16 : decode cX1_lay 16 = .ok (.iload_n 1, 1) := by decide +kernel
theorem dX1_lay_17 : decode cX1_lay 17 = .ok (.invokestatic 26, 3) := by decide +kernel
theorem dX1_lay_20 : decode cX1_lay 20 = .ok (.iconst 1, 1) := by decide +kernel
theorem dX1_lay_21 : decode cX1_lay 21 = .ok (.bastore, 1) := by decide +kernel
theorem dX1_lay_22 : decode cX1_lay 22 = .ok (.aload_n 0, 1) := by decide +kernel
theorem dX1_lay_23 : decode cX1_lay 23 = .ok (.getfield 15, 3) := by decide +kernel
theorem dX1_lay_26 : decode cX1_lay 26 = .ok (.iload_n 1, 1) := by decide +kernel
theorem dX1_lay_27 : decode cX1_lay 27 = .ok (.iload_n 2, 1) := by decide +kernel
theorem dX1_lay_28 : decode cX1_lay 28 = .ok (.invokestatic 26, 3) := by decide +kernel
theorem dX1_lay_31 : decode cX1_lay 31 = .ok (.iload_n 3, 1) := by decide +kernel
theorem dX1_lay_32 : decode cX1_lay 32 = .ok (.iastore, 1) := by decide +kernel
theorem dX1_lay_33 : decode cX1_lay 33 = .ok (.aload_n 0, 1) := by decide +kernel
theorem dX1_lay_34 : decode cX1_lay 34 = .ok (.getfield 15, 3) := by decide +kernel
theorem dX1_lay_37 : decode cX1_lay 37 = .ok (.iload_n 2, 1) := by decide +kernel
theorem dX1_lay_38 : decode cX1_lay 38 = .ok (.iload_n 1, 1) := by decide +kernel
theorem dX1_lay_39 : decode cX1_lay 39 = .ok (.invokestatic 26, 3) := by decide +kernel
theorem dX1_lay_42 : decode cX1_lay 42 = .ok (.iload 4, 2) := by decide +kernel
theorem dX1_lay_44 : decode cX1_lay 44 = .ok (.iastore, 1) := by decide +kernel
theorem dX1_lay_45 : decode cX1_lay 45 = .ok (.aload_n 0, 1) := by decide +kernel
theorem dX1_lay_46 : decode cX1_lay 46 = .ok (.iload_n 1, 1) := by decide +kernel
theorem dX1_lay_47 : decode cX1_lay 47 = .ok (.iload_n 2, 1) := by decide +kernel
theorem dX1_lay_48 : decode cX1_lay 48 = .ok (.iconst 0, 1) := by decide +kernel
theorem dX1_lay_49 : decode cX1_lay 49 = .ok (.invokevirtual 30, 3) := by decide +kernel
theorem dX1_lay_52 : decode cX1_lay 52 = .ok (.pop, 1) := by decide +kernel
theorem dX1_lay_53 : decode cX1_lay 53 = .ok (.aload_n 0, 1) := by decide +kernel
theorem dX1_lay_54 : decode cX1_lay 54 = .ok (.dup, 1) := by decide +kernel
theorem dX1_lay_55 : decode cX1_lay 55 = .ok (.getfield 22, 3) := by decide +kernel
theorem dX1_lay_58 : decode cX1_lay 58 = .ok (.iconst 1, 1) := by decide +kernel
theorem dX1_lay_59 : decode cX1_lay 59 = .ok (.iadd, 1) := by decide +kernel
theorem dX1_lay_60 : decode cX1_lay 60 = .ok (.putfield 22, 3) := by decide +kernel
theorem dX1_lay_63 : decode cX1_lay 63 = .ok (.return_, 1) := by decide +kernel
set_option maxRecDepth 20000 in
theorem ggX1_remove_X1_place : GoodIn wsX1_remove wsX1_place := goodIn_sub (List.forall_mem_cons.mpr ⟨wk_wsX1_remove_0_5, (fun _ h => absurd h List.not_mem_nil)⟩) (by decide +kernel)
set_option maxRecDepth 20000 in
theorem gX1_remove_X1_place : GoodIn wsX1_remove (va_wsS RX1 26 yX1_place wsX1_place) := goodIn_app (goodIn_sub (List.forall_mem_cons.mpr ⟨wk_wsX1_remove_0_2, List.forall_mem_cons.mpr ⟨wk_wsX1_remove_0_3, List.forall_mem_cons.mpr ⟨wk_wsX1_remove_0_4, fun _ h => absurd h List.not_mem_nil⟩⟩⟩) (by decide +kernel)) ggX1_remove_X1_place
theorem dX1_remove_0 : decode cX1_remove 0 = .ok (.aload_n 0, 1) := by decide +kernel
theorem dX1_remove_1 : decode cX1_remove 1 = .ok (.getfield 9, 3) := by decide +kernel
theorem dX1_remove_4 : decode cX1_remove 4 = .ok (.iload_n 1, 1) := by decide +kernel
theorem dX1_remove_5 : decode cX1_remove 5 = .ok (.iload_n 2, 1) := by decide +kernel
theorem dX1_remove_6 : decode cX1_remove 6 = .ok (.invokestatic 26, 3) := by decide +kernel
theorem dX1_remove_9 : decode cX1_remove 9 = .ok (.iconst 0, 1) := by decide +kernel
theorem dX1_remove_10 : decode cX1_remove 10 = .ok (.bastore, 1) := by decide +kernel
theorem dX1_remove_11 : decode cX1_remove 11 = .ok (.aload_n 0, 1) := by decide +kernel
theorem dX1_remove_12 : decode cX1_remove 12 = .ok (.getfield 9, 3) := by decide +kernel
theorem dX1_remove_15 : decode cX1_remove 15 = .ok (.iload_n 2, 1) := by decide +kernel
theorem dX1_remove_16 : decode cX1_remove 16 = .ok (.iload_n 1, 1) := by decide +kernel
theorem dX1_remove_17 : decode cX1_remove 17 = .ok (.invokestatic 26, 3) := by decide +kernel
theorem dX1_remove_20 : decode cX1_remove 20 = .ok (.iconst 0, 1) := by decide +kernel
theorem dX1_remove_21 : decode cX1_remove 21 = .ok (.bastore, 1) := by decide +kernel
theorem dX1_remove_22 : decode cX1_remove 22 = .ok (.aload_n 0, 1) := by decide +kernel
theorem dX1_remove_23 : decode cX1_remove 23 = .ok (.dup, 1) := by decide +kernel
theorem dX1_remove_24 : decode cX1_remove 24 = .ok (.getfield 22, 3) := by decide +kernel
theorem dX1_remove_27 : decode cX1_remove 27 = .ok (.iconst 1, 1) := by decide +kernel
theorem dX1_remove_28 : decode cX1_remove 28 = .ok (.isub, 1) := by decide +kernel
theorem dX1_remove_29 : decode cX1_remove 29 = .ok (.putfield 22, 3) := by decide +kernel
theorem dX1_remove_32 : decode cX1_remove 32 = .ok (.return_, 1) := by decide +kernel
set_option maxRecDepth 20000 in
theorem ggX1_noteDifference_X1_place : GoodIn wsX1_noteDifference wsX1_place := goodIn_sub (List.forall_mem_cons.mpr ⟨wk_wsX1_noteDifference_0_4, (fun _ h => absurd h List.not_mem_nil)⟩) (by decide +kernel)
set_option maxRecDepth 20000 in
theorem gX1_noteDifference_X1_place : GoodIn wsX1_noteDifference (va_wsS RX1 26 yX1_place wsX1_place) := goodIn_app (goodIn_sub (List.forall_mem_cons.mpr ⟨wk_wsX1_noteDifference_0_1, List.forall_mem_cons.mpr ⟨wk_wsX1_noteDifference_0_2, List.forall_mem_cons.mpr ⟨wk_wsX1_noteDifference_0_3, fun _ h => absurd h List.not_mem_nil⟩⟩⟩) (by decide +kernel)) ggX1_noteDifference_X1_place
theorem dX1_noteDifference_0 : decode cX1_noteDifference 0 = .ok (.aload_n 0, 1) := by decide +kernel
theorem dX1_noteDifference_1 : decode cX1_noteDifference 1 = .ok (.getfield 19, 3) := by decide +kernel
theorem dX1_noteDifference_4 : decode cX1_noteDifference 4 = .ok (.iload_n 1, 1) := by decide +kernel
theorem dX1_noteDifference_5 : decode cX1_noteDifference 5 = .ok (.iload_n 2, 1) := by decide +kernel
theorem dX1_noteDifference_6 : decode cX1_noteDifference 6 = .ok (.invokestatic 26, 3) := by decide +kernel
theorem dX1_noteDifference_9 : decode cX1_noteDifference 9 = .ok (.iaload, 1) := by decide +kernel
theorem dX1_noteDifference_10 : decode cX1_noteDifference 10 = .ok (.istore 4, 2) := by decide +kernel
theorem dX1_noteDifference_12 : decode cX1_noteDifference 12 = .ok (.aload_n 0, 1) := by decide +kernel
theorem dX1_noteDifference_13 : decode cX1_noteDifference 13 = .ok (.getfield 19, 3) := by decide +kernel
theorem dX1_noteDifference_16 : decode cX1_noteDifference 16 = .ok (.iload_n 1, 1) := by decide +kernel
theorem dX1_noteDifference_17 : decode cX1_noteDifference 17 = .ok (.iload_n 2, 1) := by decide +kernel
theorem dX1_noteDifference_18 : decode cX1_noteDifference 18 = .ok (.invokestatic 26, 3) := by decide +kernel
theorem dX1_noteDifference_21 : decode cX1_noteDifference 21 = .ok (.iload_n 3, 1) := by decide +kernel
theorem dX1_noteDifference_22 : decode cX1_noteDifference 22 = .ok (.iastore, 1) := by decide +kernel
theorem dX1_noteDifference_23 : decode cX1_noteDifference 23 = .ok (.aload_n 0, 1) := by decide +kernel
theorem dX1_noteDifference_24 : decode cX1_noteDifference 24 = .ok (.getfield 19, 3) := by decide +kernel
theorem dX1_noteDifference_27 : decode cX1_noteDifference 27 = .ok (.iload_n 2, 1) := by decide +kernel
theorem dX1_noteDifference_28 : decode cX1_noteDifference 28 = .ok (.iload_n 1, 1) := by decide +kernel
theorem dX1_noteDifference_29 : decode cX1_noteDifference 29 = .ok (.invokestatic 26, 3) := by decide +kernel
theorem dX1_noteDifference_32 : decode cX1_noteDifference 32 = .ok (.iload_n 3, 1) := by decide +kernel
theorem dX1_noteDifference_33 : decode cX1_noteDifference 33 = .ok (.ineg, 1) := by decide +kernel
theorem dX1_noteDifference_34 : decode cX1_noteDifference 34 = .ok (.iastore, 1) := by decide +kernel
theorem dX1_noteDifference_35 : decode cX1_noteDifference 35 = .ok (.iload 4, 2) := by decide +kernel
theorem dX1_noteDifference_37 : decode cX1_noteDifference 37 = .ok (.ireturn, 1) := by decide +kernel
set_option maxRecDepth 20000 in
theorem ggX1_errorFrom_X1_place : GoodIn wsX1_errorFrom wsX1_place := goodIn_sub (List.forall_mem_cons.mpr ⟨wk_wsX1_errorFrom_0_5, (fun _ h => absurd h List.not_mem_nil)⟩) (by decide +kernel)
set_option maxRecDepth 20000 in
theorem gX1_errorFrom_X1_place : GoodIn wsX1_errorFrom (va_wsS RX1 26 yX1_place wsX1_place) := goodIn_app (goodIn_sub (List.forall_mem_cons.mpr ⟨wk_wsX1_errorFrom_0_2, List.forall_mem_cons.mpr ⟨wk_wsX1_errorFrom_0_3, List.forall_mem_cons.mpr ⟨wk_wsX1_errorFrom_0_4, fun _ h => absurd h List.not_mem_nil⟩⟩⟩) (by decide +kernel)) ggX1_errorFrom_X1_place
theorem dX1_errorFrom_0 : decode cX1_errorFrom 0 = .ok (.aload_n 0, 1) := by decide +kernel
theorem dX1_errorFrom_1 : decode cX1_errorFrom 1 = .ok (.getfield 15, 3) := by decide +kernel
theorem dX1_errorFrom_4 : decode cX1_errorFrom 4 = .ok (.iload_n 1, 1) := by decide +kernel
theorem dX1_errorFrom_5 : decode cX1_errorFrom 5 = .ok (.iload_n 2, 1) := by decide +kernel
theorem dX1_errorFrom_6 : decode cX1_errorFrom 6 = .ok (.invokestatic 26, 3) := by decide +kernel
theorem dX1_errorFrom_9 : decode cX1_errorFrom 9 = .ok (.iaload, 1) := by decide +kernel
theorem dX1_errorFrom_10 : decode cX1_errorFrom 10 = .ok (.istore_n 3, 1) := by decide +kernel
theorem dX1_errorFrom_11 : decode cX1_errorFrom 11 = .ok (.aload_n 0, 1) := by decide +kernel
theorem dX1_errorFrom_12 : decode cX1_errorFrom 12 = .ok (.getfield 15, 3) := by decide +kernel
theorem dX1_errorFrom_15 : decode cX1_errorFrom 15 = .ok (.iload_n 2, 1) := by decide +kernel
theorem dX1_errorFrom_16 : decode cX1_errorFrom 16 = .ok (.iload_n 1, 1) := by decide +kernel
theorem dX1_errorFrom_17 : decode cX1_errorFrom 17 = .ok (.invokestatic 26, 3) := by decide +kernel
theorem dX1_errorFrom_20 : decode cX1_errorFrom 20 = .ok (.iaload, 1) := by decide +kernel
theorem dX1_errorFrom_21 : decode cX1_errorFrom 21 = .ok (.istore 4, 2) := by decide +kernel
theorem dX1_errorFrom_23 : decode cX1_errorFrom 23 = .ok (.iload_n 3, 1) := by decide +kernel
theorem dX1_errorFrom_24 : decode cX1_errorFrom 24 = .ok (.iload 4, 2) := by decide +kernel
theorem dX1_errorFrom_26 : decode cX1_errorFrom 26 = .ok (.isub, 1) := by decide +kernel
theorem dX1_errorFrom_27 : decode cX1_errorFrom 27 = .ok (.aload_n 0, 1) := by decide +kernel
theorem dX1_errorFrom_28 : decode cX1_errorFrom 28 = .ok (.getfield 19, 3) := by decide +kernel
theorem dX1_errorFrom_31 : decode cX1_errorFrom 31 = .ok (.iload_n 1, 1) := by decide +kernel
theorem dX1_errorFrom_32 : decode cX1_errorFrom 32 = .ok (.iload_n 2, 1) := by decide +kernel
theorem dX1_errorFrom_33 : decode cX1_errorFrom 33 = .ok (.invokestatic 26, 3) := by decide +kernel
theorem dX1_errorFrom_36 : decode cX1_errorFrom 36 = .ok (.iaload, 1) := by decide +kernel
theorem dX1_errorFrom_37 : decode cX1_errorFrom 37 = .ok (.isub, 1) := by decide +kernel
theorem dX1_errorFrom_38 : decode cX1_errorFrom 38 = .ok (.iconst 2, 1) := by decide +kernel
theorem dX1_errorFrom_39 : decode cX1_errorFrom 39 = .ok (.idiv, 1) := by decide +kernel
theorem dX1_errorFrom_40 : decode cX1_errorFrom 40 = .ok (.ireturn, 1) := by decide +kernel
set_option maxRecDepth 20000 in
theorem ggX2_init_X1_init : GoodIn wsX2_init wsX1_init := goodIn_sub (List.forall_mem_cons.mpr ⟨wk_wsX2_init_1_0, (fun w h => (List.mem_append.mp h).elim ((List.forall_mem_cons.mpr ⟨wk_wsX2_init_1_1, List.forall_mem_cons.mpr ⟨wk_wsX2_init_0_1, List.forall_mem_cons.mpr ⟨wk_wsX2_init_0_2, List.forall_mem_cons.mpr ⟨wk_wsX2_init_1_2, List.forall_mem_cons.mpr ⟨wk_wsX2_init_1_3, List.forall_mem_cons.mpr ⟨wk_wsX2_init_0_3, List.forall_mem_cons.mpr ⟨wk_wsX2_init_1_4, List.forall_mem_cons.mpr ⟨wk_wsX2_init_1_5, List.forall_mem_cons.mpr ⟨wk_wsX2_init_1_6, fun _ h => absurd h List.not_mem_nil⟩⟩⟩⟩⟩⟩⟩⟩⟩) w) (lf_wsX2_init_3 w))⟩) (by decide +kernel)
set_option maxRecDepth 20000 in
theorem gX2_init_X1_init_n31 : GoodIn wsX2_init (wsX1_init) := ggX2_init_X1_init
set_option maxRecDepth 20000 in
theorem ggX2_init_X0_init : GoodIn wsX2_init wsX0_init := goodIn_sub (List.forall_mem_cons.mpr ⟨wk_wsX2_init_1_8, (fun w h => (List.mem_append.mp h).elim ((List.forall_mem_cons.mpr ⟨wk_wsX2_init_1_9, List.forall_mem_cons.mpr ⟨wk_wsX2_init_0_1, List.forall_mem_cons.mpr ⟨wk_wsX2_init_0_2, List.forall_mem_cons.mpr ⟨wk_wsX2_init_0_3, List.forall_mem_cons.mpr ⟨wk_wsX2_init_1_10, List.forall_mem_cons.mpr ⟨wk_wsX2_init_1_11, List.forall_mem_cons.mpr ⟨wk_wsX2_init_1_12, List.forall_mem_cons.mpr ⟨wk_wsX2_init_1_13, fun _ h => absurd h List.not_mem_nil⟩⟩⟩⟩⟩⟩⟩⟩) w) (lf_wsX2_init_4 w))⟩) (by decide +kernel)
set_option maxRecDepth 20000 in
theorem gX2_init_X0_init_n38 : GoodIn wsX2_init (wsX0_init) := ggX2_init_X0_init
theorem dX2_init_0 : decode cX2_init 0 = .ok (.aload_n 0, 1) := by decide +kernel
theorem dX2_init_1 : decode cX2_init 1 = .ok (.invokespecial 1, 3) := by decide +kernel
theorem dX2_init_4 : decode cX2_init 4 = .ok (.aload_n 0, 1) := by decide +kernel
theorem dX2_init_5 : decode cX2_init 5 = .ok (.bipush 10, 2) := by decide +kernel
theorem dX2_init_7 : decode cX2_init 7 = .ok (.newarray .int, 2) := by decide +kernel
theorem dX2_init_9 : decode cX2_init 9 = .ok (.putfield 9, 3) := by decide +kernel
theorem dX2_init_12 : decode cX2_init 12 = .ok (.aload_n 0, 1) := by decide +kernel
theorem dX2_init_13 : decode cX2_init 13 = .ok (.bipush 10, 2) := by decide +kernel
theorem dX2_init_15 : decode cX2_init 15 = .ok (.newarray .int, 2) := by decide +kernel
theorem dX2_init_17 : decode cX2_init 17 = .ok (.putfield 13, 3) := by decide +kernel
theorem dX2_init_20 : decode cX2_init 20 = .ok (.aload_n 0, 1) := by decide +kernel
theorem dX2_init_21 : decode cX2_init 21 = .ok (.bipush 10, 2) := by decide +kernel
theorem dX2_init_23 : decode cX2_init 23 = .ok (.newarray .int, 2) := by decide +kernel
theorem dX2_init_25 : decode cX2_init 25 = .ok (.putfield 16, 3) := by decide +kernel
theorem dX2_init_28 : decode cX2_init 28 = .ok (.aload_n 0, 1) := by decide +kernel
theorem dX2_init_29 : decode cX2_init 29 = .ok (.bipush 10, 2) := by decide +kernel
theorem dX2_init_31 : decode cX2_init 31 = .ok (.newarray .int, 2) := by decide +kernel
theorem dX2_init_33 : decode cX2_init 33 = .ok (.putfield 19, 3) := by decide +kernel
theorem dX2_init_36 : decode cX2_init 36 = .ok (.aload_n 0, 1) := by decide +kernel
theorem dX2_init_37 : decode cX2_init 37 = .ok (.bipush 10, 2) := by decide +kernel
theorem dX2_init_39 : decode cX2_init 39 = .ok (.newarray .long, 2) := by decide +kernel
theorem dX2_init_41 : decode cX2_init 41 = .ok (.putfield 22, 3) := by decide +kernel
theorem dX2_init_44 : decode cX2_init 44 = .ok (.aload_n 0, 1) := by decide +kernel
theorem dX2_init_45 : decode cX2_init 45 = .ok (.bipush 10, 2) := by decide +kernel
theorem dX2_init_47 : decode cX2_init 47 = .ok (.newarray .long, 2) := by decide +kernel
theorem dX2_init_49 : decode cX2_init 49 = .ok (.putfield 26, 3) := by decide +kernel
theorem dX2_init_52 : decode cX2_init 52 = .ok (.aload_n 0, 1) := by decide +kernel
theorem dX2_init_53 : decode cX2_init 53 = .ok (.new 29, 3) := by decide +kernel
theorem dX2_init_56 : decode cX2_init 56 = .ok (.dup, 1) := by decide +kernel
theorem dX2_init_57 : decode cX2_init 57 = .ok (.invokespecial 31, 3) := by decide +kernel
theorem dX2_init_60 : decode cX2_init 60 = .ok (.putfield 32, 3) := by decide +kernel
theorem dX2_init_63 : decode cX2_init 63 = .ok (.aload_n 0, 1) := by decide +kernel
theorem dX2_init_64 : decode cX2_init 64 = .ok (.new 36, 3) := by decide +kernel
theorem dX2_init_67 : decode cX2_init 67 = .ok (.dup, 1) := by decide +kernel
theorem dX2_init_68 : decode cX2_init 68 = .ok (.invokespecial 38, 3) := by decide +kernel
theorem dX2_init_71 : decode cX2_init 71 = .ok (.putfield 39, 3) := by decide +kernel
theorem dX2_init_74 : decode cX2_init 74 = .ok (.aload_n 0, 1) := by decide +kernel
theorem dX2_init_75 : decode cX2_init 75 = .ok (.new 36, 3) := by decide +kernel
theorem dX2_init_78 : decode cX2_init 78 = .ok (.dup, 1) := by decide +kernel
theorem dX2_init_79 : decode cX2_init 79 = .ok (.invokespecial 38, 3) := by decide +kernel
theorem dX2_init_82 : decode cX2_init 82 = .ok (.putfield 43, 3) := by decide +kernel
theorem dX2_init_85 : decode cX2_init 85 = .ok (.aload_n 0, 1) := by decide +kernel
theorem dX2_init_86 : decode cX2_init 86 = .ok (.bipush 10, 2) := by decide +kernel
theorem dX2_init_88 : decode cX2_init 88 = .ok (.newarray .int, 2) := by decide +kernel
theorem dX2_init_90 : decode cX2_init 90 = .ok (.putfield 46, 3) := by decide +kernel
theorem dX2_init_93 : decode cX2_init 93 = .ok (.aload_n 0, 1) := by decide +kernel
theorem dX2_init_94 : decode cX2_init 94 = .ok (.iconst 0, 1) := by decide +kernel
theorem dX2_init_95 : decode cX2_init 95 = .ok (.putfield 49, 3) := by decide +kernel
theorem dX2_init_98 : decode cX2_init 98 = .ok (.aload_n 0, 1) := by decide +kernel
theorem dX2_init_99 : decode cX2_init 99 = .ok (.iconst 0, 1) := by decide +kernel
theorem dX2_init_100 : decode cX2_init 100 = .ok (.putfield 53, 3) := by decide +kernel
theorem dX2_init_103 : decode cX2_init 103 = .ok (.return_, 1) := by decide +kernel
set_option maxRecDepth 20000 in
theorem ggX2_add_X2_requireWithin : GoodIn wsX2_add wsX2_requireWithin := goodIn_ca (goodIn_sub (List.forall_mem_cons.mpr ⟨wk_wsX2_add_0_10, (List.forall_mem_cons.mpr ⟨wk_wsX2_add_0_11, List.forall_mem_cons.mpr ⟨wk_wsX2_add_0_12, fun _ h => absurd h List.not_mem_nil⟩⟩)⟩) (by decide +kernel)) (goodIn_sub (fun _ h => List.mem_cons_of_mem _ (List.mem_append_right _ h)) (by decide +kernel))
set_option maxRecDepth 20000 in
theorem gX2_add_X2_requireWithin : GoodIn wsX2_add (va_wsS RX2 56 yX2_requireWithin wsX2_requireWithin) := goodIn_app (goodIn_sub (List.forall_mem_cons.mpr ⟨wk_wsX2_add_0_7, List.forall_mem_cons.mpr ⟨wk_wsX2_add_0_8, List.forall_mem_cons.mpr ⟨wk_wsX2_add_0_9, fun _ h => absurd h List.not_mem_nil⟩⟩⟩) (by decide +kernel)) ggX2_add_X2_requireWithin
set_option maxRecDepth 20000 in
theorem ggX2_add_X2_knowOnlyItself : GoodIn wsX2_add wsX2_knowOnlyItself := goodIn_sub (List.forall_mem_cons.mpr ⟨wk_wsX2_add_0_16, (fun w h => (List.mem_append.mp h).elim ((fun w h => (List.mem_append.mp h).elim ((List.forall_mem_cons.mpr ⟨wk_wsX2_add_0_17, List.forall_mem_cons.mpr ⟨wk_wsX2_add_0_18, List.forall_mem_cons.mpr ⟨wk_wsX2_add_0_19, List.forall_mem_cons.mpr ⟨wk_wsX2_add_0_20, List.forall_mem_cons.mpr ⟨wk_wsX2_add_0_9, List.forall_mem_cons.mpr ⟨wk_wsX2_add_0_21, List.forall_mem_cons.mpr ⟨wk_wsX2_add_0_4, List.forall_mem_cons.mpr ⟨wk_wsX2_add_0_5, List.forall_mem_cons.mpr ⟨wk_wsX2_add_0_22, List.forall_mem_cons.mpr ⟨wk_wsX2_add_0_23, List.forall_mem_cons.mpr ⟨wk_wsX2_add_1_0, List.forall_mem_cons.mpr ⟨wk_wsX2_add_1_1, List.forall_mem_cons.mpr ⟨wk_wsX2_add_1_2, List.forall_mem_cons.mpr ⟨wk_wsX2_add_1_3, List.forall_mem_cons.mpr ⟨wk_wsX2_add_1_4, List.forall_mem_cons.mpr ⟨wk_wsX2_add_1_5, fun _ h => absurd h List.not_mem_nil⟩⟩⟩⟩⟩⟩⟩⟩⟩⟩⟩⟩⟩⟩⟩⟩) w) (lf_wsX2_add_2 w)) w) (lf_wsX2_add_3 w))⟩) (by decide +kernel)
set_option maxRecDepth 20000 in
theorem gX2_add_X2_knowOnlyItself : GoodIn wsX2_add (wsV RX2 67 RX2 yX2_knowOnlyItself wsX2_knowOnlyItself) := goodIn_app (goodIn_sub (List.forall_mem_cons.mpr ⟨wk_wsX2_add_0_13, List.forall_mem_cons.mpr ⟨wk_wsX2_add_0_14, List.forall_mem_cons.mpr ⟨wk_wsX2_add_0_15, List.forall_mem_cons.mpr ⟨wk_wsX2_add_0_9, fun _ h => absurd h List.not_mem_nil⟩⟩⟩⟩) (by decide +kernel)) ggX2_add_X2_knowOnlyItself
theorem dX2_add_0 : decode cX2_add 0 = .ok (.iload_n 1, 1) := by decide +kernel
theorem dX2_add_1 : decode cX2_add 1 = .ok (.iconst 0, 1) := by decide +kernel
theorem dX2_add_2 : decode cX2_add 2 = .ok (.iconst 1, 1) := by decide +kernel
theorem dX2_add_3 : decode cX2_add 3 = .ok (.invokestatic 56, 3) := by decide +kernel
theorem dX2_add_6 : decode cX2_add 6 = .ok (.iload_n 2, 1) := by decide +kernel
theorem dX2_add_7 : decode cX2_add 7 = .ok (.iconst 0, 1) := by decide +kernel
theorem dX2_add_8 : decode cX2_add 8 = .ok (.sipush 255, 3) := by decide +kernel
theorem dX2_add_11 : decode cX2_add 11 = .ok (.invokestatic 56, 3) := by decide +kernel
theorem dX2_add_14 : decode cX2_add 14 = .ok (.iload_n 3, 1) := by decide +kernel
theorem dX2_add_15 : decode cX2_add 15 = .ok (.iconst 0, 1) := by decide +kernel
theorem dX2_add_16 : decode cX2_add 16 = .ok (.sipush 1000, 3) := by decide +kernel
theorem dX2_add_19 : decode cX2_add 19 = .ok (.invokestatic 56, 3) := by decide +kernel
theorem dX2_add_22 : decode cX2_add 22 = .ok (.iload 4, 2) := by decide +kernel
theorem dX2_add_24 : decode cX2_add 24 = .ok (.bipush (-100), 2) := by decide +kernel
theorem dX2_add_26 : decode cX2_add 26 = .ok (.bipush 100, 2) := by decide +kernel
theorem dX2_add_28 : decode cX2_add 28 = .ok (.invokestatic 56, 3) := by decide +kernel
theorem dX2_add_31 : decode cX2_add 31 = .ok (.aload_n 0, 1) := by decide +kernel
theorem dX2_add_32 : decode cX2_add 32 = .ok (.getfield 49, 3) := by decide +kernel
theorem dX2_add_35 : decode cX2_add 35 = .ok (.bipush 10, 2) := by decide +kernel
theorem dX2_add_37 : decode cX2_add 37 = .ok (.if_icmp .lt 13, 3) := by decide +kernel
theorem dX2_add_40 : decode cX2_add 40 = .ok (.new 60, 3) := by decide +kernel
theorem dX2_add_43 : decode cX2_add 43 = .ok (.dup, 1) := by decide +kernel
theorem dX2_add_44 : decode cX2_add 44 = .ok (.ldc 62, 2) := by decide +kernel
theorem dX2_add_46 : decode cX2_add 46 = .ok (.invokespecial 64, 3) := by decide +kernel
theorem dX2_add_49 : decode cX2_add 49 = .ok (.athrow, 1) := by decide +kernel
theorem dX2_add_50 : decode cX2_add 50 = .ok (.aload_n 0, 1) := by decide +kernel
theorem dX2_add_51 : decode cX2_add 51 = .ok (.getfield 49, 3) := by decide +kernel
theorem dX2_add_54 : decode cX2_add 54 = .ok (.istore 5, 2) := by decide +kernel
theorem dX2_add_56 : decode cX2_add 56 = .ok (.aload_n 0, 1) := by decide +kernel
theorem dX2_add_57 : decode cX2_add 57 = .ok (.dup, 1) := by decide +kernel
theorem dX2_add_58 : decode cX2_add 58 = .ok (.getfield 49, 3) := by decide +kernel
theorem dX2_add_61 : decode cX2_add 61 = .ok (.iconst 1, 1) := by decide +kernel
theorem dX2_add_62 : decode cX2_add 62 = .ok (.iadd, 1) := by decide +kernel
theorem dX2_add_63 : decode cX2_add 63 = .ok (.putfield 49, 3) := by decide +kernel
theorem dX2_add_66 : decode cX2_add 66 = .ok (.aload_n 0, 1) := by decide +kernel
theorem dX2_add_67 : decode cX2_add 67 = .ok (.getfield 9, 3) := by decide +kernel
theorem dX2_add_70 : decode cX2_add 70 = .ok (.iload 5, 2) := by decide +kernel
theorem dX2_add_72 : decode cX2_add 72 = .ok (.iload_n 1, 1) := by decide +kernel
theorem dX2_add_73 : decode cX2_add 73 = .ok (.iastore, 1) := by decide +kernel
theorem dX2_add_74 : decode cX2_add 74 = .ok (.aload_n 0, 1) := by decide +kernel
theorem dX2_add_75 : decode cX2_add 75 = .ok (.getfield 13, 3) := by decide +kernel
theorem dX2_add_78 : decode cX2_add 78 = .ok (.iload 5, 2) := by decide +kernel
theorem dX2_add_80 : decode cX2_add 80 = .ok (.iload_n 2, 1) := by decide +kernel
theorem dX2_add_81 : decode cX2_add 81 = .ok (.iastore, 1) := by decide +kernel
theorem dX2_add_82 : decode cX2_add 82 = .ok (.aload_n 0, 1) := by decide +kernel
theorem dX2_add_83 : decode cX2_add 83 = .ok (.getfield 16, 3) := by decide +kernel
theorem dX2_add_86 : decode cX2_add 86 = .ok (.iload 5, 2) := by decide +kernel
theorem dX2_add_88 : decode cX2_add 88 = .ok (.iload_n 3, 1) := by decide +kernel
theorem dX2_add_89 : decode cX2_add 89 = .ok (.iastore, 1) := by decide +kernel
theorem dX2_add_90 : decode cX2_add 90 = .ok (.aload_n 0, 1) := by decide +kernel
theorem dX2_add_91 : decode cX2_add 91 = .ok (.getfield 19, 3) := by decide +kernel
theorem dX2_add_94 : decode cX2_add 94 = .ok (.iload 5, 2) := by decide +kernel
theorem dX2_add_96 : decode cX2_add 96 = .ok (.iload 4, 2) := by decide +kernel
theorem dX2_add_98 : decode cX2_add 98 = .ok (.iastore, 1) := by decide +kernel
theorem dX2_add_99 : decode cX2_add 99 = .ok (.aload_n 0, 1) := by decide +kernel
theorem dX2_add_100 : decode cX2_add 100 = .ok (.iload 5, 2) := by decide +kernel
theorem dX2_add_102 : decode cX2_add 102 = .ok (.invokevirtual 67, 3) := by decide +kernel
theorem dX2_add_105 : decode cX2_add 105 = .ok (.iload 5, 2) := by decide +kernel
theorem dX2_add_107 : decode cX2_add 107 = .ok (.ireturn, 1) := by decide +kernel
set_option maxRecDepth 20000 in
theorem ggX2_setClock_X2_requireNode : GoodIn wsX2_setClock wsX2_requireNode := goodIn_ca (goodIn_sub (List.forall_mem_cons.mpr ⟨wk_wsX2_setClock_0_6, (fun w h => (List.mem_append.mp h).elim ((List.forall_mem_cons.mpr ⟨wk_wsX2_setClock_0_7, List.forall_mem_cons.mpr ⟨wk_wsX2_setClock_0_8, List.forall_mem_cons.mpr ⟨wk_wsX2_setClock_0_9, List.forall_mem_cons.mpr ⟨wk_wsX2_setClock_0_10, List.forall_mem_cons.mpr ⟨wk_wsX2_setClock_0_11, List.forall_mem_cons.mpr ⟨wk_wsX2_setClock_0_5, List.forall_mem_cons.mpr ⟨wk_wsX2_setClock_0_12, List.forall_mem_cons.mpr ⟨wk_wsX2_setClock_0_13, fun _ h => absurd h List.not_mem_nil⟩⟩⟩⟩⟩⟩⟩⟩) w) (lf_wsX2_setClock_1 w))⟩) (by decide +kernel)) (goodIn_sub (fun _ h => List.mem_cons_of_mem _ (List.mem_append_left _ (List.mem_append_right _ h))) (by decide +kernel))
set_option maxRecDepth 20000 in
theorem gX2_setClock_X2_requireNode : GoodIn wsX2_setClock (wsV RX2 71 RX2 yX2_requireNode wsX2_requireNode) := goodIn_app (goodIn_sub (List.forall_mem_cons.mpr ⟨wk_wsX2_setClock_0_2, List.forall_mem_cons.mpr ⟨wk_wsX2_setClock_0_3, List.forall_mem_cons.mpr ⟨wk_wsX2_setClock_0_4, List.forall_mem_cons.mpr ⟨wk_wsX2_setClock_0_5, fun _ h => absurd h List.not_mem_nil⟩⟩⟩⟩) (by decide +kernel)) ggX2_setClock_X2_requireNode
set_option maxRecDepth 20000 in
theorem ggX2_setClock_X2_requireWithin : GoodIn wsX2_setClock wsX2_requireWithin := goodIn_ca (goodIn_sub (List.forall_mem_cons.mpr ⟨wk_wsX2_setClock_0_16, (List.forall_mem_cons.mpr ⟨wk_wsX2_setClock_0_17, List.forall_mem_cons.mpr ⟨wk_wsX2_setClock_0_18, fun _ h => absurd h List.not_mem_nil⟩⟩)⟩) (by decide +kernel)) (goodIn_sub (fun _ h => List.mem_cons_of_mem _ (List.mem_append_right _ h)) (by decide +kernel))
set_option maxRecDepth 20000 in
theorem gX2_setClock_X2_requireWithin : GoodIn wsX2_setClock (va_wsS RX2 56 yX2_requireWithin wsX2_requireWithin) := goodIn_app (goodIn_sub (List.forall_mem_cons.mpr ⟨wk_wsX2_setClock_0_14, List.forall_mem_cons.mpr ⟨wk_wsX2_setClock_0_15, List.forall_mem_cons.mpr ⟨wk_wsX2_setClock_0_5, fun _ h => absurd h List.not_mem_nil⟩⟩⟩) (by decide +kernel)) ggX2_setClock_X2_requireWithin
theorem dX2_setClock_0 : decode cX2_setClock 0 = .ok (.aload_n 0, 1) := by decide +kernel
theorem dX2_setClock_1 : decode cX2_setClock 1 = .ok (.iload_n 1, 1) := by decide +kernel
theorem dX2_setClock_2 : decode cX2_setClock 2 = .ok (.invokevirtual 71, 3) := by decide +kernel
theorem dX2_setClock_5 : decode cX2_setClock 5 = .ok (.iload_n 2, 1) := by decide +kernel
theorem dX2_setClock_6 : decode cX2_setClock 6 = .ok (.iconst 0, 1) := by decide +kernel
theorem dX2_setClock_7 : decode cX2_setClock 7 = .ok (.sipush 255, 3) := by decide +kernel
theorem dX2_setClock_10 : decode cX2_setClock 10 = .ok (.invokestatic 56, 3) := by decide +kernel
theorem dX2_setClock_13 : decode cX2_setClock 13 = .ok (.iload_n 3, 1) := by decide +kernel
theorem dX2_setClock_14 : decode cX2_setClock 14 = .ok (.iconst 0, 1) := by decide +kernel
theorem dX2_setClock_15 : decode cX2_setClock 15 = .ok (.sipush 1000, 3) := by decide +kernel
theorem dX2_setClock_18 : decode cX2_setClock 18 = .ok (.invokestatic 56, 3) := by decide +kernel
theorem dX2_setClock_21 : decode cX2_setClock 21 = .ok (.aload_n 0, 1) := by decide +kernel
theorem dX2_setClock_22 : decode cX2_setClock 22 = .ok (.getfield 13, 3) := by decide +kernel
theorem dX2_setClock_25 : decode cX2_setClock 25 = .ok (.iload_n 1, 1) := by decide +kernel
theorem dX2_setClock_26 : decode cX2_setClock 26 = .ok (.iaload, 1) := by decide +kernel
theorem dX2_setClock_27 : decode cX2_setClock 27 = .ok (.istore 4, 2) := by decide +kernel
theorem dX2_setClock_29 : decode cX2_setClock 29 = .ok (.aload_n 0, 1) := by decide +kernel
theorem dX2_setClock_30 : decode cX2_setClock 30 = .ok (.getfield 13, 3) := by decide +kernel
theorem dX2_setClock_33 : decode cX2_setClock 33 = .ok (.iload_n 1, 1) := by decide +kernel
theorem dX2_setClock_34 : decode cX2_setClock 34 = .ok (.iload_n 2, 1) := by decide +kernel
theorem dX2_setClock_35 : decode cX2_setClock 35 = .ok (.iastore, 1) := by decide +kernel
theorem dX2_setClock_36 : decode cX2_setClock 36 = .ok (.aload_n 0, 1) := by decide +kernel
theorem dX2_setClock_37 : decode cX2_setClock 37 = .ok (.getfield 16, 3) := by decide +kernel
theorem dX2_setClock_40 : decode cX2_setClock 40 = .ok (.iload_n 1, 1) := by decide +kernel
theorem dX2_setClock_41 : decode cX2_setClock 41 = .ok (.iload_n 3, 1) := by decide +kernel
theorem dX2_setClock_42 : decode cX2_setClock 42 = .ok (.iastore, 1) := by decide +kernel
theorem dX2_setClock_43 : decode cX2_setClock 43 = .ok (.iload 4, 2) := by decide +kernel
theorem dX2_setClock_45 : decode cX2_setClock 45 = .ok (.ireturn, 1) := by decide +kernel
set_option maxRecDepth 20000 in
theorem ggX2_setDrift_X2_requireNode : GoodIn wsX2_setDrift wsX2_requireNode := goodIn_ca (goodIn_sub (List.forall_mem_cons.mpr ⟨wk_wsX2_setDrift_0_5, (fun w h => (List.mem_append.mp h).elim ((List.forall_mem_cons.mpr ⟨wk_wsX2_setDrift_0_6, List.forall_mem_cons.mpr ⟨wk_wsX2_setDrift_0_7, List.forall_mem_cons.mpr ⟨wk_wsX2_setDrift_0_8, List.forall_mem_cons.mpr ⟨wk_wsX2_setDrift_0_9, List.forall_mem_cons.mpr ⟨wk_wsX2_setDrift_0_10, List.forall_mem_cons.mpr ⟨wk_wsX2_setDrift_0_4, List.forall_mem_cons.mpr ⟨wk_wsX2_setDrift_0_11, List.forall_mem_cons.mpr ⟨wk_wsX2_setDrift_0_12, fun _ h => absurd h List.not_mem_nil⟩⟩⟩⟩⟩⟩⟩⟩) w) (lf_wsX2_setDrift_1 w))⟩) (by decide +kernel)) (goodIn_sub (fun _ h => List.mem_cons_of_mem _ (List.mem_append_left _ (List.mem_append_right _ h))) (by decide +kernel))
set_option maxRecDepth 20000 in
theorem gX2_setDrift_X2_requireNode : GoodIn wsX2_setDrift (wsV RX2 71 RX2 yX2_requireNode wsX2_requireNode) := goodIn_app (goodIn_sub (List.forall_mem_cons.mpr ⟨wk_wsX2_setDrift_0_1, List.forall_mem_cons.mpr ⟨wk_wsX2_setDrift_0_2, List.forall_mem_cons.mpr ⟨wk_wsX2_setDrift_0_3, List.forall_mem_cons.mpr ⟨wk_wsX2_setDrift_0_4, fun _ h => absurd h List.not_mem_nil⟩⟩⟩⟩) (by decide +kernel)) ggX2_setDrift_X2_requireNode
set_option maxRecDepth 20000 in
theorem ggX2_setDrift_X2_requireWithin : GoodIn wsX2_setDrift wsX2_requireWithin := goodIn_ca (goodIn_sub (List.forall_mem_cons.mpr ⟨wk_wsX2_setDrift_0_15, (List.forall_mem_cons.mpr ⟨wk_wsX2_setDrift_0_16, List.forall_mem_cons.mpr ⟨wk_wsX2_setDrift_0_17, fun _ h => absurd h List.not_mem_nil⟩⟩)⟩) (by decide +kernel)) (goodIn_sub (fun _ h => List.mem_cons_of_mem _ (List.mem_append_right _ h)) (by decide +kernel))
set_option maxRecDepth 20000 in
theorem gX2_setDrift_X2_requireWithin : GoodIn wsX2_setDrift (va_wsS RX2 56 yX2_requireWithin wsX2_requireWithin) := goodIn_app (goodIn_sub (List.forall_mem_cons.mpr ⟨wk_wsX2_setDrift_0_13, List.forall_mem_cons.mpr ⟨wk_wsX2_setDrift_0_14, List.forall_mem_cons.mpr ⟨wk_wsX2_setDrift_0_4, fun _ h => absurd h List.not_mem_nil⟩⟩⟩) (by decide +kernel)) ggX2_setDrift_X2_requireWithin
theorem dX2_setDrift_0 : decode cX2_setDrift 0 = .ok (.aload_n 0, 1) := by decide +kernel
theorem dX2_setDrift_1 : decode cX2_setDrift 1 = .ok (.iload_n 1, 1) := by decide +kernel
theorem dX2_setDrift_2 : decode cX2_setDrift 2 = .ok (.invokevirtual 71, 3) := by decide +kernel
theorem dX2_setDrift_5 : decode cX2_setDrift 5 = .ok (.iload_n 2, 1) := by decide +kernel
theorem dX2_setDrift_6 : decode cX2_setDrift 6 = .ok (.bipush (-100), 2) := by decide +kernel
theorem dX2_setDrift_8 : decode cX2_setDrift 8 = .ok (.bipush 100, 2) := by decide +kernel
theorem dX2_setDrift_10 : decode cX2_setDrift 10 = .ok (.invokestatic 56, 3) := by decide +kernel
theorem dX2_setDrift_13 : decode cX2_setDrift 13 = .ok (.aload_n 0, 1) := by decide +kernel
theorem dX2_setDrift_14 : decode cX2_setDrift 14 = .ok (.getfield 19, 3) := by decide +kernel
theorem dX2_setDrift_17 : decode cX2_setDrift 17 = .ok (.iload_n 1, 1) := by decide +kernel
theorem dX2_setDrift_18 : decode cX2_setDrift 18 = .ok (.iaload, 1) := by decide +kernel
theorem dX2_setDrift_19 : decode cX2_setDrift 19 = .ok (.istore_n 3, 1) := by decide +kernel
theorem dX2_setDrift_20 : decode cX2_setDrift 20 = .ok (.aload_n 0, 1) := by decide +kernel
theorem dX2_setDrift_21 : decode cX2_setDrift 21 = .ok (.getfield 19, 3) := by decide +kernel
theorem dX2_setDrift_24 : decode cX2_setDrift 24 = .ok (.iload_n 1, 1) := by decide +kernel
theorem dX2_setDrift_25 : decode cX2_setDrift 25 = .ok (.iload_n 2, 1) := by decide +kernel
theorem dX2_setDrift_26 : decode cX2_setDrift 26 = .ok (.iastore, 1) := by decide +kernel
theorem dX2_setDrift_27 : decode cX2_setDrift 27 = .ok (.iload_n 3, 1) := by decide +kernel
theorem dX2_setDrift_28 : decode cX2_setDrift 28 = .ok (.ireturn, 1) := by decide +kernel
set_option maxRecDepth 20000 in
theorem ggX2_setOffset_X2_requireNode : GoodIn wsX2_setOffset wsX2_requireNode := goodIn_ca (goodIn_sub (List.forall_mem_cons.mpr ⟨wk_wsX2_setOffset_0_7, (fun w h => (List.mem_append.mp h).elim ((List.forall_mem_cons.mpr ⟨wk_wsX2_setOffset_0_8, List.forall_mem_cons.mpr ⟨wk_wsX2_setOffset_0_9, List.forall_mem_cons.mpr ⟨wk_wsX2_setOffset_0_10, List.forall_mem_cons.mpr ⟨wk_wsX2_setOffset_0_11, List.forall_mem_cons.mpr ⟨wk_wsX2_setOffset_0_12, List.forall_mem_cons.mpr ⟨wk_wsX2_setOffset_0_6, List.forall_mem_cons.mpr ⟨wk_wsX2_setOffset_0_13, List.forall_mem_cons.mpr ⟨wk_wsX2_setOffset_0_14, fun _ h => absurd h List.not_mem_nil⟩⟩⟩⟩⟩⟩⟩⟩) w) (lf_wsX2_setOffset_1 w))⟩) (by decide +kernel)) (goodIn_sub (fun _ h => List.mem_cons_of_mem _ (List.mem_append_left _ (List.mem_append_right _ h))) (by decide +kernel))
set_option maxRecDepth 20000 in
theorem gX2_setOffset_X2_requireNode : GoodIn wsX2_setOffset (wsV RX2 71 RX2 yX2_requireNode wsX2_requireNode) := goodIn_app (goodIn_sub (List.forall_mem_cons.mpr ⟨wk_wsX2_setOffset_0_3, List.forall_mem_cons.mpr ⟨wk_wsX2_setOffset_0_4, List.forall_mem_cons.mpr ⟨wk_wsX2_setOffset_0_5, List.forall_mem_cons.mpr ⟨wk_wsX2_setOffset_0_6, fun _ h => absurd h List.not_mem_nil⟩⟩⟩⟩) (by decide +kernel)) ggX2_setOffset_X2_requireNode
set_option maxRecDepth 20000 in
theorem ggX2_setOffset_X2_requireWithin : GoodIn wsX2_setOffset wsX2_requireWithin := goodIn_ca (goodIn_sub (List.forall_mem_cons.mpr ⟨wk_wsX2_setOffset_0_17, (List.forall_mem_cons.mpr ⟨wk_wsX2_setOffset_0_18, List.forall_mem_cons.mpr ⟨wk_wsX2_setOffset_0_19, fun _ h => absurd h List.not_mem_nil⟩⟩)⟩) (by decide +kernel)) (goodIn_sub (fun _ h => List.mem_cons_of_mem _ (List.mem_append_right _ h)) (by decide +kernel))
set_option maxRecDepth 20000 in
theorem gX2_setOffset_X2_requireWithin : GoodIn wsX2_setOffset (va_wsS RX2 56 yX2_requireWithin wsX2_requireWithin) := goodIn_app (goodIn_sub (List.forall_mem_cons.mpr ⟨wk_wsX2_setOffset_0_15, List.forall_mem_cons.mpr ⟨wk_wsX2_setOffset_0_16, List.forall_mem_cons.mpr ⟨wk_wsX2_setOffset_0_6, fun _ h => absurd h List.not_mem_nil⟩⟩⟩) (by decide +kernel)) ggX2_setOffset_X2_requireWithin
theorem dX2_setOffset_0 : decode cX2_setOffset 0 = .ok (.aload_n 0, 1) := by decide +kernel
theorem dX2_setOffset_1 : decode cX2_setOffset 1 = .ok (.iload_n 1, 1) := by decide +kernel
theorem dX2_setOffset_2 : decode cX2_setOffset 2 = .ok (.invokevirtual 71, 3) := by decide +kernel
theorem dX2_setOffset_5 : decode cX2_setOffset 5 = .ok (.iload_n 2, 1) := by decide +kernel
theorem dX2_setOffset_6 : decode cX2_setOffset 6 = .ok (.ldc 74, 2) := by decide +kernel
theorem dX2_setOffset_8 : decode cX2_setOffset 8 = .ok (.ldc 75, 2) := by decide +kernel
theorem dX2_setOffset_10 : decode cX2_setOffset 10 = .ok (.invokestatic 56, 3) := by decide +kernel
theorem dX2_setOffset_13 : decode cX2_setOffset 13 = .ok (.aload_n 0, 1) := by decide +kernel
theorem dX2_setOffset_14 : decode cX2_setOffset 14 = .ok (.getfield 22, 3) := by decide +kernel
theorem dX2_setOffset_17 : decode cX2_setOffset 17 = .ok (.iload_n 1, 1) := by decide +kernel
theorem dX2_setOffset_18 : decode cX2_setOffset 18 = .ok (.laload, 1) := by decide +kernel
theorem dX2_setOffset_19 : decode cX2_setOffset 19 = .ok (.lstore_n 3, 1) := by decide +kernel
theorem dX2_setOffset_20 : decode cX2_setOffset 20 = .ok (.aload_n 0, 1) := by decide +kernel
theorem dX2_setOffset_21 : decode cX2_setOffset 21 = .ok (.getfield 22, 3) := by decide +kernel
theorem dX2_setOffset_24 : decode cX2_setOffset 24 = .ok (.iload_n 1, 1) := by decide +kernel
theorem dX2_setOffset_25 : decode cX2_setOffset 25 = .ok (.iload_n 2, 1) := by decide +kernel
theorem dX2_setOffset_26 : decode cX2_setOffset 26 = .ok (.i2l, 1) := by decide +kernel
theorem dX2_setOffset_27 : decode cX2_setOffset 27 = .ok (.lastore, 1) := by decide +kernel
theorem dX2_setOffset_28 : decode cX2_setOffset 28 = .ok (.lload_n 3, 1) := by decide +kernel
theorem dX2_setOffset_29 : decode cX2_setOffset 29 = .ok (.lreturn, 1) := by decide +kernel
set_option maxRecDepth 20000 in
theorem ggX2_link_X2_requireNode : GoodIn wsX2_link wsX2_requireNode := goodIn_ca (goodIn_sub (List.forall_mem_cons.mpr ⟨wk_wsX2_link_0_10, (fun w h => (List.mem_append.mp h).elim ((List.forall_mem_cons.mpr ⟨wk_wsX2_link_0_11, List.forall_mem_cons.mpr ⟨wk_wsX2_link_0_12, List.forall_mem_cons.mpr ⟨wk_wsX2_link_0_13, List.forall_mem_cons.mpr ⟨wk_wsX2_link_0_14, List.forall_mem_cons.mpr ⟨wk_wsX2_link_0_15, List.forall_mem_cons.mpr ⟨wk_wsX2_link_0_9, List.forall_mem_cons.mpr ⟨wk_wsX2_link_0_16, List.forall_mem_cons.mpr ⟨wk_wsX2_link_0_17, fun _ h => absurd h List.not_mem_nil⟩⟩⟩⟩⟩⟩⟩⟩) w) (lf_wsX2_link_2 w))⟩) (by decide +kernel)) (goodIn_sub (fun _ h => List.mem_cons_of_mem _ (List.mem_append_right _ h)) (by decide +kernel))
set_option maxRecDepth 20000 in
theorem gX2_link_X2_requireNode : GoodIn wsX2_link (wsV RX2 71 RX2 yX2_requireNode wsX2_requireNode) := goodIn_app (goodIn_sub (List.forall_mem_cons.mpr ⟨wk_wsX2_link_0_6, List.forall_mem_cons.mpr ⟨wk_wsX2_link_0_7, List.forall_mem_cons.mpr ⟨wk_wsX2_link_0_8, List.forall_mem_cons.mpr ⟨wk_wsX2_link_0_9, fun _ h => absurd h List.not_mem_nil⟩⟩⟩⟩) (by decide +kernel)) ggX2_link_X2_requireNode
set_option maxRecDepth 20000 in
theorem ggX2_link_X2_requireWithin : GoodIn wsX2_link wsX2_requireWithin := goodIn_ca (goodIn_sub (List.forall_mem_cons.mpr ⟨wk_wsX2_link_0_20, (List.forall_mem_cons.mpr ⟨wk_wsX2_link_0_0, List.forall_mem_cons.mpr ⟨wk_wsX2_link_0_1, fun _ h => absurd h List.not_mem_nil⟩⟩)⟩) (by decide +kernel)) (goodIn_sub (fun _ h => List.mem_cons_of_mem _ (List.mem_append_left _ (List.mem_append_left _ (List.mem_append_right _ h)))) (by decide +kernel))
set_option maxRecDepth 20000 in
theorem gX2_link_X2_requireWithin : GoodIn wsX2_link (va_wsS RX2 56 yX2_requireWithin wsX2_requireWithin) := goodIn_app (goodIn_sub (List.forall_mem_cons.mpr ⟨wk_wsX2_link_0_18, List.forall_mem_cons.mpr ⟨wk_wsX2_link_0_19, List.forall_mem_cons.mpr ⟨wk_wsX2_link_0_9, fun _ h => absurd h List.not_mem_nil⟩⟩⟩) (by decide +kernel)) ggX2_link_X2_requireWithin
set_option maxRecDepth 20000 in
theorem ggX2_link_X1_areLinked : GoodIn wsX2_link wsX1_areLinked := goodIn_sub (List.forall_mem_cons.mpr ⟨wk_wsX2_link_1_0, (fun w h => (List.mem_append.mp h).elim ((List.forall_mem_cons.mpr ⟨wk_wsX2_link_1_1, List.forall_mem_cons.mpr ⟨wk_wsX2_link_1_2, List.forall_mem_cons.mpr ⟨wk_wsX2_link_1_3, List.forall_mem_cons.mpr ⟨wk_wsX2_link_0_22, List.forall_mem_cons.mpr ⟨wk_wsX2_link_1_4, fun _ h => absurd h List.not_mem_nil⟩⟩⟩⟩⟩) w) (lf_wsX2_link_3 w))⟩) (by decide +kernel)
set_option maxRecDepth 20000 in
theorem gX2_link_X1_areLinked_n82 : GoodIn wsX2_link (wsX1_areLinked) := ggX2_link_X1_areLinked
set_option maxRecDepth 20000 in
theorem ggX2_link_X1_lay : GoodIn wsX2_link wsX1_lay := goodIn_sub (List.forall_mem_cons.mpr ⟨wk_wsX2_link_1_7, (fun w h => (List.mem_append.mp h).elim ((List.forall_mem_cons.mpr ⟨wk_wsX2_link_1_1, List.forall_mem_cons.mpr ⟨wk_wsX2_link_1_8, List.forall_mem_cons.mpr ⟨wk_wsX2_link_1_9, List.forall_mem_cons.mpr ⟨wk_wsX2_link_1_2, List.forall_mem_cons.mpr ⟨wk_wsX2_link_1_3, List.forall_mem_cons.mpr ⟨wk_wsX2_link_0_22, List.forall_mem_cons.mpr ⟨wk_wsX2_link_1_4, List.forall_mem_cons.mpr ⟨wk_wsX2_link_1_10, List.forall_mem_cons.mpr ⟨wk_wsX2_link_1_11, List.forall_mem_cons.mpr ⟨wk_wsX2_link_1_12, List.forall_mem_cons.mpr ⟨wk_wsX2_link_1_13, List.forall_mem_cons.mpr ⟨wk_wsX2_link_1_14, fun _ h => absurd h List.not_mem_nil⟩⟩⟩⟩⟩⟩⟩⟩⟩⟩⟩⟩) w) (lf_wsX2_link_3 w))⟩) (by decide +kernel)
set_option maxRecDepth 20000 in
theorem gX2_link_X1_lay_n88 : GoodIn wsX2_link (wsX1_lay) := ggX2_link_X1_lay
theorem dX2_link_0 : decode cX2_link 0 = .ok (.aload_n 0, 1) := by decide +kernel
theorem dX2_link_1 : decode cX2_link 1 = .ok (.iload_n 1, 1) := by decide +kernel
theorem dX2_link_2 : decode cX2_link 2 = .ok (.invokevirtual 71, 3) := by decide +kernel
theorem dX2_link_5 : decode cX2_link 5 = .ok (.aload_n 0, 1) := by decide +kernel
theorem dX2_link_6 : decode cX2_link 6 = .ok (.iload_n 2, 1) := by decide +kernel
theorem dX2_link_7 : decode cX2_link 7 = .ok (.invokevirtual 71, 3) := by decide +kernel
theorem dX2_link_10 : decode cX2_link 10 = .ok (.iload_n 1, 1) := by decide +kernel
theorem dX2_link_11 : decode cX2_link 11 = .ok (.iload_n 2, 1) := by decide +kernel
theorem dX2_link_12 : decode cX2_link 12 = .ok (.if_icmp .ne 13, 3) := by decide +kernel
theorem dX2_link_15 : decode cX2_link 15 = .ok (.new 76, 3) := by decide +kernel
theorem dX2_link_18 : decode cX2_link 18 = .ok (.dup, 1) := by decide +kernel
theorem dX2_link_19 : decode cX2_link 19 = .ok (.ldc 78, 2) := by decide +kernel
theorem dX2_link_21 : decode cX2_link 21 = .ok (.invokespecial 80, 3) := by decide +kernel
theorem dX2_link_24 : decode cX2_link 24 = .ok (.athrow, 1) := by decide +kernel
theorem dX2_link_25 : decode cX2_link 25 = .ok (.iload_n 3, 1) := by decide +kernel
theorem dX2_link_26 : decode cX2_link 26 = .ok (.iconst 0, 1) := by decide +kernel
theorem dX2_link_27 : decode cX2_link 27 = .ok (.ldc 81, 2) := by decide +kernel
theorem dX2_link_29 : decode cX2_link 29 = .ok (.invokestatic 56, 3) := by decide +kernel
theorem dX2_link_32 : decode cX2_link 32 = .ok (.iload 4, 2) := by decide +kernel
theorem dX2_link_34 : decode cX2_link 34 = .ok (.iconst 0, 1) := by decide +kernel
theorem dX2_link_35 : decode cX2_link 35 = .ok (.ldc 81, 2) := by decide +kernel
theorem dX2_link_37 : decode cX2_link 37 = .ok (.invokestatic 56, 3) := by decide +kernel
theorem dX2_link_40 : decode cX2_link 40 = .ok (.aload_n 0, 1) := by decide +kernel
theorem dX2_link_41 : decode cX2_link 41 = .ok (.getfield 32, 3) := by decide +kernel
theorem dX2_link_44 : decode cX2_link 44 = .ok (.iload_n 1, 1) := by decide +kernel
theorem dX2_link_45 : decode cX2_link 45 = .ok (.iload_n 2, 1) := by decide +kernel
theorem dX2_link_46 : decode cX2_link 46 = .ok (.invokevirtual 82, 3) := by decide +kernel
theorem dX2_link_49 : decode cX2_link 49 = .ok (.ifCond .eq 13, 3) := by decide +kernel
theorem dX2_link_52 : decode cX2_link 52 = .ok (.new 60, 3) := by decide +kernel
theorem dX2_link_55 : decode cX2_link 55 = .ok (.dup, 1) := by decide +kernel
theorem dX2_link_56 : decode cX2_link 56 = .ok (.ldc 86, 2) := by decide +kernel
theorem dX2_link_58 : decode cX2_link 58 = .ok (.invokespecial 64, 3) := by decide +kernel
theorem dX2_link_61 : decode cX2_link 61 = .ok (.athrow, 1) := by decide +kernel
theorem dX2_link_62 : decode cX2_link 62 = .ok (.aload_n 0, 1) := by decide +kernel
theorem dX2_link_63 : decode cX2_link 63 = .ok (.getfield 32, 3) := by decide +kernel
theorem dX2_link_66 : decode cX2_link 66 = .ok (.iload_n 1, 1) := by decide +kernel
theorem dX2_link_67 : decode cX2_link 67 = .ok (.iload_n 2, 1) := by decide +kernel
theorem dX2_link_68 : decode cX2_link 68 = .ok (.iload_n 3, 1) := by decide +kernel
theorem dX2_link_69 : decode cX2_link 69 = .ok (.iload 4, 2) := by decide +kernel
theorem dX2_link_71 : decode cX2_link 71 = .ok (.invokevirtual 88, 3) := by decide +kernel
theorem dX2_link_74 : decode cX2_link 74 = .ok (.aload_n 0, 1) := by decide +kernel
theorem dX2_link_75 : decode cX2_link 75 = .ok (.getfield 32, 3) := by decide +kernel
theorem dX2_link_78 : decode cX2_link 78 = .ok (.getfield 92, 3) := by decide +kernel
theorem dX2_link_81 : decode cX2_link 81 = .ok (.ireturn, 1) := by decide +kernel
set_option maxRecDepth 20000 in
theorem ggX2_cut_X2_requireNode : GoodIn wsX2_cut wsX2_requireNode := goodIn_ca (goodIn_sub (List.forall_mem_cons.mpr ⟨wk_wsX2_cut_0_5, (fun w h => (List.mem_append.mp h).elim ((List.forall_mem_cons.mpr ⟨wk_wsX2_cut_0_6, List.forall_mem_cons.mpr ⟨wk_wsX2_cut_0_7, List.forall_mem_cons.mpr ⟨wk_wsX2_cut_0_8, List.forall_mem_cons.mpr ⟨wk_wsX2_cut_0_9, List.forall_mem_cons.mpr ⟨wk_wsX2_cut_0_10, List.forall_mem_cons.mpr ⟨wk_wsX2_cut_0_4, List.forall_mem_cons.mpr ⟨wk_wsX2_cut_0_11, List.forall_mem_cons.mpr ⟨wk_wsX2_cut_0_12, fun _ h => absurd h List.not_mem_nil⟩⟩⟩⟩⟩⟩⟩⟩) w) (lf_wsX2_cut_3 w))⟩) (by decide +kernel)) (goodIn_sub (fun _ h => List.mem_cons_of_mem _ (List.mem_append_left _ (List.mem_append_right _ h))) (by decide +kernel))
set_option maxRecDepth 20000 in
theorem gX2_cut_X2_requireNode : GoodIn wsX2_cut (wsV RX2 71 RX2 yX2_requireNode wsX2_requireNode) := goodIn_app (goodIn_sub (List.forall_mem_cons.mpr ⟨wk_wsX2_cut_0_1, List.forall_mem_cons.mpr ⟨wk_wsX2_cut_0_2, List.forall_mem_cons.mpr ⟨wk_wsX2_cut_0_3, List.forall_mem_cons.mpr ⟨wk_wsX2_cut_0_4, fun _ h => absurd h List.not_mem_nil⟩⟩⟩⟩) (by decide +kernel)) ggX2_cut_X2_requireNode
set_option maxRecDepth 20000 in
theorem ggX2_cut_X2_requireLinked : GoodIn wsX2_cut wsX2_requireLinked := goodIn_ca (goodIn_sub (List.forall_mem_cons.mpr ⟨wk_wsX2_cut_0_16, (fun w h => (List.mem_append.mp h).elim ((fun w h => (List.mem_append.mp h).elim ((List.forall_mem_cons.mpr ⟨wk_wsX2_cut_0_17, List.forall_mem_cons.mpr ⟨wk_wsX2_cut_0_18, List.forall_mem_cons.mpr ⟨wk_wsX2_cut_0_0, List.forall_mem_cons.mpr ⟨wk_wsX2_cut_0_19, List.forall_mem_cons.mpr ⟨wk_wsX2_cut_0_20, List.forall_mem_cons.mpr ⟨wk_wsX2_cut_0_21, List.forall_mem_cons.mpr ⟨wk_wsX2_cut_0_22, List.forall_mem_cons.mpr ⟨wk_wsX2_cut_0_23, List.forall_mem_cons.mpr ⟨wk_wsX2_cut_1_0, List.forall_mem_cons.mpr ⟨wk_wsX2_cut_1_1, List.forall_mem_cons.mpr ⟨wk_wsX2_cut_1_2, fun _ h => absurd h List.not_mem_nil⟩⟩⟩⟩⟩⟩⟩⟩⟩⟩⟩) w) (lf_wsX2_cut_3 w)) w) (lf_wsX2_cut_4 w))⟩) (by decide +kernel)) (goodIn_sub (fun _ h => List.mem_cons_of_mem _ (List.mem_append_right _ h)) (by decide +kernel))
set_option maxRecDepth 20000 in
theorem gX2_cut_X2_requireLinked : GoodIn wsX2_cut (wsV RX2 95 RX2 yX2_requireLinked wsX2_requireLinked) := goodIn_app (goodIn_sub (List.forall_mem_cons.mpr ⟨wk_wsX2_cut_0_13, List.forall_mem_cons.mpr ⟨wk_wsX2_cut_0_14, List.forall_mem_cons.mpr ⟨wk_wsX2_cut_0_15, List.forall_mem_cons.mpr ⟨wk_wsX2_cut_0_4, fun _ h => absurd h List.not_mem_nil⟩⟩⟩⟩) (by decide +kernel)) ggX2_cut_X2_requireLinked
set_option maxRecDepth 20000 in
theorem ggX2_cut_X1_remove : GoodIn wsX2_cut wsX1_remove := goodIn_sub (List.forall_mem_cons.mpr ⟨wk_wsX2_cut_1_5, (fun w h => (List.mem_append.mp h).elim ((List.forall_mem_cons.mpr ⟨wk_wsX2_cut_0_23, List.forall_mem_cons.mpr ⟨wk_wsX2_cut_1_6, List.forall_mem_cons.mpr ⟨wk_wsX2_cut_1_0, List.forall_mem_cons.mpr ⟨wk_wsX2_cut_1_1, List.forall_mem_cons.mpr ⟨wk_wsX2_cut_0_20, List.forall_mem_cons.mpr ⟨wk_wsX2_cut_1_2, fun _ h => absurd h List.not_mem_nil⟩⟩⟩⟩⟩⟩) w) (lf_wsX2_cut_4 w))⟩) (by decide +kernel)
set_option maxRecDepth 20000 in
theorem gX2_cut_X1_remove_n99 : GoodIn wsX2_cut (wsX1_remove) := ggX2_cut_X1_remove
set_option maxRecDepth 20000 in
theorem ggX2_cut_X2_forgetParent : GoodIn wsX2_cut wsX2_forgetParent := goodIn_sub (List.forall_mem_cons.mpr ⟨wk_wsX2_cut_1_10, (fun w h => (List.mem_append.mp h).elim ((fun w h => (List.mem_append.mp h).elim ((List.forall_mem_cons.mpr ⟨wk_wsX2_cut_1_11, List.forall_mem_cons.mpr ⟨wk_wsX2_cut_1_12, List.forall_mem_cons.mpr ⟨wk_wsX2_cut_1_13, List.forall_mem_cons.mpr ⟨wk_wsX2_cut_1_14, List.forall_mem_cons.mpr ⟨wk_wsX2_cut_0_4, List.forall_mem_cons.mpr ⟨wk_wsX2_cut_1_15, List.forall_mem_cons.mpr ⟨wk_wsX2_cut_1_16, List.forall_mem_cons.mpr ⟨wk_wsX2_cut_1_17, List.forall_mem_cons.mpr ⟨wk_wsX2_cut_1_18, List.forall_mem_cons.mpr ⟨wk_wsX2_cut_1_19, List.forall_mem_cons.mpr ⟨wk_wsX2_cut_1_20, List.forall_mem_cons.mpr ⟨wk_wsX2_cut_1_21, List.forall_mem_cons.mpr ⟨wk_wsX2_cut_1_22, List.forall_mem_cons.mpr ⟨wk_wsX2_cut_1_23, List.forall_mem_cons.mpr ⟨wk_wsX2_cut_2_0, List.forall_mem_cons.mpr ⟨wk_wsX2_cut_2_1, List.forall_mem_cons.mpr ⟨wk_wsX2_cut_2_2, List.forall_mem_cons.mpr ⟨wk_wsX2_cut_2_3, List.forall_mem_cons.mpr ⟨wk_wsX2_cut_2_4, List.forall_mem_cons.mpr ⟨wk_wsX2_cut_2_5, fun _ h => absurd h List.not_mem_nil⟩⟩⟩⟩⟩⟩⟩⟩⟩⟩⟩⟩⟩⟩⟩⟩⟩⟩⟩⟩) w) (lf_wsX2_cut_3 w)) w) (lf_wsX2_cut_5 w))⟩) (by decide +kernel)
set_option maxRecDepth 20000 in
theorem gX2_cut_X2_forgetParent : GoodIn wsX2_cut (wsV RX2 102 RX2 yX2_forgetParent wsX2_forgetParent) := goodIn_app (goodIn_sub (List.forall_mem_cons.mpr ⟨wk_wsX2_cut_1_7, List.forall_mem_cons.mpr ⟨wk_wsX2_cut_1_8, List.forall_mem_cons.mpr ⟨wk_wsX2_cut_1_9, List.forall_mem_cons.mpr ⟨wk_wsX2_cut_0_4, fun _ h => absurd h List.not_mem_nil⟩⟩⟩⟩) (by decide +kernel)) ggX2_cut_X2_forgetParent
theorem dX2_cut_0 : decode cX2_cut 0 = .ok (.aload_n 0, 1) := by decide +kernel
theorem dX2_cut_1 : decode cX2_cut 1 = .ok (.iload_n 1, 1) := by decide +kernel
theorem dX2_cut_2 : decode cX2_cut 2 = .ok (.invokevirtual 71, 3) := by decide +kernel
theorem dX2_cut_5 : decode cX2_cut 5 = .ok (.aload_n 0, 1) := by decide +kernel
theorem dX2_cut_6 : decode cX2_cut 6 = .ok (.iload_n 2, 1) := by decide +kernel
theorem dX2_cut_7 : decode cX2_cut 7 = .ok (.invokevirtual 71, 3) := by decide +kernel
theorem dX2_cut_10 : decode cX2_cut 10 = .ok (.aload_n 0, 1) := by decide +kernel
theorem dX2_cut_11 : decode cX2_cut 11 = .ok (.iload_n 1, 1) := by decide +kernel
theorem dX2_cut_12 : decode cX2_cut 12 = .ok (.iload_n 2, 1) := by decide +kernel
theorem dX2_cut_13 : decode cX2_cut 13 = .ok (.invokevirtual 95, 3) := by decide +kernel
theorem dX2_cut_16 : decode cX2_cut 16 = .ok (.aload_n 0, 1) := by decide +kernel
theorem dX2_cut_17 : decode cX2_cut 17 = .ok (.getfield 32, 3) := by decide +kernel
theorem dX2_cut_20 : decode cX2_cut 20 = .ok (.iload_n 1, 1) := by decide +kernel
theorem dX2_cut_21 : decode cX2_cut 21 = .ok (.iload_n 2, 1) := by decide +kernel
theorem dX2_cut_22 : decode cX2_cut 22 = .ok (.invokevirtual 99, 3) := by decide +kernel
theorem dX2_cut_25 : decode cX2_cut 25 = .ok (.aload_n 0, 1) := by decide +kernel
theorem dX2_cut_26 : decode cX2_cut 26 = .ok (.iload_n 1, 1) := by decide +kernel
theorem dX2_cut_27 : decode cX2_cut 27 = .ok (.iload_n 2, 1) := by decide +kernel
theorem dX2_cut_28 : decode cX2_cut 28 = .ok (.invokevirtual 102, 3) := by decide +kernel
theorem dX2_cut_31 : decode cX2_cut 31 = .ok (.aload_n 0, 1) := by decide +kernel
theorem dX2_cut_32 : decode cX2_cut 32 = .ok (.iload_n 2, 1) := by decide +kernel
theorem dX2_cut_33 : decode cX2_cut 33 = .ok (.iload_n 1, 1) := by decide +kernel
theorem dX2_cut_34 : decode cX2_cut 34 = .ok (.invokevirtual 102, 3) := by decide +kernel
theorem dX2_cut_37 : decode cX2_cut 37 = .ok (.aload_n 0, 1) := by decide +kernel
theorem dX2_cut_38 : decode cX2_cut 38 = .ok (.getfield 32, 3) := by decide +kernel
theorem dX2_cut_41 : decode cX2_cut 41 = .ok (.getfield 92, 3) := by decide +kernel
theorem dX2_cut_44 : decode cX2_cut 44 = .ok (.ireturn, 1) := by decide +kernel
set_option maxRecDepth 20000 in
theorem ggX2_tell_X2_requireNode : GoodIn wsX2_tell wsX2_requireNode := goodIn_ca (goodIn_sub (List.forall_mem_cons.mpr ⟨wk_wsX2_tell_0_7, (fun w h => (List.mem_append.mp h).elim ((List.forall_mem_cons.mpr ⟨wk_wsX2_tell_0_8, List.forall_mem_cons.mpr ⟨wk_wsX2_tell_0_9, List.forall_mem_cons.mpr ⟨wk_wsX2_tell_0_10, List.forall_mem_cons.mpr ⟨wk_wsX2_tell_0_11, List.forall_mem_cons.mpr ⟨wk_wsX2_tell_0_12, List.forall_mem_cons.mpr ⟨wk_wsX2_tell_0_6, List.forall_mem_cons.mpr ⟨wk_wsX2_tell_0_13, List.forall_mem_cons.mpr ⟨wk_wsX2_tell_0_14, fun _ h => absurd h List.not_mem_nil⟩⟩⟩⟩⟩⟩⟩⟩) w) (lf_wsX2_tell_2 w))⟩) (by decide +kernel)) (goodIn_sub (fun _ h => List.mem_cons_of_mem _ (List.mem_append_left _ (List.mem_append_left _ (List.mem_append_right _ h)))) (by decide +kernel))
set_option maxRecDepth 20000 in
theorem gX2_tell_X2_requireNode : GoodIn wsX2_tell (wsV RX2 71 RX2 yX2_requireNode wsX2_requireNode) := goodIn_app (goodIn_sub (List.forall_mem_cons.mpr ⟨wk_wsX2_tell_0_3, List.forall_mem_cons.mpr ⟨wk_wsX2_tell_0_4, List.forall_mem_cons.mpr ⟨wk_wsX2_tell_0_5, List.forall_mem_cons.mpr ⟨wk_wsX2_tell_0_6, fun _ h => absurd h List.not_mem_nil⟩⟩⟩⟩) (by decide +kernel)) ggX2_tell_X2_requireNode
set_option maxRecDepth 20000 in
theorem ggX2_tell_X2_requireWithin : GoodIn wsX2_tell wsX2_requireWithin := goodIn_ca (goodIn_sub (List.forall_mem_cons.mpr ⟨wk_wsX2_tell_0_17, (List.forall_mem_cons.mpr ⟨wk_wsX2_tell_0_18, List.forall_mem_cons.mpr ⟨wk_wsX2_tell_0_19, fun _ h => absurd h List.not_mem_nil⟩⟩)⟩) (by decide +kernel)) (goodIn_sub (fun _ h => List.mem_cons_of_mem _ (List.mem_append_left _ (List.mem_append_right _ h))) (by decide +kernel))
set_option maxRecDepth 20000 in
theorem gX2_tell_X2_requireWithin : GoodIn wsX2_tell (va_wsS RX2 56 yX2_requireWithin wsX2_requireWithin) := goodIn_app (goodIn_sub (List.forall_mem_cons.mpr ⟨wk_wsX2_tell_0_15, List.forall_mem_cons.mpr ⟨wk_wsX2_tell_0_16, List.forall_mem_cons.mpr ⟨wk_wsX2_tell_0_6, fun _ h => absurd h List.not_mem_nil⟩⟩⟩) (by decide +kernel)) ggX2_tell_X2_requireWithin
set_option maxRecDepth 20000 in
theorem ggX2_tell_X2_requireLinked : GoodIn wsX2_tell wsX2_requireLinked := goodIn_ca (goodIn_sub (List.forall_mem_cons.mpr ⟨wk_wsX2_tell_0_23, (fun w h => (List.mem_append.mp h).elim ((fun w h => (List.mem_append.mp h).elim ((List.forall_mem_cons.mpr ⟨wk_wsX2_tell_1_0, List.forall_mem_cons.mpr ⟨wk_wsX2_tell_1_1, List.forall_mem_cons.mpr ⟨wk_wsX2_tell_0_2, List.forall_mem_cons.mpr ⟨wk_wsX2_tell_1_2, List.forall_mem_cons.mpr ⟨wk_wsX2_tell_1_3, List.forall_mem_cons.mpr ⟨wk_wsX2_tell_1_4, List.forall_mem_cons.mpr ⟨wk_wsX2_tell_1_5, List.forall_mem_cons.mpr ⟨wk_wsX2_tell_1_6, List.forall_mem_cons.mpr ⟨wk_wsX2_tell_1_7, List.forall_mem_cons.mpr ⟨wk_wsX2_tell_1_8, List.forall_mem_cons.mpr ⟨wk_wsX2_tell_1_9, fun _ h => absurd h List.not_mem_nil⟩⟩⟩⟩⟩⟩⟩⟩⟩⟩⟩) w) (lf_wsX2_tell_2 w)) w) (lf_wsX2_tell_3 w))⟩) (by decide +kernel)) (goodIn_sub (fun _ h => List.mem_cons_of_mem _ (List.mem_append_right _ h)) (by decide +kernel))
set_option maxRecDepth 20000 in
theorem gX2_tell_X2_requireLinked : GoodIn wsX2_tell (wsV RX2 95 RX2 yX2_requireLinked wsX2_requireLinked) := goodIn_app (goodIn_sub (List.forall_mem_cons.mpr ⟨wk_wsX2_tell_0_20, List.forall_mem_cons.mpr ⟨wk_wsX2_tell_0_21, List.forall_mem_cons.mpr ⟨wk_wsX2_tell_0_22, List.forall_mem_cons.mpr ⟨wk_wsX2_tell_0_6, fun _ h => absurd h List.not_mem_nil⟩⟩⟩⟩) (by decide +kernel)) ggX2_tell_X2_requireLinked
set_option maxRecDepth 20000 in
theorem ggX2_tell_X1_noteDifference : GoodIn wsX2_tell wsX1_noteDifference := goodIn_sub (List.forall_mem_cons.mpr ⟨wk_wsX2_tell_1_12, (fun w h => (List.mem_append.mp h).elim ((List.forall_mem_cons.mpr ⟨wk_wsX2_tell_1_13, List.forall_mem_cons.mpr ⟨wk_wsX2_tell_1_7, List.forall_mem_cons.mpr ⟨wk_wsX2_tell_1_8, List.forall_mem_cons.mpr ⟨wk_wsX2_tell_1_3, List.forall_mem_cons.mpr ⟨wk_wsX2_tell_1_9, fun _ h => absurd h List.not_mem_nil⟩⟩⟩⟩⟩) w) (lf_wsX2_tell_3 w))⟩) (by decide +kernel)
set_option maxRecDepth 20000 in
theorem gX2_tell_X1_noteDifference_n106 : GoodIn wsX2_tell (wsX1_noteDifference) := ggX2_tell_X1_noteDifference
theorem dX2_tell_0 : decode cX2_tell 0 = .ok (.aload_n 0, 1) := by decide +kernel
theorem dX2_tell_1 : decode cX2_tell 1 = .ok (.iload_n 1, 1) := by decide +kernel
theorem dX2_tell_2 : decode cX2_tell 2 = .ok (.invokevirtual 71, 3) := by decide +kernel
theorem dX2_tell_5 : decode cX2_tell 5 = .ok (.aload_n 0, 1) := by decide +kernel
theorem dX2_tell_6 : decode cX2_tell 6 = .ok (.iload_n 2, 1) := by decide +kernel
theorem dX2_tell_7 : decode cX2_tell 7 = .ok (.invokevirtual 71, 3) := by decide +kernel
theorem dX2_tell_10 : decode cX2_tell 10 = .ok (.iload_n 3, 1) := by decide +kernel
theorem dX2_tell_11 : decode cX2_tell 11 = .ok (.ldc 105, 2) := by decide +kernel
theorem dX2_tell_13 : decode cX2_tell 13 = .ok (.ldc 81, 2) := by decide +kernel
theorem dX2_tell_15 : decode cX2_tell 15 = .ok (.invokestatic 56, 3) := by decide +kernel
theorem dX2_tell_18 : decode cX2_tell 18 = .ok (.aload_n 0, 1) := by decide +kernel
theorem dX2_tell_19 : decode cX2_tell 19 = .ok (.iload_n 1, 1) := by decide +kernel
theorem dX2_tell_20 : decode cX2_tell 20 = .ok (.iload_n 2, 1) := by decide +kernel
theorem dX2_tell_21 : decode cX2_tell 21 = .ok (.invokevirtual 95, 3) := by decide +kernel
theorem dX2_tell_24 : decode cX2_tell 24 = .ok (.aload_n 0, 1) := by decide +kernel
theorem dX2_tell_25 : decode cX2_tell 25 = .ok (.getfield 32, 3) := by decide +kernel
theorem dX2_tell_28 : decode cX2_tell 28 = .ok (.iload_n 1, 1) := by decide +kernel
theorem dX2_tell_29 : decode cX2_tell 29 = .ok (.iload_n 2, 1) := by decide +kernel
theorem dX2_tell_30 : decode cX2_tell 30 = .ok (.iload_n 3, 1) := by decide +kernel
theorem dX2_tell_31 : decode cX2_tell 31 = .ok (.invokevirtual 106, 3) := by decide +kernel
theorem dX2_tell_34 : decode cX2_tell 34 = .ok (.ireturn, 1) := by decide +kernel
set_option maxRecDepth 20000 in
theorem ggX2_tick_X2_requireWithin : GoodIn wsX2_tick wsX2_requireWithin := goodIn_ca (goodIn_sub (List.forall_mem_cons.mpr ⟨wk_wsX2_tick_0_4, (List.forall_mem_cons.mpr ⟨wk_wsX2_tick_0_5, List.forall_mem_cons.mpr ⟨wk_wsX2_tick_0_6, fun _ h => absurd h List.not_mem_nil⟩⟩)⟩) (by decide +kernel)) (goodIn_sub (fun _ h => List.mem_cons_of_mem _ (List.mem_append_right _ h)) (by decide +kernel))
set_option maxRecDepth 20000 in
theorem gX2_tick_X2_requireWithin : GoodIn wsX2_tick (va_wsS RX2 56 yX2_requireWithin wsX2_requireWithin) := goodIn_app (goodIn_sub (List.forall_mem_cons.mpr ⟨wk_wsX2_tick_0_1, List.forall_mem_cons.mpr ⟨wk_wsX2_tick_0_2, List.forall_mem_cons.mpr ⟨wk_wsX2_tick_0_3, fun _ h => absurd h List.not_mem_nil⟩⟩⟩) (by decide +kernel)) ggX2_tick_X2_requireWithin
set_option maxRecDepth 20000 in
theorem ggX2_tick_X2_passOneTick : GoodIn wsX2_tick wsX2_passOneTick := goodIn_sub (List.forall_mem_cons.mpr ⟨wk_wsX2_tick_0_10, (fun w h => (List.mem_append.mp h).elim ((fun w h => (List.mem_append.mp h).elim ((fun w h => (List.mem_append.mp h).elim ((fun w h => (List.mem_append.mp h).elim (wsX2_passOneTick_r1_of_wsX2_tick w) ((fun w h => (List.mem_append.mp h).elim (wsX2_passOneTick_r2_of_wsX2_tick w) (wsX2_passOneTick_r3_of_wsX2_tick w)) w)) w) (lf_wsX2_tick_4 w)) w) (lf_wsX2_tick_5 w)) w) (lf_wsX2_tick_6 w))⟩) (by decide +kernel)
set_option maxRecDepth 20000 in
theorem gX2_tick_X2_passOneTick : GoodIn wsX2_tick (wsV RX2 110 RX2 yX2_passOneTick wsX2_passOneTick) := goodIn_app (goodIn_sub (List.forall_mem_cons.mpr ⟨wk_wsX2_tick_0_7, List.forall_mem_cons.mpr ⟨wk_wsX2_tick_0_8, List.forall_mem_cons.mpr ⟨wk_wsX2_tick_0_9, List.forall_mem_cons.mpr ⟨wk_wsX2_tick_0_3, fun _ h => absurd h List.not_mem_nil⟩⟩⟩⟩) (by decide +kernel)) ggX2_tick_X2_passOneTick
theorem dX2_tick_0 : decode cX2_tick 0 = .ok (.iload_n 1, 1) := by decide +kernel
theorem dX2_tick_1 : decode cX2_tick 1 = .ok (.iconst 1, 1) := by decide +kernel
theorem dX2_tick_2 : decode cX2_tick 2 = .ok (.bipush 50, 2) := by decide +kernel
theorem dX2_tick_4 : decode cX2_tick 4 = .ok (.invokestatic 56, 3) := by decide +kernel
theorem dX2_tick_7 : decode cX2_tick 7 = .ok (.iconst 0, 1) := by decide +kernel
theorem dX2_tick_8 : decode cX2_tick 8 = .ok (.istore_n 2, 1) := by decide +kernel
theorem dX2_tick_9 : decode cX2_tick 9 = .ok (.iload_n 2, 1) := by decide +kernel
theorem dX2_tick_10 : decode cX2_tick 10 = .ok (.iload_n 1, 1) := by decide +kernel
theorem dX2_tick_11 : decode cX2_tick 11 = .ok (.if_icmp .ge 13, 3) := by decide +kernel
theorem dX2_tick_14 : decode cX2_tick 14 = .ok (.aload_n 0, 1) := by decide +kernel
theorem dX2_tick_15 : decode cX2_tick 15 = .ok (.invokevirtual 110, 3) := by decide +kernel
theorem dX2_tick_18 : decode cX2_tick 18 = .ok (.iinc 2 1, 3) := by decide +kernel
theorem dX2_tick_21 : decode cX2_tick 21 = .ok (.goto (-12), 3) := by decide +kernel
theorem dX2_tick_24 : decode cX2_tick 24 = .ok (.aload_n 0, 1) := by decide +kernel
theorem dX2_tick_25 : decode cX2_tick 25 = .ok (.dup, 1) := by decide +kernel
theorem dX2_tick_26 : decode cX2_tick 26 = .ok (.getfield 53, 3) := by decide +kernel
theorem dX2_tick_29 : decode cX2_tick 29 = .ok (.iload_n 1, 1) := by decide +kernel
theorem dX2_tick_30 : decode cX2_tick 30 = .ok (.iadd, 1) := by decide +kernel
theorem dX2_tick_31 : decode cX2_tick 31 = .ok (.putfield 53, 3) := by decide +kernel
theorem dX2_tick_34 : decode cX2_tick 34 = .ok (.aload_n 0, 1) := by decide +kernel
theorem dX2_tick_35 : decode cX2_tick 35 = .ok (.getfield 53, 3) := by decide +kernel
theorem dX2_tick_38 : decode cX2_tick 38 = .ok (.ireturn, 1) := by decide +kernel
theorem dX2_nodes_0 : decode cX2_nodes 0 = .ok (.aload_n 0, 1) := by decide +kernel
theorem dX2_nodes_1 : decode cX2_nodes 1 = .ok (.getfield 49, 3) := by decide +kernel
theorem dX2_nodes_4 : decode cX2_nodes 4 = .ok (.ireturn, 1) := by decide +kernel
theorem dX2_links_0 : decode cX2_links 0 = .ok (.aload_n 0, 1) := by decide +kernel
theorem dX2_links_1 : decode cX2_links 1 = .ok (.getfield 32, 3) := by decide +kernel
theorem dX2_links_4 : decode cX2_links 4 = .ok (.getfield 92, 3) := by decide +kernel
theorem dX2_links_7 : decode cX2_links 7 = .ok (.ireturn, 1) := by decide +kernel
set_option maxRecDepth 20000 in
theorem ggX2_best_X2_requireNode : GoodIn wsX2_best wsX2_requireNode := goodIn_ca (goodIn_sub (List.forall_mem_cons.mpr ⟨wk_wsX2_best_0_5, (fun w h => (List.mem_append.mp h).elim ((List.forall_mem_cons.mpr ⟨wk_wsX2_best_0_6, List.forall_mem_cons.mpr ⟨wk_wsX2_best_0_7, List.forall_mem_cons.mpr ⟨wk_wsX2_best_0_8, List.forall_mem_cons.mpr ⟨wk_wsX2_best_0_9, List.forall_mem_cons.mpr ⟨wk_wsX2_best_0_10, List.forall_mem_cons.mpr ⟨wk_wsX2_best_0_4, List.forall_mem_cons.mpr ⟨wk_wsX2_best_0_11, List.forall_mem_cons.mpr ⟨wk_wsX2_best_0_12, fun _ h => absurd h List.not_mem_nil⟩⟩⟩⟩⟩⟩⟩⟩) w) (lf_wsX2_best_1 w))⟩) (by decide +kernel)) (goodIn_sub (fun _ h => List.mem_cons_of_mem _ (List.mem_append_right _ h)) (by decide +kernel))
set_option maxRecDepth 20000 in
theorem gX2_best_X2_requireNode : GoodIn wsX2_best (wsV RX2 71 RX2 yX2_requireNode wsX2_requireNode) := goodIn_app (goodIn_sub (List.forall_mem_cons.mpr ⟨wk_wsX2_best_0_1, List.forall_mem_cons.mpr ⟨wk_wsX2_best_0_2, List.forall_mem_cons.mpr ⟨wk_wsX2_best_0_3, List.forall_mem_cons.mpr ⟨wk_wsX2_best_0_4, fun _ h => absurd h List.not_mem_nil⟩⟩⟩⟩) (by decide +kernel)) ggX2_best_X2_requireNode
theorem dX2_best_0 : decode cX2_best 0 = .ok (.aload_n 0, 1) := by decide +kernel
theorem dX2_best_1 : decode cX2_best 1 = .ok (.iload_n 1, 1) := by decide +kernel
theorem dX2_best_2 : decode cX2_best 2 = .ok (.invokevirtual 71, 3) := by decide +kernel
theorem dX2_best_5 : decode cX2_best 5 = .ok (.aload_n 0, 1) := by decide +kernel
theorem dX2_best_6 : decode cX2_best 6 = .ok (.getfield 39, 3) := by decide +kernel
theorem dX2_best_9 : decode cX2_best 9 = .ok (.getfield 113, 3) := by decide +kernel
theorem dX2_best_12 : decode cX2_best 12 = .ok (.iload_n 1, 1) := by decide +kernel
theorem dX2_best_13 : decode cX2_best 13 = .ok (.iaload, 1) := by decide +kernel
theorem dX2_best_14 : decode cX2_best 14 = .ok (.ireturn, 1) := by decide +kernel
set_option maxRecDepth 20000 in
theorem ggX2_steps_X2_requireNode : GoodIn wsX2_steps wsX2_requireNode := goodIn_ca (goodIn_sub (List.forall_mem_cons.mpr ⟨wk_wsX2_steps_0_5, (fun w h => (List.mem_append.mp h).elim ((List.forall_mem_cons.mpr ⟨wk_wsX2_steps_0_6, List.forall_mem_cons.mpr ⟨wk_wsX2_steps_0_7, List.forall_mem_cons.mpr ⟨wk_wsX2_steps_0_8, List.forall_mem_cons.mpr ⟨wk_wsX2_steps_0_9, List.forall_mem_cons.mpr ⟨wk_wsX2_steps_0_10, List.forall_mem_cons.mpr ⟨wk_wsX2_steps_0_4, List.forall_mem_cons.mpr ⟨wk_wsX2_steps_0_11, List.forall_mem_cons.mpr ⟨wk_wsX2_steps_0_12, fun _ h => absurd h List.not_mem_nil⟩⟩⟩⟩⟩⟩⟩⟩) w) (lf_wsX2_steps_1 w))⟩) (by decide +kernel)) (goodIn_sub (fun _ h => List.mem_cons_of_mem _ (List.mem_append_right _ h)) (by decide +kernel))
set_option maxRecDepth 20000 in
theorem gX2_steps_X2_requireNode : GoodIn wsX2_steps (wsV RX2 71 RX2 yX2_requireNode wsX2_requireNode) := goodIn_app (goodIn_sub (List.forall_mem_cons.mpr ⟨wk_wsX2_steps_0_1, List.forall_mem_cons.mpr ⟨wk_wsX2_steps_0_2, List.forall_mem_cons.mpr ⟨wk_wsX2_steps_0_3, List.forall_mem_cons.mpr ⟨wk_wsX2_steps_0_4, fun _ h => absurd h List.not_mem_nil⟩⟩⟩⟩) (by decide +kernel)) ggX2_steps_X2_requireNode
theorem dX2_steps_0 : decode cX2_steps 0 = .ok (.aload_n 0, 1) := by decide +kernel
theorem dX2_steps_1 : decode cX2_steps 1 = .ok (.iload_n 1, 1) := by decide +kernel
theorem dX2_steps_2 : decode cX2_steps 2 = .ok (.invokevirtual 71, 3) := by decide +kernel
theorem dX2_steps_5 : decode cX2_steps 5 = .ok (.aload_n 0, 1) := by decide +kernel
theorem dX2_steps_6 : decode cX2_steps 6 = .ok (.getfield 39, 3) := by decide +kernel
theorem dX2_steps_9 : decode cX2_steps 9 = .ok (.getfield 116, 3) := by decide +kernel
theorem dX2_steps_12 : decode cX2_steps 12 = .ok (.iload_n 1, 1) := by decide +kernel
theorem dX2_steps_13 : decode cX2_steps 13 = .ok (.iaload, 1) := by decide +kernel
theorem dX2_steps_14 : decode cX2_steps 14 = .ok (.ireturn, 1) := by decide +kernel
set_option maxRecDepth 20000 in
theorem ggX2_parent_X2_requireNode : GoodIn wsX2_parent wsX2_requireNode := goodIn_ca (goodIn_sub (List.forall_mem_cons.mpr ⟨wk_wsX2_parent_0_5, (fun w h => (List.mem_append.mp h).elim ((List.forall_mem_cons.mpr ⟨wk_wsX2_parent_0_6, List.forall_mem_cons.mpr ⟨wk_wsX2_parent_0_7, List.forall_mem_cons.mpr ⟨wk_wsX2_parent_0_8, List.forall_mem_cons.mpr ⟨wk_wsX2_parent_0_9, List.forall_mem_cons.mpr ⟨wk_wsX2_parent_0_10, List.forall_mem_cons.mpr ⟨wk_wsX2_parent_0_4, List.forall_mem_cons.mpr ⟨wk_wsX2_parent_0_11, List.forall_mem_cons.mpr ⟨wk_wsX2_parent_0_12, fun _ h => absurd h List.not_mem_nil⟩⟩⟩⟩⟩⟩⟩⟩) w) (lf_wsX2_parent_1 w))⟩) (by decide +kernel)) (goodIn_sub (fun _ h => List.mem_cons_of_mem _ (List.mem_append_right _ h)) (by decide +kernel))
set_option maxRecDepth 20000 in
theorem gX2_parent_X2_requireNode : GoodIn wsX2_parent (wsV RX2 71 RX2 yX2_requireNode wsX2_requireNode) := goodIn_app (goodIn_sub (List.forall_mem_cons.mpr ⟨wk_wsX2_parent_0_1, List.forall_mem_cons.mpr ⟨wk_wsX2_parent_0_2, List.forall_mem_cons.mpr ⟨wk_wsX2_parent_0_3, List.forall_mem_cons.mpr ⟨wk_wsX2_parent_0_4, fun _ h => absurd h List.not_mem_nil⟩⟩⟩⟩) (by decide +kernel)) ggX2_parent_X2_requireNode
theorem dX2_parent_0 : decode cX2_parent 0 = .ok (.aload_n 0, 1) := by decide +kernel
theorem dX2_parent_1 : decode cX2_parent 1 = .ok (.iload_n 1, 1) := by decide +kernel
theorem dX2_parent_2 : decode cX2_parent 2 = .ok (.invokevirtual 71, 3) := by decide +kernel
theorem dX2_parent_5 : decode cX2_parent 5 = .ok (.aload_n 0, 1) := by decide +kernel
theorem dX2_parent_6 : decode cX2_parent 6 = .ok (.getfield 39, 3) := by decide +kernel
theorem dX2_parent_9 : decode cX2_parent 9 = .ok (.getfield 119, 3) := by decide +kernel
theorem dX2_parent_12 : decode cX2_parent 12 = .ok (.iload_n 1, 1) := by decide +kernel
theorem dX2_parent_13 : decode cX2_parent 13 = .ok (.iaload, 1) := by decide +kernel
theorem dX2_parent_14 : decode cX2_parent 14 = .ok (.ireturn, 1) := by decide +kernel
set_option maxRecDepth 20000 in
theorem ggX2_port_X2_requireNode : GoodIn wsX2_port wsX2_requireNode := goodIn_ca (goodIn_sub (List.forall_mem_cons.mpr ⟨wk_wsX2_port_0_5, (fun w h => (List.mem_append.mp h).elim ((List.forall_mem_cons.mpr ⟨wk_wsX2_port_0_6, List.forall_mem_cons.mpr ⟨wk_wsX2_port_0_7, List.forall_mem_cons.mpr ⟨wk_wsX2_port_0_8, List.forall_mem_cons.mpr ⟨wk_wsX2_port_0_9, List.forall_mem_cons.mpr ⟨wk_wsX2_port_0_10, List.forall_mem_cons.mpr ⟨wk_wsX2_port_0_4, List.forall_mem_cons.mpr ⟨wk_wsX2_port_0_11, List.forall_mem_cons.mpr ⟨wk_wsX2_port_0_12, fun _ h => absurd h List.not_mem_nil⟩⟩⟩⟩⟩⟩⟩⟩) w) (lf_wsX2_port_2 w))⟩) (by decide +kernel)) (goodIn_sub (fun _ h => List.mem_cons_of_mem _ (List.mem_append_right _ h)) (by decide +kernel))
set_option maxRecDepth 20000 in
theorem gX2_port_X2_requireNode : GoodIn wsX2_port (wsV RX2 71 RX2 yX2_requireNode wsX2_requireNode) := goodIn_app (goodIn_sub (List.forall_mem_cons.mpr ⟨wk_wsX2_port_0_1, List.forall_mem_cons.mpr ⟨wk_wsX2_port_0_2, List.forall_mem_cons.mpr ⟨wk_wsX2_port_0_3, List.forall_mem_cons.mpr ⟨wk_wsX2_port_0_4, fun _ h => absurd h List.not_mem_nil⟩⟩⟩⟩) (by decide +kernel)) ggX2_port_X2_requireNode
set_option maxRecDepth 20000 in
theorem ggX2_port_X2_areNeighbours : GoodIn wsX2_port wsX2_areNeighbours := goodIn_sub (List.forall_mem_cons.mpr ⟨wk_wsX2_port_0_16, (fun w h => (List.mem_append.mp h).elim ((fun w h => (List.mem_append.mp h).elim ((List.forall_mem_cons.mpr ⟨wk_wsX2_port_0_17, List.forall_mem_cons.mpr ⟨wk_wsX2_port_0_18, List.forall_mem_cons.mpr ⟨wk_wsX2_port_0_19, List.forall_mem_cons.mpr ⟨wk_wsX2_port_0_20, List.forall_mem_cons.mpr ⟨wk_wsX2_port_0_21, List.forall_mem_cons.mpr ⟨wk_wsX2_port_0_22, List.forall_mem_cons.mpr ⟨wk_wsX2_port_0_23, List.forall_mem_cons.mpr ⟨wk_wsX2_port_1_0, List.forall_mem_cons.mpr ⟨wk_wsX2_port_1_1, List.forall_mem_cons.mpr ⟨wk_wsX2_port_1_2, fun _ h => absurd h List.not_mem_nil⟩⟩⟩⟩⟩⟩⟩⟩⟩⟩) w) (lf_wsX2_port_2 w)) w) (lf_wsX2_port_4 w))⟩) (by decide +kernel)
set_option maxRecDepth 20000 in
theorem gX2_port_X2_areNeighbours : GoodIn wsX2_port (wsV RX2 122 RX2 yX2_areNeighbours wsX2_areNeighbours) := goodIn_app (goodIn_sub (List.forall_mem_cons.mpr ⟨wk_wsX2_port_0_13, List.forall_mem_cons.mpr ⟨wk_wsX2_port_0_14, List.forall_mem_cons.mpr ⟨wk_wsX2_port_0_15, List.forall_mem_cons.mpr ⟨wk_wsX2_port_0_4, fun _ h => absurd h List.not_mem_nil⟩⟩⟩⟩) (by decide +kernel)) ggX2_port_X2_areNeighbours
set_option maxRecDepth 20000 in
theorem ggX2_port_X2_isNearer : GoodIn wsX2_port wsX2_isNearer := goodIn_sub (List.forall_mem_cons.mpr ⟨wk_wsX2_port_1_6, (fun w h => (List.mem_append.mp h).elim ((fun w h => (List.mem_append.mp h).elim ((List.forall_mem_cons.mpr ⟨wk_wsX2_port_0_0, fun _ h => absurd h List.not_mem_nil⟩) w) (lf_wsX2_port_2 w)) w) (lf_wsX2_port_3 w))⟩) (by decide +kernel)
set_option maxRecDepth 20000 in
theorem gX2_port_X2_isNearer : GoodIn wsX2_port (wsV RX2 125 RX2 yX2_isNearer wsX2_isNearer) := goodIn_app (goodIn_sub (List.forall_mem_cons.mpr ⟨wk_wsX2_port_1_3, List.forall_mem_cons.mpr ⟨wk_wsX2_port_1_4, List.forall_mem_cons.mpr ⟨wk_wsX2_port_1_5, List.forall_mem_cons.mpr ⟨wk_wsX2_port_0_4, fun _ h => absurd h List.not_mem_nil⟩⟩⟩⟩) (by decide +kernel)) ggX2_port_X2_isNearer
theorem dX2_port_0 : decode cX2_port 0 = .ok (.aload_n 0, 1) := by decide +kernel
theorem dX2_port_1 : decode cX2_port 1 = .ok (.iload_n 1, 1) := by decide +kernel
theorem dX2_port_2 : decode cX2_port 2 = .ok (.invokevirtual 71, 3) := by decide +kernel
theorem dX2_port_5 : decode cX2_port 5 = .ok (.aload_n 0, 1) := by decide +kernel
theorem dX2_port_6 : decode cX2_port 6 = .ok (.iload_n 2, 1) := by decide +kernel
theorem dX2_port_7 : decode cX2_port 7 = .ok (.invokevirtual 71, 3) := by decide +kernel
theorem dX2_port_10 : decode cX2_port 10 = .ok (.aload_n 0, 1) := by decide +kernel
theorem dX2_port_11 : decode cX2_port 11 = .ok (.iload_n 1, 1) := by decide +kernel
theorem dX2_port_12 : decode cX2_port 12 = .ok (.iload_n 2, 1) := by decide +kernel
theorem dX2_port_13 : decode cX2_port 13 = .ok (.invokevirtual 122, 3) := by decide +kernel
theorem dX2_port_16 : decode cX2_port 16 = .ok (.ifCond .ne 5, 3) := by decide +kernel
theorem dX2_port_19 : decode cX2_port 19 = .ok (.iconst 0, 1) := by decide +kernel
theorem dX2_port_20 : decode cX2_port 20 = .ok (.ireturn, 1) := by decide +kernel
theorem dX2_port_21 : decode cX2_port 21 = .ok (.aload_n 0, 1) := by decide +kernel
theorem dX2_port_22 : decode cX2_port 22 = .ok (.getfield 39, 3) := by decide +kernel
theorem dX2_port_25 : decode cX2_port 25 = .ok (.getfield 119, 3) := by decide +kernel
theorem dX2_port_28 : decode cX2_port 28 = .ok (.iload_n 1, 1) := by decide +kernel
theorem dX2_port_29 : decode cX2_port 29 = .ok (.iaload, 1) := by decide +kernel
theorem dX2_port_30 : decode cX2_port 30 = .ok (.iload_n 2, 1) := by decide +kernel
theorem dX2_port_31 : decode cX2_port 31 = .ok (.if_icmp .ne 5, 3) := by decide +kernel
theorem dX2_port_34 : decode cX2_port 34 = .ok (.iconst 1, 1) := by decide +kernel
theorem dX2_port_35 : decode cX2_port 35 = .ok (.ireturn, 1) := by decide +kernel
theorem dX2_port_36 : decode cX2_port 36 = .ok (.aload_n 0, 1) := by decide +kernel
theorem dX2_port_37 : decode cX2_port 37 = .ok (.getfield 39, 3) := by decide +kernel
theorem dX2_port_40 : decode cX2_port 40 = .ok (.getfield 119, 3) := by decide +kernel
theorem dX2_port_43 : decode cX2_port 43 = .ok (.iload_n 2, 1) := by decide +kernel
theorem dX2_port_44 : decode cX2_port 44 = .ok (.iaload, 1) := by decide +kernel
theorem dX2_port_45 : decode cX2_port 45 = .ok (.iload_n 1, 1) := by decide +kernel
theorem dX2_port_46 : decode cX2_port 46 = .ok (.if_icmp .eq 12, 3) := by decide +kernel
theorem dX2_port_49 : decode cX2_port 49 = .ok (.aload_n 0, 1) := by decide +kernel
theorem dX2_port_50 : decode cX2_port 50 = .ok (.iload_n 1, 1) := by decide +kernel
theorem dX2_port_51 : decode cX2_port 51 = .ok (.iload_n 2, 1) := by decide +kernel
theorem dX2_port_52 : decode cX2_port 52 = .ok (.invokevirtual 125, 3) := by decide +kernel
theorem dX2_port_55 : decode cX2_port 55 = .ok (.ifCond .eq 5, 3) := by decide +kernel
theorem dX2_port_58 : decode cX2_port 58 = .ok (.iconst 2, 1) := by decide +kernel
theorem dX2_port_59 : decode cX2_port 59 = .ok (.ireturn, 1) := by decide +kernel
theorem dX2_port_60 : decode cX2_port 60 = .ok (.iconst 3, 1) := by decide +kernel
theorem dX2_port_61 : decode cX2_port 61 = .ok (.ireturn, 1) := by decide +kernel
set_option maxRecDepth 20000 in
theorem ggX2_bestByGraph_X2_requireNode : GoodIn wsX2_bestByGraph wsX2_requireNode := goodIn_ca (goodIn_sub (List.forall_mem_cons.mpr ⟨wk_wsX2_bestByGraph_0_4, (fun w h => (List.mem_append.mp h).elim ((List.forall_mem_cons.mpr ⟨wk_wsX2_bestByGraph_0_5, List.forall_mem_cons.mpr ⟨wk_wsX2_bestByGraph_0_6, List.forall_mem_cons.mpr ⟨wk_wsX2_bestByGraph_0_7, List.forall_mem_cons.mpr ⟨wk_wsX2_bestByGraph_0_8, List.forall_mem_cons.mpr ⟨wk_wsX2_bestByGraph_0_9, List.forall_mem_cons.mpr ⟨wk_wsX2_bestByGraph_0_3, List.forall_mem_cons.mpr ⟨wk_wsX2_bestByGraph_0_10, List.forall_mem_cons.mpr ⟨wk_wsX2_bestByGraph_0_11, fun _ h => absurd h List.not_mem_nil⟩⟩⟩⟩⟩⟩⟩⟩) w) (lf_wsX2_bestByGraph_2 w))⟩) (by decide +kernel)) (goodIn_sub (fun _ h => List.mem_cons_of_mem _ (List.mem_append_right _ h)) (by decide +kernel))
set_option maxRecDepth 20000 in
theorem gX2_bestByGraph_X2_requireNode : GoodIn wsX2_bestByGraph (wsV RX2 71 RX2 yX2_requireNode wsX2_requireNode) := goodIn_app (goodIn_sub (List.forall_mem_cons.mpr ⟨wk_wsX2_bestByGraph_0_0, List.forall_mem_cons.mpr ⟨wk_wsX2_bestByGraph_0_1, List.forall_mem_cons.mpr ⟨wk_wsX2_bestByGraph_0_2, List.forall_mem_cons.mpr ⟨wk_wsX2_bestByGraph_0_3, fun _ h => absurd h List.not_mem_nil⟩⟩⟩⟩) (by decide +kernel)) ggX2_bestByGraph_X2_requireNode
set_option maxRecDepth 20000 in
theorem ggX2_bestByGraph_X2_measureDistances : GoodIn wsX2_bestByGraph wsX2_measureDistances := goodIn_sub (List.forall_mem_cons.mpr ⟨wk_wsX2_bestByGraph_0_15, (fun w h => (List.mem_append.mp h).elim ((fun w h => (List.mem_append.mp h).elim ((List.forall_mem_cons.mpr ⟨wk_wsX2_bestByGraph_0_11, List.forall_mem_cons.mpr ⟨wk_wsX2_bestByGraph_0_16, List.forall_mem_cons.mpr ⟨wk_wsX2_bestByGraph_0_17, List.forall_mem_cons.mpr ⟨wk_wsX2_bestByGraph_0_18, List.forall_mem_cons.mpr ⟨wk_wsX2_bestByGraph_0_19, List.forall_mem_cons.mpr ⟨wk_wsX2_bestByGraph_0_3, List.forall_mem_cons.mpr ⟨wk_wsX2_bestByGraph_0_20, List.forall_mem_cons.mpr ⟨wk_wsX2_bestByGraph_0_21, List.forall_mem_cons.mpr ⟨wk_wsX2_bestByGraph_0_22, List.forall_mem_cons.mpr ⟨wk_wsX2_bestByGraph_0_23, List.forall_mem_cons.mpr ⟨wk_wsX2_bestByGraph_1_0, List.forall_mem_cons.mpr ⟨wk_wsX2_bestByGraph_1_1, List.forall_mem_cons.mpr ⟨wk_wsX2_bestByGraph_1_2, List.forall_mem_cons.mpr ⟨wk_wsX2_bestByGraph_1_3, List.forall_mem_cons.mpr ⟨wk_wsX2_bestByGraph_1_4, List.forall_mem_cons.mpr ⟨wk_wsX2_bestByGraph_1_5, List.forall_mem_cons.mpr ⟨wk_wsX2_bestByGraph_1_6, List.forall_mem_cons.mpr ⟨wk_wsX2_bestByGraph_1_7, List.forall_mem_cons.mpr ⟨wk_wsX2_bestByGraph_1_8, List.forall_mem_cons.mpr ⟨wk_wsX2_bestByGraph_1_9, List.forall_mem_cons.mpr ⟨wk_wsX2_bestByGraph_1_10, fun _ h => absurd h List.not_mem_nil⟩⟩⟩⟩⟩⟩⟩⟩⟩⟩⟩⟩⟩⟩⟩⟩⟩⟩⟩⟩⟩) w) (lf_wsX2_bestByGraph_2 w)) w) (lf_wsX2_bestByGraph_3 w))⟩) (by decide +kernel)
set_option maxRecDepth 20000 in
theorem gX2_bestByGraph_X2_measureDistances : GoodIn wsX2_bestByGraph (wsV RX2 128 RX2 yX2_measureDistances wsX2_measureDistances) := goodIn_app (goodIn_sub (List.forall_mem_cons.mpr ⟨wk_wsX2_bestByGraph_0_12, List.forall_mem_cons.mpr ⟨wk_wsX2_bestByGraph_0_13, List.forall_mem_cons.mpr ⟨wk_wsX2_bestByGraph_0_14, List.forall_mem_cons.mpr ⟨wk_wsX2_bestByGraph_0_3, fun _ h => absurd h List.not_mem_nil⟩⟩⟩⟩) (by decide +kernel)) ggX2_bestByGraph_X2_measureDistances
set_option maxRecDepth 20000 in
theorem ggX2_bestByGraph_X2_bestInReach : GoodIn wsX2_bestByGraph wsX2_bestInReach := goodIn_sub (List.forall_mem_cons.mpr ⟨wk_wsX2_bestByGraph_1_14, (fun w h => (List.mem_append.mp h).elim ((List.forall_mem_cons.mpr ⟨wk_wsX2_bestByGraph_0_11, List.forall_mem_cons.mpr ⟨wk_wsX2_bestByGraph_0_16, List.forall_mem_cons.mpr ⟨wk_wsX2_bestByGraph_1_15, List.forall_mem_cons.mpr ⟨wk_wsX2_bestByGraph_1_16, List.forall_mem_cons.mpr ⟨wk_wsX2_bestByGraph_1_17, List.forall_mem_cons.mpr ⟨wk_wsX2_bestByGraph_0_3, List.forall_mem_cons.mpr ⟨wk_wsX2_bestByGraph_1_18, List.forall_mem_cons.mpr ⟨wk_wsX2_bestByGraph_1_19, List.forall_mem_cons.mpr ⟨wk_wsX2_bestByGraph_1_20, fun _ h => absurd h List.not_mem_nil⟩⟩⟩⟩⟩⟩⟩⟩⟩) w) (lf_wsX2_bestByGraph_2 w))⟩) (by decide +kernel)
set_option maxRecDepth 20000 in
theorem gX2_bestByGraph_X2_bestInReach : GoodIn wsX2_bestByGraph (wsV RX2 131 RX2 yX2_bestInReach wsX2_bestInReach) := goodIn_app (goodIn_sub (List.forall_mem_cons.mpr ⟨wk_wsX2_bestByGraph_1_11, List.forall_mem_cons.mpr ⟨wk_wsX2_bestByGraph_1_12, List.forall_mem_cons.mpr ⟨wk_wsX2_bestByGraph_1_13, List.forall_mem_cons.mpr ⟨wk_wsX2_bestByGraph_0_3, fun _ h => absurd h List.not_mem_nil⟩⟩⟩⟩) (by decide +kernel)) ggX2_bestByGraph_X2_bestInReach
theorem dX2_bestByGraph_0 : decode cX2_bestByGraph 0 = .ok (.aload_n 0, 1) := by decide +kernel
theorem dX2_bestByGraph_1 : decode cX2_bestByGraph 1 = .ok (.iload_n 1, 1) := by decide +kernel
theorem dX2_bestByGraph_2 : decode cX2_bestByGraph 2 = .ok (.invokevirtual 71, 3) := by decide +kernel
theorem dX2_bestByGraph_5 : decode cX2_bestByGraph 5 = .ok (.aload_n 0, 1) := by decide +kernel
theorem dX2_bestByGraph_6 : decode cX2_bestByGraph 6 = .ok (.iload_n 1, 1) := by decide +kernel
theorem dX2_bestByGraph_7 : decode cX2_bestByGraph 7 = .ok (.invokevirtual 128, 3) := by decide +kernel
theorem dX2_bestByGraph_10 : decode cX2_bestByGraph 10 = .ok (.aload_n 0, 1) := by decide +kernel
theorem dX2_bestByGraph_11 : decode cX2_bestByGraph 11 = .ok (.iload_n 1, 1) := by decide +kernel
theorem dX2_bestByGraph_12 : decode cX2_bestByGraph 12 = .ok (.invokevirtual 131, 3) := by decide +kernel
theorem dX2_bestByGraph_15 : decode cX2_bestByGraph 15 = .ok (.ireturn, 1) := by decide +kernel
set_option maxRecDepth 20000 in
theorem ggX2_stepsByGraph_X2_requireNode : GoodIn wsX2_stepsByGraph wsX2_requireNode := goodIn_ca (goodIn_sub (List.forall_mem_cons.mpr ⟨wk_wsX2_stepsByGraph_0_5, (fun w h => (List.mem_append.mp h).elim ((List.forall_mem_cons.mpr ⟨wk_wsX2_stepsByGraph_0_6, List.forall_mem_cons.mpr ⟨wk_wsX2_stepsByGraph_0_7, List.forall_mem_cons.mpr ⟨wk_wsX2_stepsByGraph_0_8, List.forall_mem_cons.mpr ⟨wk_wsX2_stepsByGraph_0_9, List.forall_mem_cons.mpr ⟨wk_wsX2_stepsByGraph_0_10, List.forall_mem_cons.mpr ⟨wk_wsX2_stepsByGraph_0_4, List.forall_mem_cons.mpr ⟨wk_wsX2_stepsByGraph_0_11, List.forall_mem_cons.mpr ⟨wk_wsX2_stepsByGraph_0_12, fun _ h => absurd h List.not_mem_nil⟩⟩⟩⟩⟩⟩⟩⟩) w) (lf_wsX2_stepsByGraph_2 w))⟩) (by decide +kernel)) (goodIn_sub (fun _ h => List.mem_cons_of_mem _ (List.mem_append_right _ h)) (by decide +kernel))
set_option maxRecDepth 20000 in
theorem gX2_stepsByGraph_X2_requireNode : GoodIn wsX2_stepsByGraph (wsV RX2 71 RX2 yX2_requireNode wsX2_requireNode) := goodIn_app (goodIn_sub (List.forall_mem_cons.mpr ⟨wk_wsX2_stepsByGraph_0_1, List.forall_mem_cons.mpr ⟨wk_wsX2_stepsByGraph_0_2, List.forall_mem_cons.mpr ⟨wk_wsX2_stepsByGraph_0_3, List.forall_mem_cons.mpr ⟨wk_wsX2_stepsByGraph_0_4, fun _ h => absurd h List.not_mem_nil⟩⟩⟩⟩) (by decide +kernel)) ggX2_stepsByGraph_X2_requireNode
set_option maxRecDepth 20000 in
theorem ggX2_stepsByGraph_X2_measureDistances : GoodIn wsX2_stepsByGraph wsX2_measureDistances := goodIn_sub (List.forall_mem_cons.mpr ⟨wk_wsX2_stepsByGraph_0_16, (fun w h => (List.mem_append.mp h).elim ((fun w h => (List.mem_append.mp h).elim ((List.forall_mem_cons.mpr ⟨wk_wsX2_stepsByGraph_0_12, List.forall_mem_cons.mpr ⟨wk_wsX2_stepsByGraph_0_0, List.forall_mem_cons.mpr ⟨wk_wsX2_stepsByGraph_0_17, List.forall_mem_cons.mpr ⟨wk_wsX2_stepsByGraph_0_18, List.forall_mem_cons.mpr ⟨wk_wsX2_stepsByGraph_0_19, List.forall_mem_cons.mpr ⟨wk_wsX2_stepsByGraph_0_4, List.forall_mem_cons.mpr ⟨wk_wsX2_stepsByGraph_0_20, List.forall_mem_cons.mpr ⟨wk_wsX2_stepsByGraph_0_21, List.forall_mem_cons.mpr ⟨wk_wsX2_stepsByGraph_0_22, List.forall_mem_cons.mpr ⟨wk_wsX2_stepsByGraph_0_23, List.forall_mem_cons.mpr ⟨wk_wsX2_stepsByGraph_1_0, List.forall_mem_cons.mpr ⟨wk_wsX2_stepsByGraph_1_1, List.forall_mem_cons.mpr ⟨wk_wsX2_stepsByGraph_1_2, List.forall_mem_cons.mpr ⟨wk_wsX2_stepsByGraph_1_3, List.forall_mem_cons.mpr ⟨wk_wsX2_stepsByGraph_1_4, List.forall_mem_cons.mpr ⟨wk_wsX2_stepsByGraph_1_5, List.forall_mem_cons.mpr ⟨wk_wsX2_stepsByGraph_1_6, List.forall_mem_cons.mpr ⟨wk_wsX2_stepsByGraph_1_7, List.forall_mem_cons.mpr ⟨wk_wsX2_stepsByGraph_1_8, List.forall_mem_cons.mpr ⟨wk_wsX2_stepsByGraph_1_9, List.forall_mem_cons.mpr ⟨wk_wsX2_stepsByGraph_1_10, fun _ h => absurd h List.not_mem_nil⟩⟩⟩⟩⟩⟩⟩⟩⟩⟩⟩⟩⟩⟩⟩⟩⟩⟩⟩⟩⟩) w) (lf_wsX2_stepsByGraph_2 w)) w) (lf_wsX2_stepsByGraph_3 w))⟩) (by decide +kernel)
set_option maxRecDepth 20000 in
theorem gX2_stepsByGraph_X2_measureDistances : GoodIn wsX2_stepsByGraph (wsV RX2 128 RX2 yX2_measureDistances wsX2_measureDistances) := goodIn_app (goodIn_sub (List.forall_mem_cons.mpr ⟨wk_wsX2_stepsByGraph_0_13, List.forall_mem_cons.mpr ⟨wk_wsX2_stepsByGraph_0_14, List.forall_mem_cons.mpr ⟨wk_wsX2_stepsByGraph_0_15, List.forall_mem_cons.mpr ⟨wk_wsX2_stepsByGraph_0_4, fun _ h => absurd h List.not_mem_nil⟩⟩⟩⟩) (by decide +kernel)) ggX2_stepsByGraph_X2_measureDistances
set_option maxRecDepth 20000 in
theorem ggX2_stepsByGraph_X2_bestInReach : GoodIn wsX2_stepsByGraph wsX2_bestInReach := goodIn_sub (List.forall_mem_cons.mpr ⟨wk_wsX2_stepsByGraph_1_14, (fun w h => (List.mem_append.mp h).elim ((List.forall_mem_cons.mpr ⟨wk_wsX2_stepsByGraph_0_12, List.forall_mem_cons.mpr ⟨wk_wsX2_stepsByGraph_0_0, List.forall_mem_cons.mpr ⟨wk_wsX2_stepsByGraph_1_15, List.forall_mem_cons.mpr ⟨wk_wsX2_stepsByGraph_1_16, List.forall_mem_cons.mpr ⟨wk_wsX2_stepsByGraph_1_17, List.forall_mem_cons.mpr ⟨wk_wsX2_stepsByGraph_0_4, List.forall_mem_cons.mpr ⟨wk_wsX2_stepsByGraph_1_18, List.forall_mem_cons.mpr ⟨wk_wsX2_stepsByGraph_1_19, List.forall_mem_cons.mpr ⟨wk_wsX2_stepsByGraph_1_20, fun _ h => absurd h List.not_mem_nil⟩⟩⟩⟩⟩⟩⟩⟩⟩) w) (lf_wsX2_stepsByGraph_2 w))⟩) (by decide +kernel)
set_option maxRecDepth 20000 in
theorem gX2_stepsByGraph_X2_bestInReach : GoodIn wsX2_stepsByGraph (wsV RX2 131 RX2 yX2_bestInReach wsX2_bestInReach) := goodIn_app (goodIn_sub (List.forall_mem_cons.mpr ⟨wk_wsX2_stepsByGraph_1_11, List.forall_mem_cons.mpr ⟨wk_wsX2_stepsByGraph_1_12, List.forall_mem_cons.mpr ⟨wk_wsX2_stepsByGraph_1_13, List.forall_mem_cons.mpr ⟨wk_wsX2_stepsByGraph_0_4, fun _ h => absurd h List.not_mem_nil⟩⟩⟩⟩) (by decide +kernel)) ggX2_stepsByGraph_X2_bestInReach
theorem dX2_stepsByGraph_0 : decode cX2_stepsByGraph 0 = .ok (.aload_n 0, 1) := by decide +kernel
theorem dX2_stepsByGraph_1 : decode cX2_stepsByGraph 1 = .ok (.iload_n 1, 1) := by decide +kernel
theorem dX2_stepsByGraph_2 : decode cX2_stepsByGraph 2 = .ok (.invokevirtual 71, 3) := by decide +kernel
theorem dX2_stepsByGraph_5 : decode cX2_stepsByGraph 5 = .ok (.aload_n 0, 1) := by decide +kernel
theorem dX2_stepsByGraph_6 : decode cX2_stepsByGraph 6 = .ok (.iload_n 1, 1) := by decide +kernel
theorem dX2_stepsByGraph_7 : decode cX2_stepsByGraph 7 = .ok (.invokevirtual 128, 3) := by decide +kernel
theorem dX2_stepsByGraph_10 : decode cX2_stepsByGraph 10 = .ok (.aload_n 0, 1) := by decide +kernel
theorem dX2_stepsByGraph_11 : decode cX2_stepsByGraph 11 = .ok (.getfield 46, 3) := by decide +kernel
theorem dX2_stepsByGraph_14 : decode cX2_stepsByGraph 14 = .ok (.aload_n 0, 1) := by decide +kernel
theorem dX2_stepsByGraph_15 : decode cX2_stepsByGraph 15 = .ok (.iload_n 1, 1) := by decide +kernel
theorem dX2_stepsByGraph_16 : decode cX2_stepsByGraph 16 = .ok (.invokevirtual 131, 3) := by decide +kernel
theorem dX2_stepsByGraph_19 : decode cX2_stepsByGraph 19 = .ok (.iaload, 1) := by decide +kernel
theorem dX2_stepsByGraph_20 : decode cX2_stepsByGraph 20 = .ok (.ireturn, 1) := by decide +kernel
set_option maxRecDepth 20000 in
theorem ggX2_isSettled_X2_measureDistances : GoodIn wsX2_isSettled wsX2_measureDistances := goodIn_sub (List.forall_mem_cons.mpr ⟨wk_wsX2_isSettled_0_7, (fun w h => (List.mem_append.mp h).elim ((fun w h => (List.mem_append.mp h).elim ((List.forall_mem_cons.mpr ⟨wk_wsX2_isSettled_0_0, List.forall_mem_cons.mpr ⟨wk_wsX2_isSettled_0_2, List.forall_mem_cons.mpr ⟨wk_wsX2_isSettled_0_8, List.forall_mem_cons.mpr ⟨wk_wsX2_isSettled_0_9, List.forall_mem_cons.mpr ⟨wk_wsX2_isSettled_0_10, List.forall_mem_cons.mpr ⟨wk_wsX2_isSettled_0_6, List.forall_mem_cons.mpr ⟨wk_wsX2_isSettled_0_11, List.forall_mem_cons.mpr ⟨wk_wsX2_isSettled_0_12, List.forall_mem_cons.mpr ⟨wk_wsX2_isSettled_0_13, List.forall_mem_cons.mpr ⟨wk_wsX2_isSettled_0_14, List.forall_mem_cons.mpr ⟨wk_wsX2_isSettled_0_15, List.forall_mem_cons.mpr ⟨wk_wsX2_isSettled_0_16, List.forall_mem_cons.mpr ⟨wk_wsX2_isSettled_0_17, List.forall_mem_cons.mpr ⟨wk_wsX2_isSettled_0_18, List.forall_mem_cons.mpr ⟨wk_wsX2_isSettled_0_19, List.forall_mem_cons.mpr ⟨wk_wsX2_isSettled_0_20, List.forall_mem_cons.mpr ⟨wk_wsX2_isSettled_0_21, List.forall_mem_cons.mpr ⟨wk_wsX2_isSettled_0_22, List.forall_mem_cons.mpr ⟨wk_wsX2_isSettled_0_23, List.forall_mem_cons.mpr ⟨wk_wsX2_isSettled_1_0, List.forall_mem_cons.mpr ⟨wk_wsX2_isSettled_1_1, fun _ h => absurd h List.not_mem_nil⟩⟩⟩⟩⟩⟩⟩⟩⟩⟩⟩⟩⟩⟩⟩⟩⟩⟩⟩⟩⟩) w) (lf_wsX2_isSettled_2 w)) w) (lf_wsX2_isSettled_4 w))⟩) (by decide +kernel)
set_option maxRecDepth 20000 in
theorem gX2_isSettled_X2_measureDistances : GoodIn wsX2_isSettled (wsV RX2 128 RX2 yX2_measureDistances wsX2_measureDistances) := goodIn_app (goodIn_sub (List.forall_mem_cons.mpr ⟨wk_wsX2_isSettled_0_3, List.forall_mem_cons.mpr ⟨wk_wsX2_isSettled_0_4, List.forall_mem_cons.mpr ⟨wk_wsX2_isSettled_0_5, List.forall_mem_cons.mpr ⟨wk_wsX2_isSettled_0_6, fun _ h => absurd h List.not_mem_nil⟩⟩⟩⟩) (by decide +kernel)) ggX2_isSettled_X2_measureDistances
set_option maxRecDepth 20000 in
theorem ggX2_isSettled_X2_bestInReach : GoodIn wsX2_isSettled wsX2_bestInReach := goodIn_sub (List.forall_mem_cons.mpr ⟨wk_wsX2_isSettled_1_5, (fun w h => (List.mem_append.mp h).elim ((List.forall_mem_cons.mpr ⟨wk_wsX2_isSettled_0_0, List.forall_mem_cons.mpr ⟨wk_wsX2_isSettled_0_2, List.forall_mem_cons.mpr ⟨wk_wsX2_isSettled_1_6, List.forall_mem_cons.mpr ⟨wk_wsX2_isSettled_1_7, List.forall_mem_cons.mpr ⟨wk_wsX2_isSettled_1_8, List.forall_mem_cons.mpr ⟨wk_wsX2_isSettled_0_6, List.forall_mem_cons.mpr ⟨wk_wsX2_isSettled_1_9, List.forall_mem_cons.mpr ⟨wk_wsX2_isSettled_1_10, List.forall_mem_cons.mpr ⟨wk_wsX2_isSettled_1_11, fun _ h => absurd h List.not_mem_nil⟩⟩⟩⟩⟩⟩⟩⟩⟩) w) (lf_wsX2_isSettled_2 w))⟩) (by decide +kernel)
set_option maxRecDepth 20000 in
theorem gX2_isSettled_X2_bestInReach : GoodIn wsX2_isSettled (wsV RX2 131 RX2 yX2_bestInReach wsX2_bestInReach) := goodIn_app (goodIn_sub (List.forall_mem_cons.mpr ⟨wk_wsX2_isSettled_1_2, List.forall_mem_cons.mpr ⟨wk_wsX2_isSettled_1_3, List.forall_mem_cons.mpr ⟨wk_wsX2_isSettled_1_4, List.forall_mem_cons.mpr ⟨wk_wsX2_isSettled_0_6, fun _ h => absurd h List.not_mem_nil⟩⟩⟩⟩) (by decide +kernel)) ggX2_isSettled_X2_bestInReach
theorem dX2_isSettled_0 : decode cX2_isSettled 0 = .ok (.iconst 0, 1) := by decide +kernel
theorem dX2_isSettled_1 : decode cX2_isSettled 1 = .ok (.istore_n 1, 1) := by decide +kernel
theorem dX2_isSettled_2 : decode cX2_isSettled 2 = .ok (.iload_n 1, 1) := by decide +kernel
theorem dX2_isSettled_3 : decode cX2_isSettled 3 = .ok (.aload_n 0, 1) := by decide +kernel
theorem dX2_isSettled_4 : decode cX2_isSettled 4 = .ok (.getfield 49, 3) := by decide +kernel
theorem dX2_isSettled_7 : decode cX2_isSettled 7 = .ok (.if_icmp .ge 53, 3) := by decide +kernel
theorem dX2_isSettled_10 : decode cX2_isSettled 10 = .ok (.aload_n 0, 1) := by decide +kernel
theorem dX2_isSettled_11 : decode cX2_isSettled 11 = .ok (.iload_n 1, 1) := by decide +kernel
theorem dX2_isSettled_12 : decode cX2_isSettled 12 = .ok (.invokevirtual 128, 3) := by decide +kernel
theorem dX2_isSettled_15 : decode cX2_isSettled 15 = .ok (.aload_n 0, 1) := by decide +kernel
theorem dX2_isSettled_16 : decode cX2_isSettled 16 = .ok (.iload_n 1, 1) := by decide +kernel
theorem dX2_isSettled_17 : decode cX2_isSettled 17 = .ok (.invokevirtual 131, 3) := by decide +kernel
theorem dX2_isSettled_20 : decode cX2_isSettled 20 = .ok (.istore_n 2, 1) := by decide +kernel
theorem dX2_isSettled_21 : decode cX2_isSettled 21 = .ok (.aload_n 0, 1) := by decide +kernel
theorem dX2_isSettled_22 : decode cX2_isSettled 22 = .ok (.getfield 39, 3) := by decide +kernel
theorem dX2_isSettled_25 : decode cX2_isSettled 25 = .ok (.getfield 113, 3) := by decide +kernel
theorem dX2_isSettled_28 : decode cX2_isSettled 28 = .ok (.iload_n 1, 1) := by decide +kernel
theorem dX2_isSettled_29 : decode cX2_isSettled 29 = .ok (.iaload, 1) := by decide +kernel
theorem dX2_isSettled_30 : decode cX2_isSettled 30 = .ok (.iload_n 2, 1) := by decide +kernel
theorem dX2_isSettled_31 : decode cX2_isSettled 31 = .ok (.if_icmp .ne 21, 3) := by decide +kernel
theorem dX2_isSettled_34 : decode cX2_isSettled 34 = .ok (.aload_n 0, 1) := by decide +kernel
theorem dX2_isSettled_35 : decode cX2_isSettled 35 = .ok (.getfield 39, 3) := by decide +kernel
theorem dX2_isSettled_38 : decode cX2_isSettled 38 = .ok (.getfield 116, 3) := by decide +kernel
theorem dX2_isSettled_41 : decode cX2_isSettled 41 = .ok (.iload_n 1, 1) := by decide +kernel
theorem dX2_isSettled_42 : decode cX2_isSettled 42 = .ok (.iaload, 1) := by decide +kernel
theorem dX2_isSettled_43 : decode cX2_isSettled 43 = .ok (.aload_n 0, 1) := by decide +kernel
theorem dX2_isSettled_44 : decode cX2_isSettled 44 = .ok (.getfield 46, 3) := by decide +kernel
theorem dX2_isSettled_47 : decode cX2_isSettled 47 = .ok (.iload_n 2, 1) := by decide +kernel
theorem dX2_isSettled_48 : decode cX2_isSettled 48 = .ok (.iaload, 1) := by decide +kernel
theorem dX2_isSettled_49 : decode cX2_isSettled 49 = .ok (.if_icmp .eq 5, 3) := by decide +kernel
theorem dX2_isSettled_52 : decode cX2_isSettled 52 = .ok (.iconst 0, 1) := by decide +kernel
theorem dX2_isSettled_53 : decode cX2_isSettled 53 = .ok (.ireturn, 1) := by decide +kernel
theorem dX2_isSettled_54 : decode cX2_isSettled 54 = .ok (.iinc 1 1, 3) := by decide +kernel
theorem dX2_isSettled_57 : decode cX2_isSettled 57 = .ok (.goto (-55), 3) := by decide +kernel
theorem dX2_isSettled_60 : decode cX2_isSettled 60 = .ok (.iconst 1, 1) := by decide +kernel
theorem dX2_isSettled_61 : decode cX2_isSettled 61 = .ok (.ireturn, 1) := by decide +kernel
set_option maxRecDepth 20000 in
theorem ggX2_offset_X2_requireNode : GoodIn wsX2_offset wsX2_requireNode := goodIn_ca (goodIn_sub (List.forall_mem_cons.mpr ⟨wk_wsX2_offset_0_5, (fun w h => (List.mem_append.mp h).elim ((List.forall_mem_cons.mpr ⟨wk_wsX2_offset_0_6, List.forall_mem_cons.mpr ⟨wk_wsX2_offset_0_7, List.forall_mem_cons.mpr ⟨wk_wsX2_offset_0_8, List.forall_mem_cons.mpr ⟨wk_wsX2_offset_0_9, List.forall_mem_cons.mpr ⟨wk_wsX2_offset_0_10, List.forall_mem_cons.mpr ⟨wk_wsX2_offset_0_4, List.forall_mem_cons.mpr ⟨wk_wsX2_offset_0_11, List.forall_mem_cons.mpr ⟨wk_wsX2_offset_0_12, fun _ h => absurd h List.not_mem_nil⟩⟩⟩⟩⟩⟩⟩⟩) w) (lf_wsX2_offset_1 w))⟩) (by decide +kernel)) (goodIn_sub (fun _ h => List.mem_cons_of_mem _ (List.mem_append_right _ h)) (by decide +kernel))
set_option maxRecDepth 20000 in
theorem gX2_offset_X2_requireNode : GoodIn wsX2_offset (wsV RX2 71 RX2 yX2_requireNode wsX2_requireNode) := goodIn_app (goodIn_sub (List.forall_mem_cons.mpr ⟨wk_wsX2_offset_0_1, List.forall_mem_cons.mpr ⟨wk_wsX2_offset_0_2, List.forall_mem_cons.mpr ⟨wk_wsX2_offset_0_3, List.forall_mem_cons.mpr ⟨wk_wsX2_offset_0_4, fun _ h => absurd h List.not_mem_nil⟩⟩⟩⟩) (by decide +kernel)) ggX2_offset_X2_requireNode
theorem dX2_offset_0 : decode cX2_offset 0 = .ok (.aload_n 0, 1) := by decide +kernel
theorem dX2_offset_1 : decode cX2_offset 1 = .ok (.iload_n 1, 1) := by decide +kernel
theorem dX2_offset_2 : decode cX2_offset 2 = .ok (.invokevirtual 71, 3) := by decide +kernel
theorem dX2_offset_5 : decode cX2_offset 5 = .ok (.aload_n 0, 1) := by decide +kernel
theorem dX2_offset_6 : decode cX2_offset 6 = .ok (.getfield 22, 3) := by decide +kernel
theorem dX2_offset_9 : decode cX2_offset 9 = .ok (.iload_n 1, 1) := by decide +kernel
theorem dX2_offset_10 : decode cX2_offset 10 = .ok (.laload, 1) := by decide +kernel
theorem dX2_offset_11 : decode cX2_offset 11 = .ok (.lreturn, 1) := by decide +kernel
set_option maxRecDepth 20000 in
theorem ggX2_rate_X2_requireNode : GoodIn wsX2_rate wsX2_requireNode := goodIn_ca (goodIn_sub (List.forall_mem_cons.mpr ⟨wk_wsX2_rate_0_5, (fun w h => (List.mem_append.mp h).elim ((List.forall_mem_cons.mpr ⟨wk_wsX2_rate_0_6, List.forall_mem_cons.mpr ⟨wk_wsX2_rate_0_7, List.forall_mem_cons.mpr ⟨wk_wsX2_rate_0_8, List.forall_mem_cons.mpr ⟨wk_wsX2_rate_0_9, List.forall_mem_cons.mpr ⟨wk_wsX2_rate_0_10, List.forall_mem_cons.mpr ⟨wk_wsX2_rate_0_4, List.forall_mem_cons.mpr ⟨wk_wsX2_rate_0_11, List.forall_mem_cons.mpr ⟨wk_wsX2_rate_0_12, fun _ h => absurd h List.not_mem_nil⟩⟩⟩⟩⟩⟩⟩⟩) w) (lf_wsX2_rate_1 w))⟩) (by decide +kernel)) (goodIn_sub (fun _ h => List.mem_cons_of_mem _ (List.mem_append_right _ h)) (by decide +kernel))
set_option maxRecDepth 20000 in
theorem gX2_rate_X2_requireNode : GoodIn wsX2_rate (wsV RX2 71 RX2 yX2_requireNode wsX2_requireNode) := goodIn_app (goodIn_sub (List.forall_mem_cons.mpr ⟨wk_wsX2_rate_0_1, List.forall_mem_cons.mpr ⟨wk_wsX2_rate_0_2, List.forall_mem_cons.mpr ⟨wk_wsX2_rate_0_3, List.forall_mem_cons.mpr ⟨wk_wsX2_rate_0_4, fun _ h => absurd h List.not_mem_nil⟩⟩⟩⟩) (by decide +kernel)) ggX2_rate_X2_requireNode
theorem dX2_rate_0 : decode cX2_rate 0 = .ok (.aload_n 0, 1) := by decide +kernel
theorem dX2_rate_1 : decode cX2_rate 1 = .ok (.iload_n 1, 1) := by decide +kernel
theorem dX2_rate_2 : decode cX2_rate 2 = .ok (.invokevirtual 71, 3) := by decide +kernel
theorem dX2_rate_5 : decode cX2_rate 5 = .ok (.aload_n 0, 1) := by decide +kernel
theorem dX2_rate_6 : decode cX2_rate 6 = .ok (.getfield 26, 3) := by decide +kernel
theorem dX2_rate_9 : decode cX2_rate 9 = .ok (.iload_n 1, 1) := by decide +kernel
theorem dX2_rate_10 : decode cX2_rate 10 = .ok (.laload, 1) := by decide +kernel
theorem dX2_rate_11 : decode cX2_rate 11 = .ok (.lreturn, 1) := by decide +kernel
set_option maxRecDepth 20000 in
theorem ggX2_spread_X2_requireWithin : GoodIn wsX2_spread wsX2_requireWithin := goodIn_ca (goodIn_sub (List.forall_mem_cons.mpr ⟨wk_wsX2_spread_0_13, (List.forall_mem_cons.mpr ⟨wk_wsX2_spread_0_14, List.forall_mem_cons.mpr ⟨wk_wsX2_spread_0_15, fun _ h => absurd h List.not_mem_nil⟩⟩)⟩) (by decide +kernel)) (goodIn_sub (fun _ h => List.mem_cons_of_mem _ (List.mem_append_right _ h)) (by decide +kernel))
set_option maxRecDepth 20000 in
theorem gX2_spread_X2_requireWithin : GoodIn wsX2_spread (va_wsS RX2 56 yX2_requireWithin wsX2_requireWithin) := goodIn_app (goodIn_sub (List.forall_mem_cons.mpr ⟨wk_wsX2_spread_0_10, List.forall_mem_cons.mpr ⟨wk_wsX2_spread_0_11, List.forall_mem_cons.mpr ⟨wk_wsX2_spread_0_12, fun _ h => absurd h List.not_mem_nil⟩⟩⟩) (by decide +kernel)) ggX2_spread_X2_requireWithin
theorem dX2_spread_0 : decode cX2_spread 0 = .ok (.iload_n 1, 1) := by decide +kernel
theorem dX2_spread_1 : decode cX2_spread 1 = .ok (.iconst 0, 1) := by decide +kernel
theorem dX2_spread_2 : decode cX2_spread 2 = .ok (.iconst 1, 1) := by decide +kernel
theorem dX2_spread_3 : decode cX2_spread 3 = .ok (.invokestatic 56, 3) := by decide +kernel
theorem dX2_spread_6 : decode cX2_spread 6 = .ok (.iconst 1, 1) := by decide +kernel
theorem dX2_spread_7 : decode cX2_spread 7 = .ok (.istore_n 2, 1) := by decide +kernel
theorem dX2_spread_8 : decode cX2_spread 8 = .ok (.lconst 0, 1) := by decide +kernel
theorem dX2_spread_9 : decode cX2_spread 9 = .ok (.lstore_n 3, 1) := by decide +kernel
theorem dX2_spread_10 : decode cX2_spread 10 = .ok (.lconst 0, 1) := by decide +kernel
theorem dX2_spread_11 : decode cX2_spread 11 = .ok (.lstore 5, 2) := by decide +kernel
theorem dX2_spread_13 : decode cX2_spread 13 = .ok (.iconst 0, 1) := by decide +kernel
theorem dX2_spread_14 : decode cX2_spread 14 = .ok (.istore 7, 2) := by decide +kernel
theorem dX2_spread_16 : decode cX2_spread 16 = .ok (.iload 7, 2) := by decide +kernel
theorem dX2_spread_18 : decode cX2_spread 18 = .ok (.aload_n 0, 1) := by decide +kernel
theorem dX2_spread_19 : decode cX2_spread 19 = .ok (.getfield 49, 3) := by decide +kernel
theorem dX2_spread_22 : decode cX2_spread 22 = .ok (.if_icmp .ge 76, 3) := by decide +kernel
theorem dX2_spread_25 : decode cX2_spread 25 = .ok (.aload_n 0, 1) := by decide +kernel
theorem dX2_spread_26 : decode cX2_spread 26 = .ok (.getfield 9, 3) := by decide +kernel
theorem dX2_spread_29 : decode cX2_spread 29 = .ok (.iload 7, 2) := by decide +kernel
theorem dX2_spread_31 : decode cX2_spread 31 = .ok (.iaload, 1) := by decide +kernel
theorem dX2_spread_32 : decode cX2_spread 32 = .ok (.iload_n 1, 1) := by decide +kernel
theorem dX2_spread_33 : decode cX2_spread 33 = .ok (.if_icmp .ne 59, 3) := by decide +kernel
theorem dX2_spread_36 : decode cX2_spread 36 = .ok (.iload_n 2, 1) := by decide +kernel
theorem dX2_spread_37 : decode cX2_spread 37 = .ok (.ifCond .eq 13, 3) := by decide +kernel
theorem dX2_spread_40 : decode cX2_spread 40 = .ok (.aload_n 0, 1) := by decide +kernel
theorem dX2_spread_41 : decode cX2_spread 41 = .ok (.getfield 22, 3) := by decide +kernel
theorem dX2_spread_44 : decode cX2_spread 44 = .ok (.iload 7, 2) := by decide +kernel
theorem dX2_spread_46 : decode cX2_spread 46 = .ok (.laload, 1) := by decide +kernel
theorem dX2_spread_47 : decode cX2_spread 47 = .ok (.goto 14, 3) := by decide +kernel
theorem dX2_spread_50 : decode cX2_spread 50 = .ok (.lload_n 3, 1) := by decide +kernel
theorem dX2_spread_51 : decode cX2_spread 51 = .ok (.aload_n 0, 1) := by decide +kernel
theorem dX2_spread_52 : decode cX2_spread 52 = .ok (.getfield 22, 3) := by decide +kernel
theorem dX2_spread_55 : decode cX2_spread 55 = .ok (.iload 7, 2) := by decide +kernel
theorem dX2_spread_57 : decode cX2_spread 57 = .ok (.laload, 1) := by decide +kernel
theorem dX2_spread_58 : decode cX2_spread 58 = .ok (.invokestatic 135, 3) := by decide +kernel
theorem dX2_spread_61 : decode cX2_spread 61 = .ok (.lstore_n 3, 1) := by decide +kernel
theorem dX2_spread_62 : decode cX2_spread 62 = .ok (.iload_n 2, 1) := by decide +kernel
theorem dX2_spread_63 : decode cX2_spread 63 = .ok (.ifCond .eq 13, 3) := by decide +kernel
theorem dX2_spread_66 : decode cX2_spread 66 = .ok (.aload_n 0, 1) := by decide +kernel
theorem dX2_spread_67 : decode cX2_spread 67 = .ok (.getfield 22, 3) := by decide +kernel
theorem dX2_spread_70 : decode cX2_spread 70 = .ok (.iload 7, 2) := by decide +kernel
theorem dX2_spread_72 : decode cX2_spread 72 = .ok (.laload, 1) := by decide +kernel
theorem dX2_spread_73 : decode cX2_spread 73 = .ok (.goto 15, 3) := by decide +kernel
theorem dX2_spread_76 : decode cX2_spread 76 = .ok (.lload 5, 2) := by decide +kernel
theorem dX2_spread_78 : decode cX2_spread 78 = .ok (.aload_n 0, 1) := by decide +kernel
theorem dX2_spread_79 : decode cX2_spread 79 = .ok (.getfield 22, 3) := by decide +kernel
theorem dX2_spread_82 : decode cX2_spread 82 = .ok (.iload 7, 2) := by decide +kernel
theorem dX2_spread_84 : decode cX2_spread 84 = .ok (.laload, 1) := by decide +kernel
theorem dX2_spread_85 : decode cX2_spread 85 = .ok (.invokestatic 141, 3) := by decide +kernel
theorem dX2_spread_88 : decode cX2_spread 88 = .ok (.lstore 5, 2) := by decide +kernel
theorem dX2_spread_90 : decode cX2_spread 90 = .ok (.iconst 0, 1) := by decide +kernel
theorem dX2_spread_91 : decode cX2_spread 91 = .ok (.istore_n 2, 1) := by decide +kernel
theorem dX2_spread_92 : decode cX2_spread 92 = .ok (.iinc 7 1, 3) := by decide +kernel
theorem dX2_spread_95 : decode cX2_spread 95 = .ok (.goto (-79), 3) := by decide +kernel
theorem dX2_spread_98 : decode cX2_spread 98 = .ok (.lload 5, 2) := by decide +kernel
theorem dX2_spread_100 : decode cX2_spread 100 = .ok (.lload_n 3, 1) := by decide +kernel
theorem dX2_spread_101 : decode cX2_spread 101 = .ok (.lsub, 1) := by decide +kernel
theorem dX2_spread_102 : decode cX2_spread 102 = .ok (.lreturn, 1) := by decide +kernel
theorem dX2_isNode_0 : decode cX2_isNode 0 = .ok (.iload_n 1, 1) := by decide +kernel
theorem dX2_isNode_1 : decode cX2_isNode 1 = .ok (.ifCond .lt 15, 3) := by decide +kernel
theorem dX2_isNode_4 : decode cX2_isNode 4 = .ok (.iload_n 1, 1) := by decide +kernel
theorem dX2_isNode_5 : decode cX2_isNode 5 = .ok (.aload_n 0, 1) := by decide +kernel
theorem dX2_isNode_6 : decode cX2_isNode 6 = .ok (.getfield 49, 3) := by decide +kernel
theorem dX2_isNode_9 : decode cX2_isNode 9 = .ok (.if_icmp .ge 7, 3) := by decide +kernel
theorem dX2_isNode_12 : decode cX2_isNode 12 = .ok (.iconst 1, 1) := by decide +kernel
theorem dX2_isNode_13 : decode cX2_isNode 13 = .ok (.goto 4, 3) := by decide +kernel
theorem dX2_isNode_16 : decode cX2_isNode 16 = .ok (.iconst 0, 1) := by decide +kernel
theorem dX2_isNode_17 : decode cX2_isNode 17 = .ok (.ireturn, 1) := by decide +kernel
set_option maxRecDepth 20000 in
theorem ggX2_requireNode_X2_isNode : GoodIn wsX2_requireNode wsX2_isNode := goodIn_sub (List.forall_mem_cons.mpr ⟨wk_wsX2_requireNode_0_6, (fun w h => (List.mem_append.mp h).elim ((List.forall_mem_cons.mpr ⟨wk_wsX2_requireNode_0_7, fun _ h => absurd h List.not_mem_nil⟩) w) (lf_wsX2_requireNode_1 w))⟩) (by decide +kernel)
set_option maxRecDepth 20000 in
theorem gX2_requireNode_X2_isNode : GoodIn wsX2_requireNode (wsV RX2 144 RX2 yX2_isNode wsX2_isNode) := goodIn_app (goodIn_sub (List.forall_mem_cons.mpr ⟨wk_wsX2_requireNode_0_2, List.forall_mem_cons.mpr ⟨wk_wsX2_requireNode_0_3, List.forall_mem_cons.mpr ⟨wk_wsX2_requireNode_0_4, List.forall_mem_cons.mpr ⟨wk_wsX2_requireNode_0_5, fun _ h => absurd h List.not_mem_nil⟩⟩⟩⟩) (by decide +kernel)) ggX2_requireNode_X2_isNode
theorem dX2_requireNode_0 : decode cX2_requireNode 0 = .ok (.aload_n 0, 1) := by decide +kernel
theorem dX2_requireNode_1 : decode cX2_requireNode 1 = .ok (.iload_n 1, 1) := by decide +kernel
theorem dX2_requireNode_2 : decode cX2_requireNode 2 = .ok (.invokevirtual 144, 3) := by decide +kernel
theorem dX2_requireNode_5 : decode cX2_requireNode 5 = .ok (.ifCond .ne 13, 3) := by decide +kernel
theorem dX2_requireNode_8 : decode cX2_requireNode 8 = .ok (.new 148, 3) := by decide +kernel
theorem dX2_requireNode_11 : decode cX2_requireNode 11 = .ok (.dup, 1) := by decide +kernel
theorem dX2_requireNode_12 : decode cX2_requireNode 12 = .ok (.ldc 150, 2) := by decide +kernel
theorem dX2_requireNode_14 : decode cX2_requireNode 14 = .ok (.invokespecial 152, 3) := by decide +kernel
theorem dX2_requireNode_17 : decode cX2_requireNode 17 = .ok (.athrow, 1) := by decide +kernel
theorem dX2_requireNode_18 : decode cX2_requireNode 18 = .ok (.return_, 1) := by decide +kernel
theorem dX2_requireWithin_0 : decode cX2_requireWithin 0 = .ok (.iload_n 0, 1) := by decide +kernel
theorem dX2_requireWithin_1 : decode cX2_requireWithin 1 = .ok (.iload_n 1, 1) := by decide +kernel
theorem dX2_requireWithin_2 : decode cX2_requireWithin 2 = .ok (.if_icmp .lt 8, 3) := by decide +kernel
theorem dX2_requireWithin_5 : decode cX2_requireWithin 5 = .ok (.iload_n 0, 1) := by decide +kernel
theorem dX2_requireWithin_6 : decode cX2_requireWithin 6 = .ok (.iload_n 2, 1) := by decide +kernel
theorem dX2_requireWithin_7 : decode cX2_requireWithin 7 = .ok (.if_icmp .le 13, 3) := by decide +kernel
theorem dX2_requireWithin_10 : decode cX2_requireWithin 10 = .ok (.new 76, 3) := by decide +kernel
theorem dX2_requireWithin_13 : decode cX2_requireWithin 13 = .ok (.dup, 1) := by decide +kernel
theorem dX2_requireWithin_14 : decode cX2_requireWithin 14 = .ok (.ldc 153, 2) := by decide +kernel
theorem dX2_requireWithin_16 : decode cX2_requireWithin 16 = .ok (.invokespecial 80, 3) := by decide +kernel
theorem dX2_requireWithin_19 : decode cX2_requireWithin 19 = .ok (.athrow, 1) := by decide +kernel
theorem dX2_requireWithin_20 : decode cX2_requireWithin 20 = .ok (.return_, 1) := by decide +kernel
set_option maxRecDepth 20000 in
theorem ggX2_requireLinked_X1_areLinked : GoodIn wsX2_requireLinked wsX1_areLinked := goodIn_sub (List.forall_mem_cons.mpr ⟨wk_wsX2_requireLinked_0_6, (fun w h => (List.mem_append.mp h).elim ((List.forall_mem_cons.mpr ⟨wk_wsX2_requireLinked_0_7, List.forall_mem_cons.mpr ⟨wk_wsX2_requireLinked_0_8, List.forall_mem_cons.mpr ⟨wk_wsX2_requireLinked_0_9, List.forall_mem_cons.mpr ⟨wk_wsX2_requireLinked_0_4, List.forall_mem_cons.mpr ⟨wk_wsX2_requireLinked_0_10, fun _ h => absurd h List.not_mem_nil⟩⟩⟩⟩⟩) w) (lf_wsX2_requireLinked_2 w))⟩) (by decide +kernel)
set_option maxRecDepth 20000 in
theorem gX2_requireLinked_X1_areLinked_n82 : GoodIn wsX2_requireLinked (wsX1_areLinked) := ggX2_requireLinked_X1_areLinked
theorem dX2_requireLinked_0 : decode cX2_requireLinked 0 = .ok (.aload_n 0, 1) := by decide +kernel
theorem dX2_requireLinked_1 : decode cX2_requireLinked 1 = .ok (.getfield 32, 3) := by decide +kernel
theorem dX2_requireLinked_4 : decode cX2_requireLinked 4 = .ok (.iload_n 1, 1) := by decide +kernel
theorem dX2_requireLinked_5 : decode cX2_requireLinked 5 = .ok (.iload_n 2, 1) := by decide +kernel
theorem dX2_requireLinked_6 : decode cX2_requireLinked 6 = .ok (.invokevirtual 82, 3) := by decide +kernel
theorem dX2_requireLinked_9 : decode cX2_requireLinked 9 = .ok (.ifCond .ne 13, 3) := by decide +kernel
theorem dX2_requireLinked_12 : decode cX2_requireLinked 12 = .ok (.new 60, 3) := by decide +kernel
theorem dX2_requireLinked_15 : decode cX2_requireLinked 15 = .ok (.dup, 1) := by decide +kernel
theorem dX2_requireLinked_16 : decode cX2_requireLinked 16 = .ok (.ldc 155, 2) := by decide +kernel
theorem dX2_requireLinked_18 : decode cX2_requireLinked 18 = .ok (.invokespecial 64, 3) := by decide +kernel
theorem dX2_requireLinked_21 : decode cX2_requireLinked 21 = .ok (.athrow, 1) := by decide +kernel
theorem dX2_requireLinked_22 : decode cX2_requireLinked 22 = .ok (.return_, 1) := by decide +kernel
set_option maxRecDepth 20000 in
theorem ggX2_areNeighbours_X1_areLinked : GoodIn wsX2_areNeighbours wsX1_areLinked := goodIn_sub (List.forall_mem_cons.mpr ⟨wk_wsX2_areNeighbours_0_5, (fun w h => (List.mem_append.mp h).elim ((List.forall_mem_cons.mpr ⟨wk_wsX2_areNeighbours_0_6, List.forall_mem_cons.mpr ⟨wk_wsX2_areNeighbours_0_7, List.forall_mem_cons.mpr ⟨wk_wsX2_areNeighbours_0_8, List.forall_mem_cons.mpr ⟨wk_wsX2_areNeighbours_0_3, List.forall_mem_cons.mpr ⟨wk_wsX2_areNeighbours_0_9, fun _ h => absurd h List.not_mem_nil⟩⟩⟩⟩⟩) w) (lf_wsX2_areNeighbours_2 w))⟩) (by decide +kernel)
set_option maxRecDepth 20000 in
theorem gX2_areNeighbours_X1_areLinked_n82 : GoodIn wsX2_areNeighbours (wsX1_areLinked) := ggX2_areNeighbours_X1_areLinked
theorem dX2_areNeighbours_0 : decode cX2_areNeighbours 0 = .ok (.aload_n 0, 1) := by decide +kernel
theorem dX2_areNeighbours_1 : decode cX2_areNeighbours 1 = .ok (.getfield 9, 3) := by decide +kernel
theorem dX2_areNeighbours_4 : decode cX2_areNeighbours 4 = .ok (.iload_n 1, 1) := by decide +kernel
theorem dX2_areNeighbours_5 : decode cX2_areNeighbours 5 = .ok (.iaload, 1) := by decide +kernel
theorem dX2_areNeighbours_6 : decode cX2_areNeighbours 6 = .ok (.aload_n 0, 1) := by decide +kernel
theorem dX2_areNeighbours_7 : decode cX2_areNeighbours 7 = .ok (.getfield 9, 3) := by decide +kernel
theorem dX2_areNeighbours_10 : decode cX2_areNeighbours 10 = .ok (.iload_n 2, 1) := by decide +kernel
theorem dX2_areNeighbours_11 : decode cX2_areNeighbours 11 = .ok (.iaload, 1) := by decide +kernel
theorem dX2_areNeighbours_12 : decode cX2_areNeighbours 12 = .ok (.if_icmp .ne 19, 3) := by decide +kernel
theorem dX2_areNeighbours_15 : decode cX2_areNeighbours 15 = .ok (.aload_n 0, 1) := by decide +kernel
theorem dX2_areNeighbours_16 : decode cX2_areNeighbours 16 = .ok (.getfield 32, 3) := by decide +kernel
theorem dX2_areNeighbours_19 : decode cX2_areNeighbours 19 = .ok (.iload_n 1, 1) := by decide +kernel
theorem dX2_areNeighbours_20 : decode cX2_areNeighbours 20 = .ok (.iload_n 2, 1) := by decide +kernel
theorem dX2_areNeighbours_21 : decode cX2_areNeighbours 21 = .ok (.invokevirtual 82, 3) := by decide +kernel
theorem dX2_areNeighbours_24 : decode cX2_areNeighbours 24 = .ok (.ifCond .eq 7, 3) := by decide +kernel
theorem dX2_areNeighbours_27 : decode cX2_areNeighbours 27 = .ok (.iconst 1, 1) := by decide +kernel
theorem dX2_areNeighbours_28 : decode cX2_areNeighbours 28 = .ok (.goto 4, 3) := by decide +kernel
theorem dX2_areNeighbours_31 : decode cX2_areNeighbours 31 = .ok (.iconst 0, 1) := by decide +kernel
theorem dX2_areNeighbours_32 : decode cX2_areNeighbours 32 = .ok (.ireturn, 1) := by decide +kernel
theorem dX2_rankOf_0 : decode cX2_rankOf 0 = .ok (.aload_n 0, 1) := by decide +kernel
theorem dX2_rankOf_1 : decode cX2_rankOf 1 = .ok (.getfield 13, 3) := by decide +kernel
theorem dX2_rankOf_4 : decode cX2_rankOf 4 = .ok (.iload_n 1, 1) := by decide +kernel
theorem dX2_rankOf_5 : decode cX2_rankOf 5 = .ok (.iaload, 1) := by decide +kernel
theorem dX2_rankOf_6 : decode cX2_rankOf 6 = .ok (.sipush 1001, 3) := by decide +kernel
theorem dX2_rankOf_9 : decode cX2_rankOf 9 = .ok (.imul, 1) := by decide +kernel
theorem dX2_rankOf_10 : decode cX2_rankOf 10 = .ok (.aload_n 0, 1) := by decide +kernel
theorem dX2_rankOf_11 : decode cX2_rankOf 11 = .ok (.getfield 16, 3) := by decide +kernel
theorem dX2_rankOf_14 : decode cX2_rankOf 14 = .ok (.iload_n 1, 1) := by decide +kernel
theorem dX2_rankOf_15 : decode cX2_rankOf 15 = .ok (.iaload, 1) := by decide +kernel
theorem dX2_rankOf_16 : decode cX2_rankOf 16 = .ok (.iadd, 1) := by decide +kernel
theorem dX2_rankOf_17 : decode cX2_rankOf 17 = .ok (.bipush 10, 2) := by decide +kernel
theorem dX2_rankOf_19 : decode cX2_rankOf 19 = .ok (.imul, 1) := by decide +kernel
theorem dX2_rankOf_20 : decode cX2_rankOf 20 = .ok (.iload_n 1, 1) := by decide +kernel
theorem dX2_rankOf_21 : decode cX2_rankOf 21 = .ok (.iadd, 1) := by decide +kernel
theorem dX2_rankOf_22 : decode cX2_rankOf 22 = .ok (.ireturn, 1) := by decide +kernel
set_option maxRecDepth 20000 in
theorem ggX2_knowOnlyItself_X2_rankOf : GoodIn wsX2_knowOnlyItself wsX2_rankOf := goodIn_sub (List.forall_mem_cons.mpr ⟨wk_wsX2_knowOnlyItself_0_5, (fun w h => (List.mem_append.mp h).elim ((List.forall_mem_cons.mpr ⟨wk_wsX2_knowOnlyItself_0_6, List.forall_mem_cons.mpr ⟨wk_wsX2_knowOnlyItself_0_7, fun _ h => absurd h List.not_mem_nil⟩⟩) w) (lf_wsX2_knowOnlyItself_1 w))⟩) (by decide +kernel)
set_option maxRecDepth 20000 in
theorem gX2_knowOnlyItself_X2_rankOf : GoodIn wsX2_knowOnlyItself (wsV RX2 157 RX2 yX2_rankOf wsX2_rankOf) := goodIn_app (goodIn_sub (List.forall_mem_cons.mpr ⟨wk_wsX2_knowOnlyItself_0_1, List.forall_mem_cons.mpr ⟨wk_wsX2_knowOnlyItself_0_2, List.forall_mem_cons.mpr ⟨wk_wsX2_knowOnlyItself_0_3, List.forall_mem_cons.mpr ⟨wk_wsX2_knowOnlyItself_0_4, fun _ h => absurd h List.not_mem_nil⟩⟩⟩⟩) (by decide +kernel)) ggX2_knowOnlyItself_X2_rankOf
set_option maxRecDepth 20000 in
theorem ggX2_knowOnlyItself_X0_start : GoodIn wsX2_knowOnlyItself wsX0_start := goodIn_sub (List.forall_mem_cons.mpr ⟨wk_wsX2_knowOnlyItself_0_11, (fun w h => (List.mem_append.mp h).elim ((List.forall_mem_cons.mpr ⟨wk_wsX2_knowOnlyItself_0_12, List.forall_mem_cons.mpr ⟨wk_wsX2_knowOnlyItself_0_13, List.forall_mem_cons.mpr ⟨wk_wsX2_knowOnlyItself_0_14, List.forall_mem_cons.mpr ⟨wk_wsX2_knowOnlyItself_0_15, fun _ h => absurd h List.not_mem_nil⟩⟩⟩⟩) w) (lf_wsX2_knowOnlyItself_2 w))⟩) (by decide +kernel)
set_option maxRecDepth 20000 in
theorem gX2_knowOnlyItself_X0_start_n160 : GoodIn wsX2_knowOnlyItself (wsX0_start) := ggX2_knowOnlyItself_X0_start
theorem dX2_knowOnlyItself_0 : decode cX2_knowOnlyItself 0 = .ok (.aload_n 0, 1) := by decide +kernel
theorem dX2_knowOnlyItself_1 : decode cX2_knowOnlyItself 1 = .ok (.getfield 39, 3) := by decide +kernel
theorem dX2_knowOnlyItself_4 : decode cX2_knowOnlyItself 4 = .ok (.iload_n 1, 1) := by decide +kernel
theorem dX2_knowOnlyItself_5 : decode cX2_knowOnlyItself 5 = .ok (.aload_n 0, 1) := by decide +kernel
theorem dX2_knowOnlyItself_6 : decode cX2_knowOnlyItself 6 = .ok (.iload_n 1, 1) := by decide +kernel
theorem dX2_knowOnlyItself_7 : decode cX2_knowOnlyItself 7 = .ok (.invokevirtual 157, 3) := by decide +kernel
theorem dX2_knowOnlyItself_10 : decode cX2_knowOnlyItself 10 = .ok (.invokevirtual 160, 3) := by decide +kernel
theorem dX2_knowOnlyItself_13 : decode cX2_knowOnlyItself 13 = .ok (.return_, 1) := by decide +kernel
set_option maxRecDepth 20000 in
theorem ggX2_forgetParent_X2_knowOnlyItself : GoodIn wsX2_forgetParent wsX2_knowOnlyItself := goodIn_sub (List.forall_mem_cons.mpr ⟨wk_wsX2_forgetParent_0_5, (fun w h => (List.mem_append.mp h).elim ((fun w h => (List.mem_append.mp h).elim ((List.forall_mem_cons.mpr ⟨wk_wsX2_forgetParent_0_0, List.forall_mem_cons.mpr ⟨wk_wsX2_forgetParent_0_6, List.forall_mem_cons.mpr ⟨wk_wsX2_forgetParent_0_7, List.forall_mem_cons.mpr ⟨wk_wsX2_forgetParent_0_8, List.forall_mem_cons.mpr ⟨wk_wsX2_forgetParent_0_4, List.forall_mem_cons.mpr ⟨wk_wsX2_forgetParent_0_9, List.forall_mem_cons.mpr ⟨wk_wsX2_forgetParent_0_10, List.forall_mem_cons.mpr ⟨wk_wsX2_forgetParent_0_11, List.forall_mem_cons.mpr ⟨wk_wsX2_forgetParent_0_12, List.forall_mem_cons.mpr ⟨wk_wsX2_forgetParent_0_13, List.forall_mem_cons.mpr ⟨wk_wsX2_forgetParent_0_14, List.forall_mem_cons.mpr ⟨wk_wsX2_forgetParent_0_15, List.forall_mem_cons.mpr ⟨wk_wsX2_forgetParent_0_16, List.forall_mem_cons.mpr ⟨wk_wsX2_forgetParent_0_17, List.forall_mem_cons.mpr ⟨wk_wsX2_forgetParent_0_18, List.forall_mem_cons.mpr ⟨wk_wsX2_forgetParent_0_19, fun _ h => absurd h List.not_mem_nil⟩⟩⟩⟩⟩⟩⟩⟩⟩⟩⟩⟩⟩⟩⟩⟩) w) (lf_wsX2_forgetParent_1 w)) w) (lf_wsX2_forgetParent_2 w))⟩) (by decide +kernel)
set_option maxRecDepth 20000 in
theorem gX2_forgetParent_X2_knowOnlyItself : GoodIn wsX2_forgetParent (wsV RX2 67 RX2 yX2_knowOnlyItself wsX2_knowOnlyItself) := goodIn_app (goodIn_sub (List.forall_mem_cons.mpr ⟨wk_wsX2_forgetParent_0_1, List.forall_mem_cons.mpr ⟨wk_wsX2_forgetParent_0_2, List.forall_mem_cons.mpr ⟨wk_wsX2_forgetParent_0_3, List.forall_mem_cons.mpr ⟨wk_wsX2_forgetParent_0_4, fun _ h => absurd h List.not_mem_nil⟩⟩⟩⟩) (by decide +kernel)) ggX2_forgetParent_X2_knowOnlyItself
theorem dX2_forgetParent_0 : decode cX2_forgetParent 0 = .ok (.aload_n 0, 1) := by decide +kernel
theorem dX2_forgetParent_1 : decode cX2_forgetParent 1 = .ok (.getfield 39, 3) := by decide +kernel
theorem dX2_forgetParent_4 : decode cX2_forgetParent 4 = .ok (.getfield 119, 3) := by decide +kernel
theorem dX2_forgetParent_7 : decode cX2_forgetParent 7 = .ok (.iload_n 1, 1) := by decide +kernel
theorem dX2_forgetParent_8 : decode cX2_forgetParent 8 = .ok (.iaload, 1) := by decide +kernel
theorem dX2_forgetParent_9 : decode cX2_forgetParent 9 = .ok (.iload_n 2, 1) := by decide +kernel
theorem dX2_forgetParent_10 : decode cX2_forgetParent 10 = .ok (.if_icmp .ne 8, 3) := by decide +kernel
theorem dX2_forgetParent_13 : decode cX2_forgetParent 13 = .ok (.aload_n 0, 1) := by decide +kernel
theorem dX2_forgetParent_14 : decode cX2_forgetParent 14 = .ok (.iload_n 1, 1) := by decide +kernel
theorem dX2_forgetParent_15 : decode cX2_forgetParent 15 = .ok (.invokevirtual 67, 3) := by decide +kernel
theorem dX2_forgetParent_18 : decode cX2_forgetParent 18 = .ok (.return_, 1) := by decide +kernel
set_option maxRecDepth 20000 in
theorem ggX2_announce_X0_copyFrom : GoodIn wsX2_announce wsX0_copyFrom := goodIn_sub (List.forall_mem_cons.mpr ⟨wk_wsX2_announce_0_6, (fun w h => (List.mem_append.mp h).elim ((List.forall_mem_cons.mpr ⟨wk_wsX2_announce_0_7, List.forall_mem_cons.mpr ⟨wk_wsX2_announce_0_8, List.forall_mem_cons.mpr ⟨wk_wsX2_announce_0_9, List.forall_mem_cons.mpr ⟨wk_wsX2_announce_0_10, fun _ h => absurd h List.not_mem_nil⟩⟩⟩⟩) w) (lf_wsX2_announce_4 w))⟩) (by decide +kernel)
set_option maxRecDepth 20000 in
theorem gX2_announce_X0_copyFrom_n163 : GoodIn wsX2_announce (wsX0_copyFrom) := ggX2_announce_X0_copyFrom
set_option maxRecDepth 20000 in
theorem ggX2_announce_X2_listen : GoodIn wsX2_announce wsX2_listen := goodIn_sub (List.forall_mem_cons.mpr ⟨wk_wsX2_announce_0_15, (fun w h => (List.mem_append.mp h).elim ((fun w h => (List.mem_append.mp h).elim ((fun w h => (List.mem_append.mp h).elim ((fun w h => (List.mem_append.mp h).elim (wsX2_listen_r1_of_wsX2_announce w) (wsX2_listen_r2_of_wsX2_announce w)) w) (lf_wsX2_announce_3 w)) w) (lf_wsX2_announce_4 w)) w) (lf_wsX2_announce_5 w))⟩) (by decide +kernel)
set_option maxRecDepth 20000 in
theorem gX2_announce_X2_listen : GoodIn wsX2_announce (wsV RX2 167 RX2 yX2_listen wsX2_listen) := goodIn_app (goodIn_sub (List.forall_mem_cons.mpr ⟨wk_wsX2_announce_0_11, List.forall_mem_cons.mpr ⟨wk_wsX2_announce_0_12, List.forall_mem_cons.mpr ⟨wk_wsX2_announce_0_13, List.forall_mem_cons.mpr ⟨wk_wsX2_announce_0_14, fun _ h => absurd h List.not_mem_nil⟩⟩⟩⟩) (by decide +kernel)) ggX2_announce_X2_listen
theorem dX2_announce_0 : decode cX2_announce 0 = .ok (.aload_n 0, 1) := by decide +kernel
theorem dX2_announce_1 : decode cX2_announce 1 = .ok (.getfield 43, 3) := by decide +kernel
theorem dX2_announce_4 : decode cX2_announce 4 = .ok (.aload_n 0, 1) := by decide +kernel
theorem dX2_announce_5 : decode cX2_announce 5 = .ok (.getfield 39, 3) := by decide +kernel
theorem dX2_announce_8 : decode cX2_announce 8 = .ok (.invokevirtual 163, 3) := by decide +kernel
theorem dX2_announce_11 : decode cX2_announce 11 = .ok (.iconst 0, 1) := by decide +kernel
theorem dX2_announce_12 : decode cX2_announce 12 = .ok (.istore_n 1, 1) := by decide +kernel
theorem dX2_announce_13 : decode cX2_announce 13 = .ok (.iload_n 1, 1) := by decide +kernel
theorem dX2_announce_14 : decode cX2_announce 14 = .ok (.aload_n 0, 1) := by decide +kernel
theorem dX2_announce_15 : decode cX2_announce 15 = .ok (.getfield 49, 3) := by decide +kernel
theorem dX2_announce_18 : decode cX2_announce 18 = .ok (.if_icmp .ge 14, 3) := by decide +kernel
theorem dX2_announce_21 : decode cX2_announce 21 = .ok (.aload_n 0, 1) := by decide +kernel
theorem dX2_announce_22 : decode cX2_announce 22 = .ok (.iload_n 1, 1) := by decide +kernel
theorem dX2_announce_23 : decode cX2_announce 23 = .ok (.invokevirtual 167, 3) := by decide +kernel
theorem dX2_announce_26 : decode cX2_announce 26 = .ok (.iinc 1 1, 3) := by decide +kernel
theorem dX2_announce_29 : decode cX2_announce 29 = .ok (.goto (-16), 3) := by decide +kernel
theorem dX2_announce_32 : decode cX2_announce 32 = .ok (.return_, 1) := by decide +kernel
set_option maxRecDepth 20000 in
theorem ggX2_listen_X2_knowOnlyItself : GoodIn wsX2_listen wsX2_knowOnlyItself := goodIn_sub (List.forall_mem_cons.mpr ⟨wk_wsX2_listen_0_7, (fun w h => (List.mem_append.mp h).elim ((fun w h => (List.mem_append.mp h).elim ((List.forall_mem_cons.mpr ⟨wk_wsX2_listen_0_2, List.forall_mem_cons.mpr ⟨wk_wsX2_listen_0_8, List.forall_mem_cons.mpr ⟨wk_wsX2_listen_0_9, List.forall_mem_cons.mpr ⟨wk_wsX2_listen_0_10, List.forall_mem_cons.mpr ⟨wk_wsX2_listen_0_6, List.forall_mem_cons.mpr ⟨wk_wsX2_listen_0_11, List.forall_mem_cons.mpr ⟨wk_wsX2_listen_0_12, List.forall_mem_cons.mpr ⟨wk_wsX2_listen_0_13, List.forall_mem_cons.mpr ⟨wk_wsX2_listen_0_14, List.forall_mem_cons.mpr ⟨wk_wsX2_listen_0_15, List.forall_mem_cons.mpr ⟨wk_wsX2_listen_0_16, List.forall_mem_cons.mpr ⟨wk_wsX2_listen_0_17, List.forall_mem_cons.mpr ⟨wk_wsX2_listen_0_18, List.forall_mem_cons.mpr ⟨wk_wsX2_listen_0_19, List.forall_mem_cons.mpr ⟨wk_wsX2_listen_0_20, List.forall_mem_cons.mpr ⟨wk_wsX2_listen_0_21, fun _ h => absurd h List.not_mem_nil⟩⟩⟩⟩⟩⟩⟩⟩⟩⟩⟩⟩⟩⟩⟩⟩) w) (lf_wsX2_listen_2 w)) w) (lf_wsX2_listen_3 w))⟩) (by decide +kernel)
set_option maxRecDepth 20000 in
theorem gX2_listen_X2_knowOnlyItself : GoodIn wsX2_listen (wsV RX2 67 RX2 yX2_knowOnlyItself wsX2_knowOnlyItself) := goodIn_app (goodIn_sub (List.forall_mem_cons.mpr ⟨wk_wsX2_listen_0_3, List.forall_mem_cons.mpr ⟨wk_wsX2_listen_0_4, List.forall_mem_cons.mpr ⟨wk_wsX2_listen_0_5, List.forall_mem_cons.mpr ⟨wk_wsX2_listen_0_6, fun _ h => absurd h List.not_mem_nil⟩⟩⟩⟩) (by decide +kernel)) ggX2_listen_X2_knowOnlyItself
set_option maxRecDepth 20000 in
theorem ggX2_listen_X2_areNeighbours : GoodIn wsX2_listen wsX2_areNeighbours := goodIn_sub (List.forall_mem_cons.mpr ⟨wk_wsX2_listen_1_1, (fun w h => (List.mem_append.mp h).elim ((fun w h => (List.mem_append.mp h).elim ((List.forall_mem_cons.mpr ⟨wk_wsX2_listen_1_2, List.forall_mem_cons.mpr ⟨wk_wsX2_listen_1_3, List.forall_mem_cons.mpr ⟨wk_wsX2_listen_1_4, List.forall_mem_cons.mpr ⟨wk_wsX2_listen_1_5, List.forall_mem_cons.mpr ⟨wk_wsX2_listen_1_6, List.forall_mem_cons.mpr ⟨wk_wsX2_listen_1_7, List.forall_mem_cons.mpr ⟨wk_wsX2_listen_1_8, List.forall_mem_cons.mpr ⟨wk_wsX2_listen_1_9, List.forall_mem_cons.mpr ⟨wk_wsX2_listen_1_10, List.forall_mem_cons.mpr ⟨wk_wsX2_listen_1_11, fun _ h => absurd h List.not_mem_nil⟩⟩⟩⟩⟩⟩⟩⟩⟩⟩) w) (lf_wsX2_listen_2 w)) w) (lf_wsX2_listen_4 w))⟩) (by decide +kernel)
set_option maxRecDepth 20000 in
theorem gX2_listen_X2_areNeighbours : GoodIn wsX2_listen (wsV RX2 122 RX2 yX2_areNeighbours wsX2_areNeighbours) := goodIn_app (goodIn_sub (List.forall_mem_cons.mpr ⟨wk_wsX2_listen_0_22, List.forall_mem_cons.mpr ⟨wk_wsX2_listen_0_23, List.forall_mem_cons.mpr ⟨wk_wsX2_listen_1_0, List.forall_mem_cons.mpr ⟨wk_wsX2_listen_0_6, fun _ h => absurd h List.not_mem_nil⟩⟩⟩⟩) (by decide +kernel)) ggX2_listen_X2_areNeighbours
set_option maxRecDepth 20000 in
theorem ggX2_listen_X0_reaches : GoodIn wsX2_listen wsX0_reaches := goodIn_sub (List.forall_mem_cons.mpr ⟨wk_wsX2_listen_1_14, (fun w h => (List.mem_append.mp h).elim ((List.forall_mem_cons.mpr ⟨wk_wsX2_listen_0_20, List.forall_mem_cons.mpr ⟨wk_wsX2_listen_0_21, fun _ h => absurd h List.not_mem_nil⟩⟩) w) (lf_wsX2_listen_3 w))⟩) (by decide +kernel)
set_option maxRecDepth 20000 in
theorem gX2_listen_X0_reaches_n170 : GoodIn wsX2_listen (wsX0_reaches) := ggX2_listen_X0_reaches
set_option maxRecDepth 20000 in
theorem ggX2_listen_X0_takeIfBetter : GoodIn wsX2_listen wsX0_takeIfBetter := goodIn_sub (List.forall_mem_cons.mpr ⟨wk_wsX2_listen_1_17, (fun w h => (List.mem_append.mp h).elim ((List.forall_mem_cons.mpr ⟨wk_wsX2_listen_0_19, List.forall_mem_cons.mpr ⟨wk_wsX2_listen_0_20, List.forall_mem_cons.mpr ⟨wk_wsX2_listen_0_18, List.forall_mem_cons.mpr ⟨wk_wsX2_listen_0_21, fun _ h => absurd h List.not_mem_nil⟩⟩⟩⟩) w) (lf_wsX2_listen_3 w))⟩) (by decide +kernel)
set_option maxRecDepth 20000 in
theorem gX2_listen_X0_takeIfBetter_n173 : GoodIn wsX2_listen (wsX0_takeIfBetter) := ggX2_listen_X0_takeIfBetter
theorem dX2_listen_0 : decode cX2_listen 0 = .ok (.aload_n 0, 1) := by decide +kernel
theorem dX2_listen_1 : decode cX2_listen 1 = .ok (.iload_n 1, 1) := by decide +kernel
theorem dX2_listen_2 : decode cX2_listen 2 = .ok (.invokevirtual 67, 3) := by decide +kernel
theorem dX2_listen_5 : decode cX2_listen 5 = .ok (.iconst 0, 1) := by decide +kernel
theorem dX2_listen_6 : decode cX2_listen 6 = .ok (.istore_n 2, 1) := by decide +kernel
theorem dX2_listen_7 : decode cX2_listen 7 = .ok (.iload_n 2, 1) := by decide +kernel
theorem dX2_listen_8 : decode cX2_listen 8 = .ok (.aload_n 0, 1) := by decide +kernel
theorem dX2_listen_9 : decode cX2_listen 9 = .ok (.getfield 49, 3) := by decide +kernel
theorem dX2_listen_12 : decode cX2_listen 12 = .ok (.if_icmp .ge 43, 3) := by decide +kernel
theorem dX2_listen_15 : decode cX2_listen 15 = .ok (.aload_n 0, 1) := by decide +kernel
theorem dX2_listen_16 : decode cX2_listen 16 = .ok (.iload_n 1, 1) := by decide +kernel
theorem dX2_listen_17 : decode cX2_listen 17 = .ok (.iload_n 2, 1) := by decide +kernel
theorem dX2_listen_18 : decode cX2_listen 18 = .ok (.invokevirtual 122, 3) := by decide +kernel
theorem dX2_listen_21 : decode cX2_listen 21 = .ok (.ifCond .eq 28, 3) := by decide +kernel
theorem dX2_listen_24 : decode cX2_listen 24 = .ok (.aload_n 0, 1) := by decide +kernel
theorem dX2_listen_25 : decode cX2_listen 25 = .ok (.getfield 43, 3) := by decide +kernel
theorem dX2_listen_28 : decode cX2_listen 28 = .ok (.iload_n 2, 1) := by decide +kernel
theorem dX2_listen_29 : decode cX2_listen 29 = .ok (.iload_n 1, 1) := by decide +kernel
theorem dX2_listen_30 : decode cX2_listen 30 = .ok (.invokevirtual 170, 3) := by decide +kernel
theorem dX2_listen_33 : decode cX2_listen 33 = .ok (.ifCond .eq 16, 3) := by decide +kernel
theorem dX2_listen_36 : decode cX2_listen 36 = .ok (.aload_n 0, 1) := by decide +kernel
theorem dX2_listen_37 : decode cX2_listen 37 = .ok (.getfield 39, 3) := by decide +kernel
theorem dX2_listen_40 : decode cX2_listen 40 = .ok (.iload_n 1, 1) := by decide +kernel
theorem dX2_listen_41 : decode cX2_listen 41 = .ok (.iload_n 2, 1) := by decide +kernel
theorem dX2_listen_42 : decode cX2_listen 42 = .ok (.aload_n 0, 1) := by decide +kernel
theorem dX2_listen_43 : decode cX2_listen 43 = .ok (.getfield 43, 3) := by decide +kernel
theorem dX2_listen_46 : decode cX2_listen 46 = .ok (.invokevirtual 173, 3) := by decide +kernel
theorem dX2_listen_49 : decode cX2_listen 49 = .ok (.iinc 2 1, 3) := by decide +kernel
theorem dX2_listen_52 : decode cX2_listen 52 = .ok (.goto (-45), 3) := by decide +kernel
theorem dX2_listen_55 : decode cX2_listen 55 = .ok (.return_, 1) := by decide +kernel
theorem dX2_isNearer_0 : decode cX2_isNearer 0 = .ok (.aload_n 0, 1) := by decide +kernel
theorem dX2_isNearer_1 : decode cX2_isNearer 1 = .ok (.getfield 39, 3) := by decide +kernel
theorem dX2_isNearer_4 : decode cX2_isNearer 4 = .ok (.getfield 116, 3) := by decide +kernel
theorem dX2_isNearer_7 : decode cX2_isNearer 7 = .ok (.iload_n 1, 1) := by decide +kernel
theorem dX2_isNearer_8 : decode cX2_isNearer 8 = .ok (.iaload, 1) := by decide +kernel
theorem dX2_isNearer_9 : decode cX2_isNearer 9 = .ok (.istore_n 3, 1) := by decide +kernel
theorem dX2_isNearer_10 : decode cX2_isNearer 10 = .ok (.aload_n 0, 1) := by decide +kernel
theorem dX2_isNearer_11 : decode cX2_isNearer 11 = .ok (.getfield 39, 3) := by decide +kernel
theorem dX2_isNearer_14 : decode cX2_isNearer 14 = .ok (.getfield 116, 3) := by decide +kernel
theorem dX2_isNearer_17 : decode cX2_isNearer 17 = .ok (.iload_n 2, 1) := by decide +kernel
theorem dX2_isNearer_18 : decode cX2_isNearer 18 = .ok (.iaload, 1) := by decide +kernel
theorem dX2_isNearer_19 : decode cX2_isNearer 19 = .ok (.istore 4, 2) := by decide +kernel
theorem dX2_isNearer_21 : decode cX2_isNearer 21 = .ok (.iload_n 3, 1) := by decide +kernel
theorem dX2_isNearer_22 : decode cX2_isNearer 22 = .ok (.iload 4, 2) := by decide +kernel
theorem dX2_isNearer_24 : decode cX2_isNearer 24 = .ok (.if_icmp .lt 14, 3) := by decide +kernel
theorem dX2_isNearer_27 : decode cX2_isNearer 27 = .ok (.iload_n 3, 1) := by decide +kernel
theorem dX2_isNearer_28 : decode cX2_isNearer 28 = .ok (.iload 4, 2) := by decide +kernel
theorem dX2_isNearer_30 : decode cX2_isNearer 30 = .ok (.if_icmp .ne 12, 3) := by decide +kernel
theorem dX2_isNearer_33 : decode cX2_isNearer 33 = .ok (.iload_n 1, 1) := by decide +kernel
theorem dX2_isNearer_34 : decode cX2_isNearer 34 = .ok (.iload_n 2, 1) := by decide +kernel
theorem dX2_isNearer_35 : decode cX2_isNearer 35 = .ok (.if_icmp .ge 7, 3) := by decide +kernel
theorem dX2_isNearer_38 : decode cX2_isNearer 38 = .ok (.iconst 1, 1) := by decide +kernel
theorem dX2_isNearer_39 : decode cX2_isNearer 39 = .ok (.goto 4, 3) := by decide +kernel
theorem dX2_isNearer_42 : decode cX2_isNearer 42 = .ok (.iconst 0, 1) := by decide +kernel
theorem dX2_isNearer_43 : decode cX2_isNearer 43 = .ok (.ireturn, 1) := by decide +kernel
set_option maxRecDepth 20000 in
theorem ggX2_measureDistances_X2_reachNeighbours : GoodIn wsX2_measureDistances wsX2_reachNeighbours := goodIn_sub (List.forall_mem_cons.mpr ⟨wk_wsX2_measureDistances_0_6, (fun w h => (List.mem_append.mp h).elim ((fun w h => (List.mem_append.mp h).elim ((List.forall_mem_cons.mpr ⟨wk_wsX2_measureDistances_0_0, List.forall_mem_cons.mpr ⟨wk_wsX2_measureDistances_0_1, List.forall_mem_cons.mpr ⟨wk_wsX2_measureDistances_0_7, List.forall_mem_cons.mpr ⟨wk_wsX2_measureDistances_0_8, List.forall_mem_cons.mpr ⟨wk_wsX2_measureDistances_0_9, List.forall_mem_cons.mpr ⟨wk_wsX2_measureDistances_0_5, List.forall_mem_cons.mpr ⟨wk_wsX2_measureDistances_0_10, List.forall_mem_cons.mpr ⟨wk_wsX2_measureDistances_0_11, List.forall_mem_cons.mpr ⟨wk_wsX2_measureDistances_0_12, List.forall_mem_cons.mpr ⟨wk_wsX2_measureDistances_0_13, List.forall_mem_cons.mpr ⟨wk_wsX2_measureDistances_0_14, List.forall_mem_cons.mpr ⟨wk_wsX2_measureDistances_0_15, List.forall_mem_cons.mpr ⟨wk_wsX2_measureDistances_0_16, List.forall_mem_cons.mpr ⟨wk_wsX2_measureDistances_0_17, List.forall_mem_cons.mpr ⟨wk_wsX2_measureDistances_0_18, List.forall_mem_cons.mpr ⟨wk_wsX2_measureDistances_0_19, List.forall_mem_cons.mpr ⟨wk_wsX2_measureDistances_0_20, fun _ h => absurd h List.not_mem_nil⟩⟩⟩⟩⟩⟩⟩⟩⟩⟩⟩⟩⟩⟩⟩⟩⟩) w) (lf_wsX2_measureDistances_1 w)) w) (lf_wsX2_measureDistances_2 w))⟩) (by decide +kernel)
set_option maxRecDepth 20000 in
theorem gX2_measureDistances_X2_reachNeighbours : GoodIn wsX2_measureDistances (wsV RX2 177 RX2 yX2_reachNeighbours wsX2_reachNeighbours) := goodIn_app (goodIn_sub (List.forall_mem_cons.mpr ⟨wk_wsX2_measureDistances_0_2, List.forall_mem_cons.mpr ⟨wk_wsX2_measureDistances_0_3, List.forall_mem_cons.mpr ⟨wk_wsX2_measureDistances_0_4, List.forall_mem_cons.mpr ⟨wk_wsX2_measureDistances_0_5, fun _ h => absurd h List.not_mem_nil⟩⟩⟩⟩) (by decide +kernel)) ggX2_measureDistances_X2_reachNeighbours
theorem dX2_measureDistances_0 : decode cX2_measureDistances 0 = .ok (.iconst 0, 1) := by decide +kernel
theorem dX2_measureDistances_1 : decode cX2_measureDistances 1 = .ok (.istore_n 2, 1) := by decide +kernel
theorem dX2_measureDistances_2 : decode cX2_measureDistances 2 = .ok (.iload_n 2, 1) := by decide +kernel
theorem dX2_measureDistances_3 : decode cX2_measureDistances 3 = .ok (.aload_n 0, 1) := by decide +kernel
theorem dX2_measureDistances_4 : decode cX2_measureDistances 4 = .ok (.getfield 49, 3) := by decide +kernel
theorem dX2_measureDistances_7 : decode cX2_measureDistances 7 = .ok (.if_icmp .ge 16, 3) := by decide +kernel
theorem dX2_measureDistances_10 : decode cX2_measureDistances 10 = .ok (.aload_n 0, 1) := by decide +kernel
theorem dX2_measureDistances_11 : decode cX2_measureDistances 11 = .ok (.getfield 46, 3) := by decide +kernel
theorem dX2_measureDistances_14 : decode cX2_measureDistances 14 = .ok (.iload_n 2, 1) := by decide +kernel
theorem dX2_measureDistances_15 : decode cX2_measureDistances 15 = .ok (.iconst (-1), 1) := by decide +kernel
theorem dX2_measureDistances_16 : decode cX2_measureDistances 16 = .ok (.iastore, 1) := by decide +kernel
theorem dX2_measureDistances_17 : decode cX2_measureDistances 17 = .ok (.iinc 2 1, 3) := by decide +kernel
theorem dX2_measureDistances_20 : decode cX2_measureDistances 20 = .ok (.goto (-18), 3) := by decide +kernel
theorem dX2_measureDistances_23 : decode cX2_measureDistances 23 = .ok (.aload_n 0, 1) := by decide +kernel
theorem dX2_measureDistances_24 : decode cX2_measureDistances 24 = .ok (.getfield 46, 3) := by decide +kernel
theorem dX2_measureDistances_27 : decode cX2_measureDistances 27 = .ok (.iload_n 1, 1) := by decide +kernel
theorem dX2_measureDistances_28 : decode cX2_measureDistances 28 = .ok (.iconst 0, 1) := by decide +kernel
theorem dX2_measureDistances_29 : decode cX2_measureDistances 29 = .ok (.iastore, 1) := by decide +kernel
theorem dX2_measureDistances_30 : decode cX2_measureDistances 30 = .ok (.iconst 0, 1) := by decide +kernel
theorem dX2_measureDistances_31 : decode cX2_measureDistances 31 = .ok (.istore_n 2, 1) := by decide +kernel
theorem dX2_measureDistances_32 : decode cX2_measureDistances 32 = .ok (.iload_n 2, 1) := by decide +kernel
theorem dX2_measureDistances_33 : decode cX2_measureDistances 33 = .ok (.aload_n 0, 1) := by decide +kernel
theorem dX2_measureDistances_34 : decode cX2_measureDistances 34 = .ok (.getfield 49, 3) := by decide +kernel
theorem dX2_measureDistances_37 : decode cX2_measureDistances 37 = .ok (.if_icmp .ge 43, 3) := by decide +kernel
theorem dX2_measureDistances_40 : decode cX2_measureDistances 40 = .ok (.iconst 0, 1) := by decide +kernel
theorem dX2_measureDistances_41 : decode cX2_measureDistances 41 = .ok (.istore_n 3, 1) := by decide +kernel
theorem dX2_measureDistances_42 : decode cX2_measureDistances 42 = .ok (.iload_n 3, 1) := by decide +kernel
theorem dX2_measureDistances_43 : decode cX2_measureDistances 43 = .ok (.aload_n 0, 1) := by decide +kernel
theorem dX2_measureDistances_44 : decode cX2_measureDistances 44 = .ok (.getfield 49, 3) := by decide +kernel
theorem dX2_measureDistances_47 : decode cX2_measureDistances 47 = .ok (.if_icmp .ge 27, 3) := by decide +kernel
theorem dX2_measureDistances_50 : decode cX2_measureDistances 50 = .ok (.aload_n 0, 1) := by decide +kernel
theorem dX2_measureDistances_51 : decode cX2_measureDistances 51 = .ok (.getfield 46, 3) := by decide +kernel
theorem dX2_measureDistances_54 : decode cX2_measureDistances 54 = .ok (.iload_n 3, 1) := by decide +kernel
theorem dX2_measureDistances_55 : decode cX2_measureDistances 55 = .ok (.iaload, 1) := by decide +kernel
theorem dX2_measureDistances_56 : decode cX2_measureDistances 56 = .ok (.iload_n 2, 1) := by decide +kernel
theorem dX2_measureDistances_57 : decode cX2_measureDistances 57 = .ok (.if_icmp .ne 11, 3) := by decide +kernel
theorem dX2_measureDistances_60 : decode cX2_measureDistances 60 = .ok (.aload_n 0, 1) := by decide +kernel
theorem dX2_measureDistances_61 : decode cX2_measureDistances 61 = .ok (.iload_n 3, 1) := by decide +kernel
theorem dX2_measureDistances_62 : decode cX2_measureDistances 62 = .ok (.iload_n 2, 1) := by decide +kernel
theorem dX2_measureDistances_63 : decode cX2_measureDistances 63 = .ok (.iconst 1, 1) := by decide +kernel
theorem dX2_measureDistances_64 : decode cX2_measureDistances 64 = .ok (.iadd, 1) := by decide +kernel
theorem dX2_measureDistances_65 : decode cX2_measureDistances 65 = .ok (.invokevirtual 177, 3) := by decide +kernel
theorem dX2_measureDistances_68 : decode cX2_measureDistances 68 = .ok (.iinc 3 1, 3) := by decide +kernel
theorem dX2_measureDistances_71 : decode cX2_measureDistances 71 = .ok (.goto (-29), 3) := by decide +kernel
theorem dX2_measureDistances_74 : decode cX2_measureDistances 74 = .ok (.iinc 2 1, 3) := by decide +kernel
theorem dX2_measureDistances_77 : decode cX2_measureDistances 77 = .ok (.goto (-45), 3) := by decide +kernel
theorem dX2_measureDistances_80 : decode cX2_measureDistances 80 = .ok (.return_, 1) := by decide +kernel
set_option maxRecDepth 20000 in
theorem ggX2_reachNeighbours_X2_areNeighbours : GoodIn wsX2_reachNeighbours wsX2_areNeighbours := goodIn_sub (List.forall_mem_cons.mpr ⟨wk_wsX2_reachNeighbours_0_6, (fun w h => (List.mem_append.mp h).elim ((fun w h => (List.mem_append.mp h).elim ((List.forall_mem_cons.mpr ⟨wk_wsX2_reachNeighbours_0_7, List.forall_mem_cons.mpr ⟨wk_wsX2_reachNeighbours_0_8, List.forall_mem_cons.mpr ⟨wk_wsX2_reachNeighbours_0_9, List.forall_mem_cons.mpr ⟨wk_wsX2_reachNeighbours_0_10, List.forall_mem_cons.mpr ⟨wk_wsX2_reachNeighbours_0_11, List.forall_mem_cons.mpr ⟨wk_wsX2_reachNeighbours_0_12, List.forall_mem_cons.mpr ⟨wk_wsX2_reachNeighbours_0_13, List.forall_mem_cons.mpr ⟨wk_wsX2_reachNeighbours_0_14, List.forall_mem_cons.mpr ⟨wk_wsX2_reachNeighbours_0_15, List.forall_mem_cons.mpr ⟨wk_wsX2_reachNeighbours_0_16, fun _ h => absurd h List.not_mem_nil⟩⟩⟩⟩⟩⟩⟩⟩⟩⟩) w) (lf_wsX2_reachNeighbours_1 w)) w) (lf_wsX2_reachNeighbours_2 w))⟩) (by decide +kernel)
set_option maxRecDepth 20000 in
theorem gX2_reachNeighbours_X2_areNeighbours : GoodIn wsX2_reachNeighbours (wsV RX2 122 RX2 yX2_areNeighbours wsX2_areNeighbours) := goodIn_app (goodIn_sub (List.forall_mem_cons.mpr ⟨wk_wsX2_reachNeighbours_0_2, List.forall_mem_cons.mpr ⟨wk_wsX2_reachNeighbours_0_3, List.forall_mem_cons.mpr ⟨wk_wsX2_reachNeighbours_0_4, List.forall_mem_cons.mpr ⟨wk_wsX2_reachNeighbours_0_5, fun _ h => absurd h List.not_mem_nil⟩⟩⟩⟩) (by decide +kernel)) ggX2_reachNeighbours_X2_areNeighbours
theorem dX2_reachNeighbours_0 : decode cX2_reachNeighbours 0 = .ok (.iconst 0, 1) := by decide +kernel
theorem dX2_reachNeighbours_1 : decode cX2_reachNeighbours 1 = .ok (.istore_n 3, 1) := by decide +kernel
theorem dX2_reachNeighbours_2 : decode cX2_reachNeighbours 2 = .ok (.iload_n 3, 1) := by decide +kernel
theorem dX2_reachNeighbours_3 : decode cX2_reachNeighbours 3 = .ok (.aload_n 0, 1) := by decide +kernel
theorem dX2_reachNeighbours_4 : decode cX2_reachNeighbours 4 = .ok (.getfield 49, 3) := by decide +kernel
theorem dX2_reachNeighbours_7 : decode cX2_reachNeighbours 7 = .ok (.if_icmp .ge 35, 3) := by decide +kernel
theorem dX2_reachNeighbours_10 : decode cX2_reachNeighbours 10 = .ok (.aload_n 0, 1) := by decide +kernel
theorem dX2_reachNeighbours_11 : decode cX2_reachNeighbours 11 = .ok (.getfield 46, 3) := by decide +kernel
theorem dX2_reachNeighbours_14 : decode cX2_reachNeighbours 14 = .ok (.iload_n 3, 1) := by decide +kernel
theorem dX2_reachNeighbours_15 : decode cX2_reachNeighbours 15 = .ok (.iaload, 1) := by decide +kernel
theorem dX2_reachNeighbours_16 : decode cX2_reachNeighbours 16 = .ok (.iconst (-1), 1) := by decide +kernel
theorem dX2_reachNeighbours_17 : decode cX2_reachNeighbours 17 = .ok (.if_icmp .ne 19, 3) := by decide +kernel
theorem dX2_reachNeighbours_20 : decode cX2_reachNeighbours 20 = .ok (.aload_n 0, 1) := by decide +kernel
theorem dX2_reachNeighbours_21 : decode cX2_reachNeighbours 21 = .ok (.iload_n 1, 1) := by decide +kernel
theorem dX2_reachNeighbours_22 : decode cX2_reachNeighbours 22 = .ok (.iload_n 3, 1) := by decide +kernel
theorem dX2_reachNeighbours_23 : decode cX2_reachNeighbours 23 = .ok (.invokevirtual 122, 3) := by decide +kernel
theorem dX2_reachNeighbours_26 : decode cX2_reachNeighbours 26 = .ok (.ifCond .eq 10, 3) := by decide +kernel
theorem dX2_reachNeighbours_29 : decode cX2_reachNeighbours 29 = .ok (.aload_n 0, 1) := by decide +kernel
theorem dX2_reachNeighbours_30 : decode cX2_reachNeighbours 30 = .ok (.getfield 46, 3) := by decide +kernel
theorem dX2_reachNeighbours_33 : decode cX2_reachNeighbours 33 = .ok (.iload_n 3, 1) := by decide +kernel
theorem dX2_reachNeighbours_34 : decode cX2_reachNeighbours 34 = .ok (.iload_n 2, 1) := by decide +kernel
theorem dX2_reachNeighbours_35 : decode cX2_reachNeighbours 35 = .ok (.iastore, 1) := by decide +kernel
theorem dX2_reachNeighbours_36 : decode cX2_reachNeighbours 36 = .ok (.iinc 3 1, 3) := by decide +kernel
theorem dX2_reachNeighbours_39 : decode cX2_reachNeighbours 39 = .ok (.goto (-37), 3) := by decide +kernel
theorem dX2_reachNeighbours_42 : decode cX2_reachNeighbours 42 = .ok (.return_, 1) := by decide +kernel
set_option maxRecDepth 20000 in
theorem ggX2_bestInReach_X2_rankOf : GoodIn wsX2_bestInReach wsX2_rankOf := goodIn_sub (List.forall_mem_cons.mpr ⟨wk_wsX2_bestInReach_0_6, (fun w h => (List.mem_append.mp h).elim ((List.forall_mem_cons.mpr ⟨wk_wsX2_bestInReach_0_7, List.forall_mem_cons.mpr ⟨wk_wsX2_bestInReach_0_8, fun _ h => absurd h List.not_mem_nil⟩⟩) w) (lf_wsX2_bestInReach_1 w))⟩) (by decide +kernel)
set_option maxRecDepth 20000 in
theorem gX2_bestInReach_X2_rankOf : GoodIn wsX2_bestInReach (wsV RX2 157 RX2 yX2_rankOf wsX2_rankOf) := goodIn_app (goodIn_sub (List.forall_mem_cons.mpr ⟨wk_wsX2_bestInReach_0_2, List.forall_mem_cons.mpr ⟨wk_wsX2_bestInReach_0_3, List.forall_mem_cons.mpr ⟨wk_wsX2_bestInReach_0_4, List.forall_mem_cons.mpr ⟨wk_wsX2_bestInReach_0_5, fun _ h => absurd h List.not_mem_nil⟩⟩⟩⟩) (by decide +kernel)) ggX2_bestInReach_X2_rankOf
theorem dX2_bestInReach_0 : decode cX2_bestInReach 0 = .ok (.iload_n 1, 1) := by decide +kernel
theorem dX2_bestInReach_1 : decode cX2_bestInReach 1 = .ok (.istore_n 2, 1) := by decide +kernel
theorem dX2_bestInReach_2 : decode cX2_bestInReach 2 = .ok (.iconst 0, 1) := by decide +kernel
theorem dX2_bestInReach_3 : decode cX2_bestInReach 3 = .ok (.istore_n 3, 1) := by decide +kernel
theorem dX2_bestInReach_4 : decode cX2_bestInReach 4 = .ok (.iload_n 3, 1) := by decide +kernel
theorem dX2_bestInReach_5 : decode cX2_bestInReach 5 = .ok (.aload_n 0, 1) := by decide +kernel
theorem dX2_bestInReach_6 : decode cX2_bestInReach 6 = .ok (.getfield 49, 3) := by decide +kernel
theorem dX2_bestInReach_9 : decode cX2_bestInReach 9 = .ok (.if_icmp .ge 34, 3) := by decide +kernel
theorem dX2_bestInReach_12 : decode cX2_bestInReach 12 = .ok (.aload_n 0, 1) := by decide +kernel
theorem dX2_bestInReach_13 : decode cX2_bestInReach 13 = .ok (.getfield 46, 3) := by decide +kernel
theorem dX2_bestInReach_16 : decode cX2_bestInReach 16 = .ok (.iload_n 3, 1) := by decide +kernel
theorem dX2_bestInReach_17 : decode cX2_bestInReach 17 = .ok (.iaload, 1) := by decide +kernel
theorem dX2_bestInReach_18 : decode cX2_bestInReach 18 = .ok (.iconst (-1), 1) := by decide +kernel
theorem dX2_bestInReach_19 : decode cX2_bestInReach 19 = .ok (.if_icmp .eq 18, 3) := by decide +kernel
theorem dX2_bestInReach_22 : decode cX2_bestInReach 22 = .ok (.aload_n 0, 1) := by decide +kernel
theorem dX2_bestInReach_23 : decode cX2_bestInReach 23 = .ok (.iload_n 3, 1) := by decide +kernel
theorem dX2_bestInReach_24 : decode cX2_bestInReach 24 = .ok (.invokevirtual 157, 3) := by decide +kernel
theorem dX2_bestInReach_27 : decode cX2_bestInReach 27 = .ok (.aload_n 0, 1) := by decide +kernel
theorem dX2_bestInReach_28 : decode cX2_bestInReach 28 = .ok (.iload_n 2, 1) := by decide +kernel
theorem dX2_bestInReach_29 : decode cX2_bestInReach 29 = .ok (.invokevirtual 157, 3) := by decide +kernel
theorem dX2_bestInReach_32 : decode cX2_bestInReach 32 = .ok (.if_icmp .ge 5, 3) := by decide +kernel
theorem dX2_bestInReach_35 : decode cX2_bestInReach 35 = .ok (.iload_n 3, 1) := by decide +kernel
theorem dX2_bestInReach_36 : decode cX2_bestInReach 36 = .ok (.istore_n 2, 1) := by decide +kernel
theorem dX2_bestInReach_37 : decode cX2_bestInReach 37 = .ok (.iinc 3 1, 3) := by decide +kernel
theorem dX2_bestInReach_40 : decode cX2_bestInReach 40 = .ok (.goto (-36), 3) := by decide +kernel
theorem dX2_bestInReach_43 : decode cX2_bestInReach 43 = .ok (.iload_n 2, 1) := by decide +kernel
theorem dX2_bestInReach_44 : decode cX2_bestInReach 44 = .ok (.ireturn, 1) := by decide +kernel
set_option maxRecDepth 20000 in
theorem ggX2_passOneTick_X2_announce : GoodIn wsX2_passOneTick wsX2_announce := goodIn_sub (List.forall_mem_cons.mpr ⟨wk_wsX2_passOneTick_0_9, (fun w h => (List.mem_append.mp h).elim ((fun w h => (List.mem_append.mp h).elim ((fun w h => (List.mem_append.mp h).elim ((fun w h => (List.mem_append.mp h).elim (wsX2_announce_r1_of_wsX2_passOneTick w) ((fun w h => (List.mem_append.mp h).elim (wsX2_announce_r2_of_wsX2_passOneTick w) (wsX2_announce_r3_of_wsX2_passOneTick w)) w)) w) (lf_wsX2_passOneTick_3 w)) w) (lf_wsX2_passOneTick_4 w)) w) (lf_wsX2_passOneTick_5 w))⟩) (by decide +kernel)
set_option maxRecDepth 20000 in
theorem gX2_passOneTick_X2_announce : GoodIn wsX2_passOneTick (wsV RX2 180 RX2 yX2_announce wsX2_announce) := goodIn_app (goodIn_sub (List.forall_mem_cons.mpr ⟨wk_wsX2_passOneTick_0_5, List.forall_mem_cons.mpr ⟨wk_wsX2_passOneTick_0_6, List.forall_mem_cons.mpr ⟨wk_wsX2_passOneTick_0_7, List.forall_mem_cons.mpr ⟨wk_wsX2_passOneTick_0_8, fun _ h => absurd h List.not_mem_nil⟩⟩⟩⟩) (by decide +kernel)) ggX2_passOneTick_X2_announce
set_option maxRecDepth 20000 in
theorem ggX2_passOneTick_X2_steer : GoodIn wsX2_passOneTick wsX2_steer := goodIn_sub (List.forall_mem_cons.mpr ⟨wk_wsX2_passOneTick_2_11, (fun w h => (List.mem_append.mp h).elim ((fun w h => (List.mem_append.mp h).elim ((fun w h => (List.mem_append.mp h).elim ((List.forall_mem_cons.mpr ⟨wk_wsX2_passOneTick_0_4, List.forall_mem_cons.mpr ⟨wk_wsX2_passOneTick_0_1, List.forall_mem_cons.mpr ⟨wk_wsX2_passOneTick_1_17, List.forall_mem_cons.mpr ⟨wk_wsX2_passOneTick_2_12, List.forall_mem_cons.mpr ⟨wk_wsX2_passOneTick_0_3, List.forall_mem_cons.mpr ⟨wk_wsX2_passOneTick_2_13, List.forall_mem_cons.mpr ⟨wk_wsX2_passOneTick_2_14, List.forall_mem_cons.mpr ⟨wk_wsX2_passOneTick_2_15, List.forall_mem_cons.mpr ⟨wk_wsX2_passOneTick_2_16, List.forall_mem_cons.mpr ⟨wk_wsX2_passOneTick_0_8, List.forall_mem_cons.mpr ⟨wk_wsX2_passOneTick_2_17, List.forall_mem_cons.mpr ⟨wk_wsX2_passOneTick_0_0, List.forall_mem_cons.mpr ⟨wk_wsX2_passOneTick_2_18, List.forall_mem_cons.mpr ⟨wk_wsX2_passOneTick_1_19, List.forall_mem_cons.mpr ⟨wk_wsX2_passOneTick_2_19, List.forall_mem_cons.mpr ⟨wk_wsX2_passOneTick_2_20, List.forall_mem_cons.mpr ⟨wk_wsX2_passOneTick_2_21, List.forall_mem_cons.mpr ⟨wk_wsX2_passOneTick_2_22, List.forall_mem_cons.mpr ⟨wk_wsX2_passOneTick_1_23, List.forall_mem_cons.mpr ⟨wk_wsX2_passOneTick_2_0, List.forall_mem_cons.mpr ⟨wk_wsX2_passOneTick_2_1, fun _ h => absurd h List.not_mem_nil⟩⟩⟩⟩⟩⟩⟩⟩⟩⟩⟩⟩⟩⟩⟩⟩⟩⟩⟩⟩⟩) w) (lf_wsX2_passOneTick_3 w)) w) (lf_wsX2_passOneTick_4 w)) w) (lf_wsX2_passOneTick_5 w))⟩) (by decide +kernel)
set_option maxRecDepth 20000 in
theorem gX2_passOneTick_X2_steer : GoodIn wsX2_passOneTick (wsV RX2 183 RX2 yX2_steer wsX2_steer) := goodIn_app (goodIn_sub (List.forall_mem_cons.mpr ⟨wk_wsX2_passOneTick_2_8, List.forall_mem_cons.mpr ⟨wk_wsX2_passOneTick_2_9, List.forall_mem_cons.mpr ⟨wk_wsX2_passOneTick_2_10, List.forall_mem_cons.mpr ⟨wk_wsX2_passOneTick_0_8, fun _ h => absurd h List.not_mem_nil⟩⟩⟩⟩) (by decide +kernel)) ggX2_passOneTick_X2_steer
theorem dX2_passOneTick_0 : decode cX2_passOneTick 0 = .ok (.iconst 0, 1) := by decide +kernel
theorem dX2_passOneTick_1 : decode cX2_passOneTick 1 = .ok (.istore_n 1, 1) := by decide +kernel
theorem dX2_passOneTick_2 : decode cX2_passOneTick 2 = .ok (.iload_n 1, 1) := by decide +kernel
theorem dX2_passOneTick_3 : decode cX2_passOneTick 3 = .ok (.aload_n 0, 1) := by decide +kernel
theorem dX2_passOneTick_4 : decode cX2_passOneTick 4 = .ok (.getfield 49, 3) := by decide +kernel
theorem dX2_passOneTick_7 : decode cX2_passOneTick 7 = .ok (.if_icmp .ge 32, 3) := by decide +kernel
theorem dX2_passOneTick_10 : decode cX2_passOneTick 10 = .ok (.aload_n 0, 1) := by decide +kernel
theorem dX2_passOneTick_11 : decode cX2_passOneTick 11 = .ok (.getfield 22, 3) := by decide +kernel
theorem dX2_passOneTick_14 : decode cX2_passOneTick 14 = .ok (.iload_n 1, 1) := by decide +kernel
theorem dX2_passOneTick_15 : decode cX2_passOneTick 15 = .ok (.dup2, 1) := by decide +kernel
theorem dX2_passOneTick_16 : decode cX2_passOneTick 16 = .ok (.laload, 1) := by decide +kernel
theorem dX2_passOneTick_17 : decode cX2_passOneTick 17 = .ok (.aload_n 0, 1) := by decide +kernel
theorem dX2_passOneTick_18 : decode cX2_passOneTick 18 = .ok (.getfield 19, 3) := by decide +kernel
theorem dX2_passOneTick_21 : decode cX2_passOneTick 21 = .ok (.iload_n 1, 1) := by decide +kernel
theorem dX2_passOneTick_22 : decode cX2_passOneTick 22 = .ok (.iaload, 1) := by decide +kernel
theorem dX2_passOneTick_23 : decode cX2_passOneTick 23 = .ok (.i2l, 1) := by decide +kernel
theorem dX2_passOneTick_24 : decode cX2_passOneTick 24 = .ok (.aload_n 0, 1) := by decide +kernel
theorem dX2_passOneTick_25 : decode cX2_passOneTick 25 = .ok (.getfield 26, 3) := by decide +kernel
theorem dX2_passOneTick_28 : decode cX2_passOneTick 28 = .ok (.iload_n 1, 1) := by decide +kernel
theorem dX2_passOneTick_29 : decode cX2_passOneTick 29 = .ok (.laload, 1) := by decide +kernel
theorem dX2_passOneTick_30 : decode cX2_passOneTick 30 = .ok (.ladd, 1) := by decide +kernel
theorem dX2_passOneTick_31 : decode cX2_passOneTick 31 = .ok (.ladd, 1) := by decide +kernel
theorem dX2_passOneTick_32 : decode cX2_passOneTick 32 = .ok (.lastore, 1) := by decide +kernel
theorem dX2_passOneTick_33 : decode cX2_passOneTick 33 = .ok (.iinc 1 1, 3) := by decide +kernel
theorem dX2_passOneTick_36 : decode cX2_passOneTick 36 = .ok (.goto (-34), 3) := by decide +kernel
theorem dX2_passOneTick_39 : decode cX2_passOneTick 39 = .ok (.aload_n 0, 1) := by decide +kernel
theorem dX2_passOneTick_40 : decode cX2_passOneTick 40 = .ok (.invokevirtual 180, 3) := by decide +kernel
theorem dX2_passOneTick_43 : decode cX2_passOneTick 43 = .ok (.iconst 1, 1) := by decide +kernel
theorem dX2_passOneTick_44 : decode cX2_passOneTick 44 = .ok (.istore_n 1, 1) := by decide +kernel
theorem dX2_passOneTick_45 : decode cX2_passOneTick 45 = .ok (.iload_n 1, 1) := by decide +kernel
theorem dX2_passOneTick_46 : decode cX2_passOneTick 46 = .ok (.bipush 9, 2) := by decide +kernel
theorem dX2_passOneTick_48 : decode cX2_passOneTick 48 = .ok (.if_icmp .gt 43, 3) := by decide +kernel
theorem dX2_passOneTick_51 : decode cX2_passOneTick 51 = .ok (.iconst 0, 1) := by decide +kernel
theorem dX2_passOneTick_52 : decode cX2_passOneTick 52 = .ok (.istore_n 2, 1) := by decide +kernel
theorem dX2_passOneTick_53 : decode cX2_passOneTick 53 = .ok (.iload_n 2, 1) := by decide +kernel
theorem dX2_passOneTick_54 : decode cX2_passOneTick 54 = .ok (.aload_n 0, 1) := by decide +kernel
theorem dX2_passOneTick_55 : decode cX2_passOneTick 55 = .ok (.getfield 49, 3) := by decide +kernel
theorem dX2_passOneTick_58 : decode cX2_passOneTick 58 = .ok (.if_icmp .ge 27, 3) := by decide +kernel
theorem dX2_passOneTick_61 : decode cX2_passOneTick 61 = .ok (.aload_n 0, 1) := by decide +kernel
theorem dX2_passOneTick_62 : decode cX2_passOneTick 62 = .ok (.getfield 39, 3) := by decide +kernel
theorem dX2_passOneTick_65 : decode cX2_passOneTick 65 = .ok (.getfield 116, 3) := by decide +kernel
theorem dX2_passOneTick_68 : decode cX2_passOneTick 68 = .ok (.iload_n 2, 1) := by decide +kernel
theorem dX2_passOneTick_69 : decode cX2_passOneTick 69 = .ok (.iaload, 1) := by decide +kernel
theorem dX2_passOneTick_70 : decode cX2_passOneTick 70 = .ok (.iload_n 1, 1) := by decide +kernel
theorem dX2_passOneTick_71 : decode cX2_passOneTick 71 = .ok (.if_icmp .ne 8, 3) := by decide +kernel
theorem dX2_passOneTick_74 : decode cX2_passOneTick 74 = .ok (.aload_n 0, 1) := by decide +kernel
theorem dX2_passOneTick_75 : decode cX2_passOneTick 75 = .ok (.iload_n 2, 1) := by decide +kernel
theorem dX2_passOneTick_76 : decode cX2_passOneTick 76 = .ok (.invokevirtual 183, 3) := by decide +kernel
theorem dX2_passOneTick_79 : decode cX2_passOneTick 79 = .ok (.iinc 2 1, 3) := by decide +kernel
theorem dX2_passOneTick_82 : decode cX2_passOneTick 82 = .ok (.goto (-29), 3) := by decide +kernel
theorem dX2_passOneTick_85 : decode cX2_passOneTick 85 = .ok (.iinc 1 1, 3) := by decide +kernel
theorem dX2_passOneTick_88 : decode cX2_passOneTick 88 = .ok (.goto (-43), 3) := by decide +kernel
theorem dX2_passOneTick_91 : decode cX2_passOneTick 91 = .ok (.return_, 1) := by decide +kernel
set_option maxRecDepth 20000 in
theorem ggX2_steer_X2_isNode : GoodIn wsX2_steer wsX2_isNode := goodIn_sub (List.forall_mem_cons.mpr ⟨wk_wsX2_steer_0_10, (fun w h => (List.mem_append.mp h).elim ((List.forall_mem_cons.mpr ⟨wk_wsX2_steer_0_11, fun _ h => absurd h List.not_mem_nil⟩) w) (lf_wsX2_steer_1 w))⟩) (by decide +kernel)
set_option maxRecDepth 20000 in
theorem gX2_steer_X2_isNode : GoodIn wsX2_steer (wsV RX2 144 RX2 yX2_isNode wsX2_isNode) := goodIn_app (goodIn_sub (List.forall_mem_cons.mpr ⟨wk_wsX2_steer_0_6, List.forall_mem_cons.mpr ⟨wk_wsX2_steer_0_7, List.forall_mem_cons.mpr ⟨wk_wsX2_steer_0_8, List.forall_mem_cons.mpr ⟨wk_wsX2_steer_0_9, fun _ h => absurd h List.not_mem_nil⟩⟩⟩⟩) (by decide +kernel)) ggX2_steer_X2_isNode
set_option maxRecDepth 20000 in
theorem ggX2_steer_X1_errorFrom : GoodIn wsX2_steer wsX1_errorFrom := goodIn_sub (List.forall_mem_cons.mpr ⟨wk_wsX2_steer_0_15, (fun w h => (List.mem_append.mp h).elim ((List.forall_mem_cons.mpr ⟨wk_wsX2_steer_0_16, List.forall_mem_cons.mpr ⟨wk_wsX2_steer_0_17, List.forall_mem_cons.mpr ⟨wk_wsX2_steer_0_18, List.forall_mem_cons.mpr ⟨wk_wsX2_steer_0_19, List.forall_mem_cons.mpr ⟨wk_wsX2_steer_0_13, List.forall_mem_cons.mpr ⟨wk_wsX2_steer_0_20, fun _ h => absurd h List.not_mem_nil⟩⟩⟩⟩⟩⟩) w) (lf_wsX2_steer_3 w))⟩) (by decide +kernel)
set_option maxRecDepth 20000 in
theorem gX2_steer_X1_errorFrom_n186 : GoodIn wsX2_steer (wsX1_errorFrom) := ggX2_steer_X1_errorFrom
theorem dX2_steer_0 : decode cX2_steer 0 = .ok (.aload_n 0, 1) := by decide +kernel
theorem dX2_steer_1 : decode cX2_steer 1 = .ok (.getfield 39, 3) := by decide +kernel
theorem dX2_steer_4 : decode cX2_steer 4 = .ok (.getfield 119, 3) := by decide +kernel
theorem dX2_steer_7 : decode cX2_steer 7 = .ok (.iload_n 1, 1) := by decide +kernel
theorem dX2_steer_8 : decode cX2_steer 8 = .ok (.iaload, 1) := by decide +kernel
theorem dX2_steer_9 : decode cX2_steer 9 = .ok (.istore_n 2, 1) := by decide +kernel
theorem dX2_steer_10 : decode cX2_steer 10 = .ok (.aload_n 0, 1) := by decide +kernel
theorem dX2_steer_11 : decode cX2_steer 11 = .ok (.iload_n 2, 1) := by decide +kernel
theorem dX2_steer_12 : decode cX2_steer 12 = .ok (.invokevirtual 144, 3) := by decide +kernel
theorem dX2_steer_15 : decode cX2_steer 15 = .ok (.ifCond .ne 4, 3) := by decide +kernel
theorem dX2_steer_18 : decode cX2_steer 18 = .ok (.return_, 1) := by decide +kernel
theorem dX2_steer_19 : decode cX2_steer 19 = .ok (.aload_n 0, 1) := by decide +kernel
theorem dX2_steer_20 : decode cX2_steer 20 = .ok (.getfield 22, 3) := by decide +kernel
theorem dX2_steer_23 : decode cX2_steer 23 = .ok (.iload_n 1, 1) := by decide +kernel
theorem dX2_steer_24 : decode cX2_steer 24 = .ok (.laload, 1) := by decide +kernel
theorem dX2_steer_25 : decode cX2_steer 25 = .ok (.aload_n 0, 1) := by decide +kernel
theorem dX2_steer_26 : decode cX2_steer 26 = .ok (.getfield 22, 3) := by decide +kernel
theorem dX2_steer_29 : decode cX2_steer 29 = .ok (.iload_n 2, 1) := by decide +kernel
theorem dX2_steer_30 : decode cX2_steer 30 = .ok (.laload, 1) := by decide +kernel
theorem dX2_steer_31 : decode cX2_steer 31 = .ok (.lsub, 1) := by decide +kernel
theorem dX2_steer_32 : decode cX2_steer 32 = .ok (.aload_n 0, 1) := by decide +kernel
theorem dX2_steer_33 : decode cX2_steer 33 = .ok (.getfield 32, 3) := by decide +kernel
theorem dX2_steer_36 : decode cX2_steer 36 = .ok (.iload_n 2, 1) := by decide +kernel
theorem dX2_steer_37 : decode cX2_steer 37 = .ok (.iload_n 1, 1) := by decide +kernel
theorem dX2_steer_38 : decode cX2_steer 38 = .ok (.invokevirtual 186, 3) := by decide +kernel
theorem dX2_steer_41 : decode cX2_steer 41 = .ok (.i2l, 1) := by decide +kernel
theorem dX2_steer_42 : decode cX2_steer 42 = .ok (.ladd, 1) := by decide +kernel
theorem dX2_steer_43 : decode cX2_steer 43 = .ok (.lstore_n 3, 1) := by decide +kernel
theorem dX2_steer_44 : decode cX2_steer 44 = .ok (.aload_n 0, 1) := by decide +kernel
theorem dX2_steer_45 : decode cX2_steer 45 = .ok (.getfield 22, 3) := by decide +kernel
theorem dX2_steer_48 : decode cX2_steer 48 = .ok (.iload_n 1, 1) := by decide +kernel
theorem dX2_steer_49 : decode cX2_steer 49 = .ok (.dup2, 1) := by decide +kernel
theorem dX2_steer_50 : decode cX2_steer 50 = .ok (.laload, 1) := by decide +kernel
theorem dX2_steer_51 : decode cX2_steer 51 = .ok (.lload_n 3, 1) := by decide +kernel
theorem dX2_steer_52 : decode cX2_steer 52 = .ok (.ldc2_w 190, 3) := by decide +kernel
theorem dX2_steer_55 : decode cX2_steer 55 = .ok (.ldiv, 1) := by decide +kernel
theorem dX2_steer_56 : decode cX2_steer 56 = .ok (.lsub, 1) := by decide +kernel
theorem dX2_steer_57 : decode cX2_steer 57 = .ok (.lastore, 1) := by decide +kernel
theorem dX2_steer_58 : decode cX2_steer 58 = .ok (.aload_n 0, 1) := by decide +kernel
theorem dX2_steer_59 : decode cX2_steer 59 = .ok (.getfield 26, 3) := by decide +kernel
theorem dX2_steer_62 : decode cX2_steer 62 = .ok (.iload_n 1, 1) := by decide +kernel
theorem dX2_steer_63 : decode cX2_steer 63 = .ok (.dup2, 1) := by decide +kernel
theorem dX2_steer_64 : decode cX2_steer 64 = .ok (.laload, 1) := by decide +kernel
theorem dX2_steer_65 : decode cX2_steer 65 = .ok (.lload_n 3, 1) := by decide +kernel
theorem dX2_steer_66 : decode cX2_steer 66 = .ok (.ldc2_w 192, 3) := by decide +kernel
theorem dX2_steer_69 : decode cX2_steer 69 = .ok (.ldiv, 1) := by decide +kernel
theorem dX2_steer_70 : decode cX2_steer 70 = .ok (.lsub, 1) := by decide +kernel
theorem dX2_steer_71 : decode cX2_steer 71 = .ok (.lastore, 1) := by decide +kernel
theorem dX2_steer_72 : decode cX2_steer 72 = .ok (.return_, 1) := by decide +kernel
theorem dX3_init_0 : decode cX3_init 0 = .ok (.aload_n 0, 1) := by decide +kernel
theorem dX3_init_1 : decode cX3_init 1 = .ok (.invokespecial 1, 3) := by decide +kernel
theorem dX3_init_4 : decode cX3_init 4 = .ok (.aload_n 0, 1) := by decide +kernel
theorem dX3_init_5 : decode cX3_init 5 = .ok (.bipush 10, 2) := by decide +kernel
theorem dX3_init_7 : decode cX3_init 7 = .ok (.newarray .int, 2) := by decide +kernel
theorem dX3_init_9 : decode cX3_init 9 = .ok (.putfield 7, 3) := by decide +kernel
theorem dX3_init_12 : decode cX3_init 12 = .ok (.aload_n 0, 1) := by decide +kernel
theorem dX3_init_13 : decode cX3_init 13 = .ok (.bipush 10, 2) := by decide +kernel
theorem dX3_init_15 : decode cX3_init 15 = .ok (.newarray .int, 2) := by decide +kernel
theorem dX3_init_17 : decode cX3_init 17 = .ok (.putfield 13, 3) := by decide +kernel
theorem dX3_init_20 : decode cX3_init 20 = .ok (.aload_n 0, 1) := by decide +kernel
theorem dX3_init_21 : decode cX3_init 21 = .ok (.bipush 10, 2) := by decide +kernel
theorem dX3_init_23 : decode cX3_init 23 = .ok (.newarray .int, 2) := by decide +kernel
theorem dX3_init_25 : decode cX3_init 25 = .ok (.putfield 16, 3) := by decide +kernel
theorem dX3_init_28 : decode cX3_init 28 = .ok (.aload_n 0, 1) := by decide +kernel
theorem dX3_init_29 : decode cX3_init 29 = .ok (.bipush 10, 2) := by decide +kernel
theorem dX3_init_31 : decode cX3_init 31 = .ok (.newarray .int, 2) := by decide +kernel
theorem dX3_init_33 : decode cX3_init 33 = .ok (.putfield 19, 3) := by decide +kernel
theorem dX3_init_36 : decode cX3_init 36 = .ok (.aload_n 0, 1) := by decide +kernel
theorem dX3_init_37 : decode cX3_init 37 = .ok (.bipush 10, 2) := by decide +kernel
theorem dX3_init_39 : decode cX3_init 39 = .ok (.newarray .long, 2) := by decide +kernel
theorem dX3_init_41 : decode cX3_init 41 = .ok (.putfield 22, 3) := by decide +kernel
theorem dX3_init_44 : decode cX3_init 44 = .ok (.aload_n 0, 1) := by decide +kernel
theorem dX3_init_45 : decode cX3_init 45 = .ok (.bipush 10, 2) := by decide +kernel
theorem dX3_init_47 : decode cX3_init 47 = .ok (.newarray .long, 2) := by decide +kernel
theorem dX3_init_49 : decode cX3_init 49 = .ok (.putfield 26, 3) := by decide +kernel
theorem dX3_init_52 : decode cX3_init 52 = .ok (.aload_n 0, 1) := by decide +kernel
theorem dX3_init_53 : decode cX3_init 53 = .ok (.bipush 100, 2) := by decide +kernel
theorem dX3_init_55 : decode cX3_init 55 = .ok (.newarray .boolean, 2) := by decide +kernel
theorem dX3_init_57 : decode cX3_init 57 = .ok (.putfield 29, 3) := by decide +kernel
theorem dX3_init_60 : decode cX3_init 60 = .ok (.aload_n 0, 1) := by decide +kernel
theorem dX3_init_61 : decode cX3_init 61 = .ok (.bipush 100, 2) := by decide +kernel
theorem dX3_init_63 : decode cX3_init 63 = .ok (.newarray .int, 2) := by decide +kernel
theorem dX3_init_65 : decode cX3_init 65 = .ok (.putfield 33, 3) := by decide +kernel
theorem dX3_init_68 : decode cX3_init 68 = .ok (.aload_n 0, 1) := by decide +kernel
theorem dX3_init_69 : decode cX3_init 69 = .ok (.bipush 100, 2) := by decide +kernel
theorem dX3_init_71 : decode cX3_init 71 = .ok (.newarray .int, 2) := by decide +kernel
theorem dX3_init_73 : decode cX3_init 73 = .ok (.putfield 36, 3) := by decide +kernel
theorem dX3_init_76 : decode cX3_init 76 = .ok (.aload_n 0, 1) := by decide +kernel
theorem dX3_init_77 : decode cX3_init 77 = .ok (.bipush 10, 2) := by decide +kernel
theorem dX3_init_79 : decode cX3_init 79 = .ok (.newarray .int, 2) := by decide +kernel
theorem dX3_init_81 : decode cX3_init 81 = .ok (.putfield 39, 3) := by decide +kernel
theorem dX3_init_84 : decode cX3_init 84 = .ok (.aload_n 0, 1) := by decide +kernel
theorem dX3_init_85 : decode cX3_init 85 = .ok (.bipush 10, 2) := by decide +kernel
theorem dX3_init_87 : decode cX3_init 87 = .ok (.newarray .int, 2) := by decide +kernel
theorem dX3_init_89 : decode cX3_init 89 = .ok (.putfield 42, 3) := by decide +kernel
theorem dX3_init_92 : decode cX3_init 92 = .ok (.aload_n 0, 1) := by decide +kernel
theorem dX3_init_93 : decode cX3_init 93 = .ok (.bipush 10, 2) := by decide +kernel
theorem dX3_init_95 : decode cX3_init 95 = .ok (.newarray .int, 2) := by decide +kernel
theorem dX3_init_97 : decode cX3_init 97 = .ok (.putfield 45, 3) := by decide +kernel
theorem dX3_init_100 : decode cX3_init 100 = .ok (.aload_n 0, 1) := by decide +kernel
theorem dX3_init_101 : decode cX3_init 101 = .ok (.bipush 10, 2) := by decide +kernel
theorem dX3_init_103 : decode cX3_init 103 = .ok (.newarray .int, 2) := by decide +kernel
theorem dX3_init_105 : decode cX3_init 105 = .ok (.putfield 48, 3) := by decide +kernel
theorem dX3_init_108 : decode cX3_init 108 = .ok (.aload_n 0, 1) := by decide +kernel
theorem dX3_init_109 : decode cX3_init 109 = .ok (.bipush 10, 2) := by decide +kernel
theorem dX3_init_111 : decode cX3_init 111 = .ok (.newarray .int, 2) := by decide +kernel
theorem dX3_init_113 : decode cX3_init 113 = .ok (.putfield 51, 3) := by decide +kernel
theorem dX3_init_116 : decode cX3_init 116 = .ok (.aload_n 0, 1) := by decide +kernel
theorem dX3_init_117 : decode cX3_init 117 = .ok (.bipush 10, 2) := by decide +kernel
theorem dX3_init_119 : decode cX3_init 119 = .ok (.newarray .int, 2) := by decide +kernel
theorem dX3_init_121 : decode cX3_init 121 = .ok (.putfield 54, 3) := by decide +kernel
theorem dX3_init_124 : decode cX3_init 124 = .ok (.aload_n 0, 1) := by decide +kernel
theorem dX3_init_125 : decode cX3_init 125 = .ok (.bipush 10, 2) := by decide +kernel
theorem dX3_init_127 : decode cX3_init 127 = .ok (.newarray .int, 2) := by decide +kernel
theorem dX3_init_129 : decode cX3_init 129 = .ok (.putfield 57, 3) := by decide +kernel
theorem dX3_init_132 : decode cX3_init 132 = .ok (.aload_n 0, 1) := by decide +kernel
theorem dX3_init_133 : decode cX3_init 133 = .ok (.bipush 10, 2) := by decide +kernel
theorem dX3_init_135 : decode cX3_init 135 = .ok (.newarray .int, 2) := by decide +kernel
theorem dX3_init_137 : decode cX3_init 137 = .ok (.putfield 60, 3) := by decide +kernel
theorem dX3_init_140 : decode cX3_init 140 = .ok (.aload_n 0, 1) := by decide +kernel
theorem dX3_init_141 : decode cX3_init 141 = .ok (.bipush 10, 2) := by decide +kernel
theorem dX3_init_143 : decode cX3_init 143 = .ok (.newarray .int, 2) := by decide +kernel
theorem dX3_init_145 : decode cX3_init 145 = .ok (.putfield 63, 3) := by decide +kernel
theorem dX3_init_148 : decode cX3_init 148 = .ok (.aload_n 0, 1) := by decide +kernel
theorem dX3_init_149 : decode cX3_init 149 = .ok (.bipush 10, 2) := by decide +kernel
theorem dX3_init_151 : decode cX3_init 151 = .ok (.newarray .int, 2) := by decide +kernel
theorem dX3_init_153 : decode cX3_init 153 = .ok (.putfield 66, 3) := by decide +kernel
theorem dX3_init_156 : decode cX3_init 156 = .ok (.aload_n 0, 1) := by decide +kernel
theorem dX3_init_157 : decode cX3_init 157 = .ok (.bipush 10, 2) := by decide +kernel
theorem dX3_init_159 : decode cX3_init 159 = .ok (.newarray .int, 2) := by decide +kernel
theorem dX3_init_161 : decode cX3_init 161 = .ok (.putfield 69, 3) := by decide +kernel
theorem dX3_init_164 : decode cX3_init 164 = .ok (.aload_n 0, 1) := by decide +kernel
theorem dX3_init_165 : decode cX3_init 165 = .ok (.iconst 0, 1) := by decide +kernel
theorem dX3_init_166 : decode cX3_init 166 = .ok (.putfield 72, 3) := by decide +kernel
theorem dX3_init_169 : decode cX3_init 169 = .ok (.return_, 1) := by decide +kernel
theorem dX3_thrown_0 : decode cX3_thrown 0 = .ok (.aload_n 0, 1) := by decide +kernel
theorem dX3_thrown_1 : decode cX3_thrown 1 = .ok (.getfield 76, 3) := by decide +kernel
theorem dX3_thrown_4 : decode cX3_thrown 4 = .ok (.ireturn, 1) := by decide +kernel
theorem dX3_in_0 : decode cX3_in 0 = .ok (.iload_n 0, 1) := by decide +kernel
theorem dX3_in_1 : decode cX3_in 1 = .ok (.iload_n 1, 1) := by decide +kernel
theorem dX3_in_2 : decode cX3_in 2 = .ok (.if_icmp .lt 12, 3) := by decide +kernel
theorem dX3_in_5 : decode cX3_in 5 = .ok (.iload_n 0, 1) := by decide +kernel
theorem dX3_in_6 : decode cX3_in 6 = .ok (.iload_n 2, 1) := by decide +kernel
theorem dX3_in_7 : decode cX3_in 7 = .ok (.if_icmp .gt 7, 3) := by decide +kernel
theorem dX3_in_10 : decode cX3_in 10 = .ok (.iconst 1, 1) := by decide +kernel
theorem dX3_in_11 : decode cX3_in 11 = .ok (.goto 4, 3) := by decide +kernel
theorem dX3_in_14 : decode cX3_in 14 = .ok (.iconst 0, 1) := by decide +kernel
theorem dX3_in_15 : decode cX3_in 15 = .ok (.ireturn, 1) := by decide +kernel
set_option maxRecDepth 20000 in
theorem ggX3_isNode_X3_in : GoodIn wsX3_isNode wsX3_in := goodIn_sub (List.forall_mem_cons.mpr ⟨wk_wsX3_isNode_0_4, (fun _ h => absurd h List.not_mem_nil)⟩) (by decide +kernel)
set_option maxRecDepth 20000 in
theorem gX3_isNode_X3_in : GoodIn wsX3_isNode (va_wsS RX3 79 yX3_in wsX3_in) := goodIn_app (goodIn_sub (List.forall_mem_cons.mpr ⟨wk_wsX3_isNode_0_1, List.forall_mem_cons.mpr ⟨wk_wsX3_isNode_0_2, List.forall_mem_cons.mpr ⟨wk_wsX3_isNode_0_3, fun _ h => absurd h List.not_mem_nil⟩⟩⟩) (by decide +kernel)) ggX3_isNode_X3_in
theorem dX3_isNode_0 : decode cX3_isNode 0 = .ok (.iload_n 1, 1) := by decide +kernel
theorem dX3_isNode_1 : decode cX3_isNode 1 = .ok (.iconst 0, 1) := by decide +kernel
theorem dX3_isNode_2 : decode cX3_isNode 2 = .ok (.aload_n 0, 1) := by decide +kernel
theorem dX3_isNode_3 : decode cX3_isNode 3 = .ok (.getfield 72, 3) := by decide +kernel
theorem dX3_isNode_6 : decode cX3_isNode 6 = .ok (.iconst 1, 1) := by decide +kernel
theorem dX3_isNode_7 : decode cX3_isNode 7 = .ok (.isub, 1) := by decide +kernel
theorem dX3_isNode_8 : decode cX3_isNode 8 = .ok (.invokestatic 79, 3) := by decide +kernel
theorem dX3_isNode_11 : decode cX3_isNode 11 = .ok (.ireturn, 1) := by decide +kernel
theorem dX3_knowItself_0 : decode cX3_knowItself 0 = .ok (.aload_n 0, 1) := by decide +kernel
theorem dX3_knowItself_1 : decode cX3_knowItself 1 = .ok (.getfield 39, 3) := by decide +kernel
theorem dX3_knowItself_4 : decode cX3_knowItself 4 = .ok (.iload_n 1, 1) := by decide +kernel
theorem dX3_knowItself_5 : decode cX3_knowItself 5 = .ok (.iload_n 1, 1) := by decide +kernel
theorem dX3_knowItself_6 : decode cX3_knowItself 6 = .ok (.iastore, 1) := by decide +kernel
theorem dX3_knowItself_7 : decode cX3_knowItself 7 = .ok (.aload_n 0, 1) := by decide +kernel
theorem dX3_knowItself_8 : decode cX3_knowItself 8 = .ok (.getfield 42, 3) := by decide +kernel
theorem dX3_knowItself_11 : decode cX3_knowItself 11 = .ok (.iload_n 1, 1) := by decide +kernel
theorem dX3_knowItself_12 : decode cX3_knowItself 12 = .ok (.aload_n 0, 1) := by decide +kernel
theorem dX3_knowItself_13 : decode cX3_knowItself 13 = .ok (.getfield 13, 3) := by decide +kernel
theorem dX3_knowItself_16 : decode cX3_knowItself 16 = .ok (.iload_n 1, 1) := by decide +kernel
theorem dX3_knowItself_17 : decode cX3_knowItself 17 = .ok (.iaload, 1) := by decide +kernel
theorem dX3_knowItself_18 : decode cX3_knowItself 18 = .ok (.iastore, 1) := by decide +kernel
theorem dX3_knowItself_19 : decode cX3_knowItself 19 = .ok (.aload_n 0, 1) := by decide +kernel
theorem dX3_knowItself_20 : decode cX3_knowItself 20 = .ok (.getfield 45, 3) := by decide +kernel
theorem dX3_knowItself_23 : decode cX3_knowItself 23 = .ok (.iload_n 1, 1) := by decide +kernel
theorem dX3_knowItself_24 : decode cX3_knowItself 24 = .ok (.aload_n 0, 1) := by decide +kernel
theorem dX3_knowItself_25 : decode cX3_knowItself 25 = .ok (.getfield 16, 3) := by decide +kernel
theorem dX3_knowItself_28 : decode cX3_knowItself 28 = .ok (.iload_n 1, 1) := by decide +kernel
theorem dX3_knowItself_29 : decode cX3_knowItself 29 = .ok (.iaload, 1) := by decide +kernel
theorem dX3_knowItself_30 : decode cX3_knowItself 30 = .ok (.iastore, 1) := by decide +kernel
theorem dX3_knowItself_31 : decode cX3_knowItself 31 = .ok (.aload_n 0, 1) := by decide +kernel
theorem dX3_knowItself_32 : decode cX3_knowItself 32 = .ok (.getfield 48, 3) := by decide +kernel
theorem dX3_knowItself_35 : decode cX3_knowItself 35 = .ok (.iload_n 1, 1) := by decide +kernel
theorem dX3_knowItself_36 : decode cX3_knowItself 36 = .ok (.iconst 0, 1) := by decide +kernel
theorem dX3_knowItself_37 : decode cX3_knowItself 37 = .ok (.iastore, 1) := by decide +kernel
theorem dX3_knowItself_38 : decode cX3_knowItself 38 = .ok (.aload_n 0, 1) := by decide +kernel
theorem dX3_knowItself_39 : decode cX3_knowItself 39 = .ok (.getfield 51, 3) := by decide +kernel
theorem dX3_knowItself_42 : decode cX3_knowItself 42 = .ok (.iload_n 1, 1) := by decide +kernel
theorem dX3_knowItself_43 : decode cX3_knowItself 43 = .ok (.iconst (-1), 1) := by decide +kernel
theorem dX3_knowItself_44 : decode cX3_knowItself 44 = .ok (.iastore, 1) := by decide +kernel
theorem dX3_knowItself_45 : decode cX3_knowItself 45 = .ok (.return_, 1) := by decide +kernel
set_option maxRecDepth 20000 in
theorem ggX3_add_X3_in : GoodIn wsX3_add wsX3_in := goodIn_sub (List.forall_mem_cons.mpr ⟨wk_wsX3_add_0_9, (fun _ h => absurd h List.not_mem_nil)⟩) (by decide +kernel)
set_option maxRecDepth 20000 in
theorem gX3_add_X3_in : GoodIn wsX3_add (va_wsS RX3 79 yX3_in wsX3_in) := goodIn_app (goodIn_sub (List.forall_mem_cons.mpr ⟨wk_wsX3_add_0_6, List.forall_mem_cons.mpr ⟨wk_wsX3_add_0_7, List.forall_mem_cons.mpr ⟨wk_wsX3_add_0_8, fun _ h => absurd h List.not_mem_nil⟩⟩⟩) (by decide +kernel)) ggX3_add_X3_in
set_option maxRecDepth 20000 in
theorem ggX3_add_X3_knowItself : GoodIn wsX3_add wsX3_knowItself := goodIn_sub (List.forall_mem_cons.mpr ⟨wk_wsX3_add_0_13, (fun w h => (List.mem_append.mp h).elim ((List.forall_mem_cons.mpr ⟨wk_wsX3_add_0_14, List.forall_mem_cons.mpr ⟨wk_wsX3_add_0_15, List.forall_mem_cons.mpr ⟨wk_wsX3_add_0_3, List.forall_mem_cons.mpr ⟨wk_wsX3_add_0_16, List.forall_mem_cons.mpr ⟨wk_wsX3_add_0_4, List.forall_mem_cons.mpr ⟨wk_wsX3_add_0_17, List.forall_mem_cons.mpr ⟨wk_wsX3_add_0_18, fun _ h => absurd h List.not_mem_nil⟩⟩⟩⟩⟩⟩⟩) w) (lf_wsX3_add_1 w))⟩) (by decide +kernel)
set_option maxRecDepth 20000 in
theorem gX3_add_X3_knowItself : GoodIn wsX3_add (wsV RX3 83 RX3 yX3_knowItself wsX3_knowItself) := goodIn_app (goodIn_sub (List.forall_mem_cons.mpr ⟨wk_wsX3_add_0_10, List.forall_mem_cons.mpr ⟨wk_wsX3_add_0_11, List.forall_mem_cons.mpr ⟨wk_wsX3_add_0_12, List.forall_mem_cons.mpr ⟨wk_wsX3_add_0_8, fun _ h => absurd h List.not_mem_nil⟩⟩⟩⟩) (by decide +kernel)) ggX3_add_X3_knowItself
theorem dX3_add_0 : decode cX3_add 0 = .ok (.aload_n 0, 1) := by decide +kernel
theorem dX3_add_1 : decode cX3_add 1 = .ok (.iload_n 1, 1) := by decide +kernel
theorem dX3_add_2 : decode cX3_add 2 = .ok (.iconst 0, 1) := by decide +kernel
theorem dX3_add_3 : decode cX3_add 3 = .ok (.iconst 1, 1) := by decide +kernel
theorem dX3_add_4 : decode cX3_add 4 = .ok (.invokestatic 79, 3) := by decide +kernel
theorem dX3_add_7 : decode cX3_add 7 = .ok (.ifCond .eq 37, 3) := by decide +kernel
theorem dX3_add_10 : decode cX3_add 10 = .ok (.iload_n 2, 1) := by decide +kernel
theorem dX3_add_11 : decode cX3_add 11 = .ok (.iconst 0, 1) := by decide +kernel
theorem dX3_add_12 : decode cX3_add 12 = .ok (.sipush 255, 3) := by decide +kernel
theorem dX3_add_15 : decode cX3_add 15 = .ok (.invokestatic 79, 3) := by decide +kernel
theorem dX3_add_18 : decode cX3_add 18 = .ok (.ifCond .eq 26, 3) := by decide +kernel
theorem dX3_add_21 : decode cX3_add 21 = .ok (.iload_n 3, 1) := by decide +kernel
theorem dX3_add_22 : decode cX3_add 22 = .ok (.iconst 0, 1) := by decide +kernel
theorem dX3_add_23 : decode cX3_add 23 = .ok (.sipush 1000, 3) := by decide +kernel
theorem dX3_add_26 : decode cX3_add 26 = .ok (.invokestatic 79, 3) := by decide +kernel
theorem dX3_add_29 : decode cX3_add 29 = .ok (.ifCond .eq 15, 3) := by decide +kernel
theorem dX3_add_32 : decode cX3_add 32 = .ok (.iload 4, 2) := by decide +kernel
theorem dX3_add_34 : decode cX3_add 34 = .ok (.bipush (-100), 2) := by decide +kernel
theorem dX3_add_36 : decode cX3_add 36 = .ok (.bipush 100, 2) := by decide +kernel
theorem dX3_add_38 : decode cX3_add 38 = .ok (.invokestatic 79, 3) := by decide +kernel
theorem dX3_add_41 : decode cX3_add 41 = .ok (.ifCond .ne 7, 3) := by decide +kernel
theorem dX3_add_44 : decode cX3_add 44 = .ok (.iconst 1, 1) := by decide +kernel
theorem dX3_add_45 : decode cX3_add 45 = .ok (.goto 17, 3) := by decide +kernel
theorem dX3_add_48 : decode cX3_add 48 = .ok (.aload_n 0, 1) := by decide +kernel
theorem dX3_add_49 : decode cX3_add 49 = .ok (.getfield 72, 3) := by decide +kernel
theorem dX3_add_52 : decode cX3_add 52 = .ok (.bipush 10, 2) := by decide +kernel
theorem dX3_add_54 : decode cX3_add 54 = .ok (.if_icmp .ne 7, 3) := by decide +kernel
theorem dX3_add_57 : decode cX3_add 57 = .ok (.iconst 2, 1) := by decide +kernel
theorem dX3_add_58 : decode cX3_add 58 = .ok (.goto 4, 3) := by decide +kernel
theorem dX3_add_61 : decode cX3_add 61 = .ok (.iconst 0, 1) := by decide +kernel
theorem dX3_add_62 : decode cX3_add 62 = .ok (.putfield 76, 3) := by decide +kernel
theorem dX3_add_65 : decode cX3_add 65 = .ok (.aload_n 0, 1) := by decide +kernel
theorem dX3_add_66 : decode cX3_add 66 = .ok (.getfield 76, 3) := by decide +kernel
theorem dX3_add_69 : decode cX3_add 69 = .ok (.ifCond .le 5, 3) := by decide +kernel
theorem dX3_add_72 : decode cX3_add 72 = .ok (.iconst 0, 1) := by decide +kernel
theorem dX3_add_73 : decode cX3_add 73 = .ok (.ireturn, 1) := by decide +kernel
theorem dX3_add_74 : decode cX3_add 74 = .ok (.aload_n 0, 1) := by decide +kernel
theorem dX3_add_75 : decode cX3_add 75 = .ok (.getfield 7, 3) := by decide +kernel
theorem dX3_add_78 : decode cX3_add 78 = .ok (.aload_n 0, 1) := by decide +kernel
theorem dX3_add_79 : decode cX3_add 79 = .ok (.getfield 72, 3) := by decide +kernel
theorem dX3_add_82 : decode cX3_add 82 = .ok (.iload_n 1, 1) := by decide +kernel
theorem dX3_add_83 : decode cX3_add 83 = .ok (.iastore, 1) := by decide +kernel
theorem dX3_add_84 : decode cX3_add 84 = .ok (.aload_n 0, 1) := by decide +kernel
theorem dX3_add_85 : decode cX3_add 85 = .ok (.getfield 13, 3) := by decide +kernel
theorem dX3_add_88 : decode cX3_add 88 = .ok (.aload_n 0, 1) := by decide +kernel
theorem dX3_add_89 : decode cX3_add 89 = .ok (.getfield 72, 3) := by decide +kernel
theorem dX3_add_92 : decode cX3_add 92 = .ok (.iload_n 2, 1) := by decide +kernel
theorem dX3_add_93 : decode cX3_add 93 = .ok (.iastore, 1) := by decide +kernel
theorem dX3_add_94 : decode cX3_add 94 = .ok (.aload_n 0, 1) := by decide +kernel
theorem dX3_add_95 : decode cX3_add 95 = .ok (.getfield 16, 3) := by decide +kernel
theorem dX3_add_98 : decode cX3_add 98 = .ok (.aload_n 0, 1) := by decide +kernel
theorem dX3_add_99 : decode cX3_add 99 = .ok (.getfield 72, 3) := by decide +kernel
theorem dX3_add_102 : decode cX3_add 102 = .ok (.iload_n 3, 1) := by decide +kernel
theorem dX3_add_103 : decode cX3_add 103 = .ok (.iastore, 1) := by decide +kernel
theorem dX3_add_104 : decode cX3_add 104 = .ok (.aload_n 0, 1) := by decide +kernel
theorem dX3_add_105 : decode cX3_add 105 = .ok (.getfield 19, 3) := by decide +kernel
theorem dX3_add_108 : decode cX3_add 108 = .ok (.aload_n 0, 1) := by decide +kernel
theorem dX3_add_109 : decode cX3_add 109 = .ok (.getfield 72, 3) := by decide +kernel
theorem dX3_add_112 : decode cX3_add 112 = .ok (.iload 4, 2) := by decide +kernel
theorem dX3_add_114 : decode cX3_add 114 = .ok (.iastore, 1) := by decide +kernel
theorem dX3_add_115 : decode cX3_add 115 = .ok (.aload_n 0, 1) := by decide +kernel
theorem dX3_add_116 : decode cX3_add 116 = .ok (.aload_n 0, 1) := by decide +kernel
theorem dX3_add_117 : decode cX3_add 117 = .ok (.getfield 72, 3) := by decide +kernel
theorem dX3_add_120 : decode cX3_add 120 = .ok (.invokevirtual 83, 3) := by decide +kernel
theorem dX3_add_123 : decode cX3_add 123 = .ok (.aload_n 0, 1) := by decide +kernel
theorem dX3_add_124 : decode cX3_add 124 = .ok (.dup, 1) := by decide +kernel
theorem dX3_add_125 : decode cX3_add 125 = .ok (.getfield 72, 3) := by decide +kernel
theorem dX3_add_128 : decode cX3_add 128 = .ok (.iconst 1, 1) := by decide +kernel
theorem dX3_add_129 : decode cX3_add 129 = .ok (.iadd, 1) := by decide +kernel
theorem dX3_add_130 : decode cX3_add 130 = .ok (.putfield 72, 3) := by decide +kernel
theorem dX3_add_133 : decode cX3_add 133 = .ok (.aload_n 0, 1) := by decide +kernel
theorem dX3_add_134 : decode cX3_add 134 = .ok (.getfield 72, 3) := by decide +kernel
theorem dX3_add_137 : decode cX3_add 137 = .ok (.iconst 1, 1) := by decide +kernel
theorem dX3_add_138 : decode cX3_add 138 = .ok (.isub, 1) := by decide +kernel
theorem dX3_add_139 : decode cX3_add 139 = .ok (.ireturn, 1) := by decide +kernel
set_option maxRecDepth 20000 in
theorem ggX3_setClock_X3_isNode : GoodIn wsX3_setClock wsX3_isNode := goodIn_sub (List.forall_mem_cons.mpr ⟨wk_wsX3_setClock_0_7, (fun w h => (List.mem_append.mp h).elim ((List.forall_mem_cons.mpr ⟨wk_wsX3_setClock_0_8, List.forall_mem_cons.mpr ⟨wk_wsX3_setClock_0_9, List.forall_mem_cons.mpr ⟨wk_wsX3_setClock_0_10, List.forall_mem_cons.mpr ⟨wk_wsX3_setClock_0_6, List.forall_mem_cons.mpr ⟨wk_wsX3_setClock_0_11, fun _ h => absurd h List.not_mem_nil⟩⟩⟩⟩⟩) w) (lf_wsX3_setClock_1 w))⟩) (by decide +kernel)
set_option maxRecDepth 20000 in
theorem gX3_setClock_X3_isNode : GoodIn wsX3_setClock (wsV RX3 87 RX3 yX3_isNode wsX3_isNode) := goodIn_app (goodIn_sub (List.forall_mem_cons.mpr ⟨wk_wsX3_setClock_0_3, List.forall_mem_cons.mpr ⟨wk_wsX3_setClock_0_4, List.forall_mem_cons.mpr ⟨wk_wsX3_setClock_0_5, List.forall_mem_cons.mpr ⟨wk_wsX3_setClock_0_6, fun _ h => absurd h List.not_mem_nil⟩⟩⟩⟩) (by decide +kernel)) ggX3_setClock_X3_isNode
set_option maxRecDepth 20000 in
theorem ggX3_setClock_X3_in : GoodIn wsX3_setClock wsX3_in := goodIn_sub (List.forall_mem_cons.mpr ⟨wk_wsX3_setClock_0_11, (fun _ h => absurd h List.not_mem_nil)⟩) (by decide +kernel)
set_option maxRecDepth 20000 in
theorem gX3_setClock_X3_in : GoodIn wsX3_setClock (va_wsS RX3 79 yX3_in wsX3_in) := goodIn_app (goodIn_sub (List.forall_mem_cons.mpr ⟨wk_wsX3_setClock_0_9, List.forall_mem_cons.mpr ⟨wk_wsX3_setClock_0_10, List.forall_mem_cons.mpr ⟨wk_wsX3_setClock_0_6, fun _ h => absurd h List.not_mem_nil⟩⟩⟩) (by decide +kernel)) ggX3_setClock_X3_in
theorem dX3_setClock_0 : decode cX3_setClock 0 = .ok (.aload_n 0, 1) := by decide +kernel
theorem dX3_setClock_1 : decode cX3_setClock 1 = .ok (.aload_n 0, 1) := by decide +kernel
theorem dX3_setClock_2 : decode cX3_setClock 2 = .ok (.iload_n 1, 1) := by decide +kernel
theorem dX3_setClock_3 : decode cX3_setClock 3 = .ok (.invokevirtual 87, 3) := by decide +kernel
theorem dX3_setClock_6 : decode cX3_setClock 6 = .ok (.ifCond .ne 7, 3) := by decide +kernel
theorem dX3_setClock_9 : decode cX3_setClock 9 = .ok (.iconst 1, 1) := by decide +kernel
theorem dX3_setClock_10 : decode cX3_setClock 10 = .ok (.goto 30, 3) := by decide +kernel
theorem dX3_setClock_13 : decode cX3_setClock 13 = .ok (.iload_n 2, 1) := by decide +kernel
theorem dX3_setClock_14 : decode cX3_setClock 14 = .ok (.iconst 0, 1) := by decide +kernel
theorem dX3_setClock_15 : decode cX3_setClock 15 = .ok (.sipush 255, 3) := by decide +kernel
theorem dX3_setClock_18 : decode cX3_setClock 18 = .ok (.invokestatic 79, 3) := by decide +kernel
theorem dX3_setClock_21 : decode cX3_setClock 21 = .ok (.ifCond .eq 14, 3) := by decide +kernel
theorem dX3_setClock_24 : decode cX3_setClock 24 = .ok (.iload_n 3, 1) := by decide +kernel
theorem dX3_setClock_25 : decode cX3_setClock 25 = .ok (.iconst 0, 1) := by decide +kernel
theorem dX3_setClock_26 : decode cX3_setClock 26 = .ok (.sipush 1000, 3) := by decide +kernel
theorem dX3_setClock_29 : decode cX3_setClock 29 = .ok (.invokestatic 79, 3) := by decide +kernel
theorem dX3_setClock_32 : decode cX3_setClock 32 = .ok (.ifCond .ne 7, 3) := by decide +kernel
theorem dX3_setClock_35 : decode cX3_setClock 35 = .ok (.iconst 2, 1) := by decide +kernel
theorem dX3_setClock_36 : decode cX3_setClock 36 = .ok (.goto 4, 3) := by decide +kernel
theorem dX3_setClock_39 : decode cX3_setClock 39 = .ok (.iconst 0, 1) := by decide +kernel
theorem dX3_setClock_40 : decode cX3_setClock 40 = .ok (.putfield 76, 3) := by decide +kernel
theorem dX3_setClock_43 : decode cX3_setClock 43 = .ok (.aload_n 0, 1) := by decide +kernel
theorem dX3_setClock_44 : decode cX3_setClock 44 = .ok (.getfield 76, 3) := by decide +kernel
theorem dX3_setClock_47 : decode cX3_setClock 47 = .ok (.ifCond .le 5, 3) := by decide +kernel
theorem dX3_setClock_50 : decode cX3_setClock 50 = .ok (.iconst 0, 1) := by decide +kernel
theorem dX3_setClock_51 : decode cX3_setClock 51 = .ok (.ireturn, 1) := by decide +kernel
theorem dX3_setClock_52 : decode cX3_setClock 52 = .ok (.aload_n 0, 1) := by decide +kernel
theorem dX3_setClock_53 : decode cX3_setClock 53 = .ok (.getfield 13, 3) := by decide +kernel
theorem dX3_setClock_56 : decode cX3_setClock 56 = .ok (.iload_n 1, 1) := by decide +kernel
theorem dX3_setClock_57 : decode cX3_setClock 57 = .ok (.iaload, 1) := by decide +kernel
theorem dX3_setClock_58 : decode cX3_setClock 58 = .ok (.istore 4, 2) := by decide +kernel
theorem dX3_setClock_60 : decode cX3_setClock 60 = .ok (.aload_n 0, 1) := by decide +kernel
theorem dX3_setClock_61 : decode cX3_setClock 61 = .ok (.getfield 13, 3) := by decide +kernel
theorem dX3_setClock_64 : decode cX3_setClock 64 = .ok (.iload_n 1, 1) := by decide +kernel
theorem dX3_setClock_65 : decode cX3_setClock 65 = .ok (.iload_n 2, 1) := by decide +kernel
theorem dX3_setClock_66 : decode cX3_setClock 66 = .ok (.iastore, 1) := by decide +kernel
theorem dX3_setClock_67 : decode cX3_setClock 67 = .ok (.aload_n 0, 1) := by decide +kernel
theorem dX3_setClock_68 : decode cX3_setClock 68 = .ok (.getfield 16, 3) := by decide +kernel
theorem dX3_setClock_71 : decode cX3_setClock 71 = .ok (.iload_n 1, 1) := by decide +kernel
theorem dX3_setClock_72 : decode cX3_setClock 72 = .ok (.iload_n 3, 1) := by decide +kernel
theorem dX3_setClock_73 : decode cX3_setClock 73 = .ok (.iastore, 1) := by decide +kernel
theorem dX3_setClock_74 : decode cX3_setClock 74 = .ok (.iload 4, 2) := by decide +kernel
theorem dX3_setClock_76 : decode cX3_setClock 76 = .ok (.ireturn, 1) := by decide +kernel
set_option maxRecDepth 20000 in
theorem ggX3_setDrift_X3_isNode : GoodIn wsX3_setDrift wsX3_isNode := goodIn_sub (List.forall_mem_cons.mpr ⟨wk_wsX3_setDrift_0_6, (fun w h => (List.mem_append.mp h).elim ((List.forall_mem_cons.mpr ⟨wk_wsX3_setDrift_0_7, List.forall_mem_cons.mpr ⟨wk_wsX3_setDrift_0_8, List.forall_mem_cons.mpr ⟨wk_wsX3_setDrift_0_9, List.forall_mem_cons.mpr ⟨wk_wsX3_setDrift_0_5, List.forall_mem_cons.mpr ⟨wk_wsX3_setDrift_0_10, fun _ h => absurd h List.not_mem_nil⟩⟩⟩⟩⟩) w) (lf_wsX3_setDrift_1 w))⟩) (by decide +kernel)
set_option maxRecDepth 20000 in
theorem gX3_setDrift_X3_isNode : GoodIn wsX3_setDrift (wsV RX3 87 RX3 yX3_isNode wsX3_isNode) := goodIn_app (goodIn_sub (List.forall_mem_cons.mpr ⟨wk_wsX3_setDrift_0_2, List.forall_mem_cons.mpr ⟨wk_wsX3_setDrift_0_3, List.forall_mem_cons.mpr ⟨wk_wsX3_setDrift_0_4, List.forall_mem_cons.mpr ⟨wk_wsX3_setDrift_0_5, fun _ h => absurd h List.not_mem_nil⟩⟩⟩⟩) (by decide +kernel)) ggX3_setDrift_X3_isNode
set_option maxRecDepth 20000 in
theorem ggX3_setDrift_X3_in : GoodIn wsX3_setDrift wsX3_in := goodIn_sub (List.forall_mem_cons.mpr ⟨wk_wsX3_setDrift_0_10, (fun _ h => absurd h List.not_mem_nil)⟩) (by decide +kernel)
set_option maxRecDepth 20000 in
theorem gX3_setDrift_X3_in : GoodIn wsX3_setDrift (va_wsS RX3 79 yX3_in wsX3_in) := goodIn_app (goodIn_sub (List.forall_mem_cons.mpr ⟨wk_wsX3_setDrift_0_8, List.forall_mem_cons.mpr ⟨wk_wsX3_setDrift_0_9, List.forall_mem_cons.mpr ⟨wk_wsX3_setDrift_0_5, fun _ h => absurd h List.not_mem_nil⟩⟩⟩) (by decide +kernel)) ggX3_setDrift_X3_in
theorem dX3_setDrift_0 : decode cX3_setDrift 0 = .ok (.aload_n 0, 1) := by decide +kernel
theorem dX3_setDrift_1 : decode cX3_setDrift 1 = .ok (.aload_n 0, 1) := by decide +kernel
theorem dX3_setDrift_2 : decode cX3_setDrift 2 = .ok (.iload_n 1, 1) := by decide +kernel
theorem dX3_setDrift_3 : decode cX3_setDrift 3 = .ok (.invokevirtual 87, 3) := by decide +kernel
theorem dX3_setDrift_6 : decode cX3_setDrift 6 = .ok (.ifCond .ne 7, 3) := by decide +kernel
theorem dX3_setDrift_9 : decode cX3_setDrift 9 = .ok (.iconst 1, 1) := by decide +kernel
theorem dX3_setDrift_10 : decode cX3_setDrift 10 = .ok (.goto 19, 3) := by decide +kernel
theorem dX3_setDrift_13 : decode cX3_setDrift 13 = .ok (.iload_n 2, 1) := by decide +kernel
theorem dX3_setDrift_14 : decode cX3_setDrift 14 = .ok (.bipush (-100), 2) := by decide +kernel
theorem dX3_setDrift_16 : decode cX3_setDrift 16 = .ok (.bipush 100, 2) := by decide +kernel
theorem dX3_setDrift_18 : decode cX3_setDrift 18 = .ok (.invokestatic 79, 3) := by decide +kernel
theorem dX3_setDrift_21 : decode cX3_setDrift 21 = .ok (.ifCond .ne 7, 3) := by decide +kernel
theorem dX3_setDrift_24 : decode cX3_setDrift 24 = .ok (.iconst 2, 1) := by decide +kernel
theorem dX3_setDrift_25 : decode cX3_setDrift 25 = .ok (.goto 4, 3) := by decide +kernel
theorem dX3_setDrift_28 : decode cX3_setDrift 28 = .ok (.iconst 0, 1) := by decide +kernel
theorem dX3_setDrift_29 : decode cX3_setDrift 29 = .ok (.putfield 76, 3) := by decide +kernel
theorem dX3_setDrift_32 : decode cX3_setDrift 32 = .ok (.aload_n 0, 1) := by decide +kernel
theorem dX3_setDrift_33 : decode cX3_setDrift 33 = .ok (.getfield 76, 3) := by decide +kernel
theorem dX3_setDrift_36 : decode cX3_setDrift 36 = .ok (.ifCond .le 5, 3) := by decide +kernel
theorem dX3_setDrift_39 : decode cX3_setDrift 39 = .ok (.iconst 0, 1) := by decide +kernel
theorem dX3_setDrift_40 : decode cX3_setDrift 40 = .ok (.ireturn, 1) := by decide +kernel
theorem dX3_setDrift_41 : decode cX3_setDrift 41 = .ok (.aload_n 0, 1) := by decide +kernel
theorem dX3_setDrift_42 : decode cX3_setDrift 42 = .ok (.getfield 19, 3) := by decide +kernel
theorem dX3_setDrift_45 : decode cX3_setDrift 45 = .ok (.iload_n 1, 1) := by decide +kernel
theorem dX3_setDrift_46 : decode cX3_setDrift 46 = .ok (.iaload, 1) := by decide +kernel
theorem dX3_setDrift_47 : decode cX3_setDrift 47 = .ok (.istore_n 3, 1) := by decide +kernel
theorem dX3_setDrift_48 : decode cX3_setDrift 48 = .ok (.aload_n 0, 1) := by decide +kernel
theorem dX3_setDrift_49 : decode cX3_setDrift 49 = .ok (.getfield 19, 3) := by decide +kernel
theorem dX3_setDrift_52 : decode cX3_setDrift 52 = .ok (.iload_n 1, 1) := by decide +kernel
theorem dX3_setDrift_53 : decode cX3_setDrift 53 = .ok (.iload_n 2, 1) := by decide +kernel
theorem dX3_setDrift_54 : decode cX3_setDrift 54 = .ok (.iastore, 1) := by decide +kernel
theorem dX3_setDrift_55 : decode cX3_setDrift 55 = .ok (.iload_n 3, 1) := by decide +kernel
theorem dX3_setDrift_56 : decode cX3_setDrift 56 = .ok (.ireturn, 1) := by decide +kernel
set_option maxRecDepth 20000 in
theorem ggX3_setOffset_X3_isNode : GoodIn wsX3_setOffset wsX3_isNode := goodIn_sub (List.forall_mem_cons.mpr ⟨wk_wsX3_setOffset_0_8, (fun w h => (List.mem_append.mp h).elim ((List.forall_mem_cons.mpr ⟨wk_wsX3_setOffset_0_9, List.forall_mem_cons.mpr ⟨wk_wsX3_setOffset_0_10, List.forall_mem_cons.mpr ⟨wk_wsX3_setOffset_0_11, List.forall_mem_cons.mpr ⟨wk_wsX3_setOffset_0_7, List.forall_mem_cons.mpr ⟨wk_wsX3_setOffset_0_12, fun _ h => absurd h List.not_mem_nil⟩⟩⟩⟩⟩) w) (lf_wsX3_setOffset_1 w))⟩) (by decide +kernel)
set_option maxRecDepth 20000 in
theorem gX3_setOffset_X3_isNode : GoodIn wsX3_setOffset (wsV RX3 87 RX3 yX3_isNode wsX3_isNode) := goodIn_app (goodIn_sub (List.forall_mem_cons.mpr ⟨wk_wsX3_setOffset_0_4, List.forall_mem_cons.mpr ⟨wk_wsX3_setOffset_0_5, List.forall_mem_cons.mpr ⟨wk_wsX3_setOffset_0_6, List.forall_mem_cons.mpr ⟨wk_wsX3_setOffset_0_7, fun _ h => absurd h List.not_mem_nil⟩⟩⟩⟩) (by decide +kernel)) ggX3_setOffset_X3_isNode
set_option maxRecDepth 20000 in
theorem ggX3_setOffset_X3_in : GoodIn wsX3_setOffset wsX3_in := goodIn_sub (List.forall_mem_cons.mpr ⟨wk_wsX3_setOffset_0_12, (fun _ h => absurd h List.not_mem_nil)⟩) (by decide +kernel)
set_option maxRecDepth 20000 in
theorem gX3_setOffset_X3_in : GoodIn wsX3_setOffset (va_wsS RX3 79 yX3_in wsX3_in) := goodIn_app (goodIn_sub (List.forall_mem_cons.mpr ⟨wk_wsX3_setOffset_0_10, List.forall_mem_cons.mpr ⟨wk_wsX3_setOffset_0_11, List.forall_mem_cons.mpr ⟨wk_wsX3_setOffset_0_7, fun _ h => absurd h List.not_mem_nil⟩⟩⟩) (by decide +kernel)) ggX3_setOffset_X3_in
theorem dX3_setOffset_0 : decode cX3_setOffset 0 = .ok (.aload_n 0, 1) := by decide +kernel
theorem dX3_setOffset_1 : decode cX3_setOffset 1 = .ok (.aload_n 0, 1) := by decide +kernel
theorem dX3_setOffset_2 : decode cX3_setOffset 2 = .ok (.iload_n 1, 1) := by decide +kernel
theorem dX3_setOffset_3 : decode cX3_setOffset 3 = .ok (.invokevirtual 87, 3) := by decide +kernel
theorem dX3_setOffset_6 : decode cX3_setOffset 6 = .ok (.ifCond .ne 7, 3) := by decide +kernel
theorem dX3_setOffset_9 : decode cX3_setOffset 9 = .ok (.iconst 1, 1) := by decide +kernel
theorem dX3_setOffset_10 : decode cX3_setOffset 10 = .ok (.goto 19, 3) := by decide +kernel
theorem dX3_setOffset_13 : decode cX3_setOffset 13 = .ok (.iload_n 2, 1) := by decide +kernel
theorem dX3_setOffset_14 : decode cX3_setOffset 14 = .ok (.ldc 91, 2) := by decide +kernel
theorem dX3_setOffset_16 : decode cX3_setOffset 16 = .ok (.ldc 92, 2) := by decide +kernel
theorem dX3_setOffset_18 : decode cX3_setOffset 18 = .ok (.invokestatic 79, 3) := by decide +kernel
theorem dX3_setOffset_21 : decode cX3_setOffset 21 = .ok (.ifCond .ne 7, 3) := by decide +kernel
theorem dX3_setOffset_24 : decode cX3_setOffset 24 = .ok (.iconst 2, 1) := by decide +kernel
theorem dX3_setOffset_25 : decode cX3_setOffset 25 = .ok (.goto 4, 3) := by decide +kernel
theorem dX3_setOffset_28 : decode cX3_setOffset 28 = .ok (.iconst 0, 1) := by decide +kernel
theorem dX3_setOffset_29 : decode cX3_setOffset 29 = .ok (.putfield 76, 3) := by decide +kernel
theorem dX3_setOffset_32 : decode cX3_setOffset 32 = .ok (.aload_n 0, 1) := by decide +kernel
theorem dX3_setOffset_33 : decode cX3_setOffset 33 = .ok (.getfield 76, 3) := by decide +kernel
theorem dX3_setOffset_36 : decode cX3_setOffset 36 = .ok (.ifCond .le 5, 3) := by decide +kernel
theorem dX3_setOffset_39 : decode cX3_setOffset 39 = .ok (.lconst 0, 1) := by decide +kernel
theorem dX3_setOffset_40 : decode cX3_setOffset 40 = .ok (.lreturn, 1) := by decide +kernel
theorem dX3_setOffset_41 : decode cX3_setOffset 41 = .ok (.aload_n 0, 1) := by decide +kernel
theorem dX3_setOffset_42 : decode cX3_setOffset 42 = .ok (.getfield 22, 3) := by decide +kernel
theorem dX3_setOffset_45 : decode cX3_setOffset 45 = .ok (.iload_n 1, 1) := by decide +kernel
theorem dX3_setOffset_46 : decode cX3_setOffset 46 = .ok (.laload, 1) := by decide +kernel
theorem dX3_setOffset_47 : decode cX3_setOffset 47 = .ok (.lstore_n 3, 1) := by decide +kernel
theorem dX3_setOffset_48 : decode cX3_setOffset 48 = .ok (.aload_n 0, 1) := by decide +kernel
theorem dX3_setOffset_49 : decode cX3_setOffset 49 = .ok (.getfield 22, 3) := by decide +kernel
theorem dX3_setOffset_52 : decode cX3_setOffset 52 = .ok (.iload_n 1, 1) := by decide +kernel
theorem dX3_setOffset_53 : decode cX3_setOffset 53 = .ok (.iload_n 2, 1) := by decide +kernel
theorem dX3_setOffset_54 : decode cX3_setOffset 54 = .ok (.i2l, 1) := by decide +kernel
theorem dX3_setOffset_55 : decode cX3_setOffset 55 = .ok (.lastore, 1) := by decide +kernel
theorem dX3_setOffset_56 : decode cX3_setOffset 56 = .ok (.lload_n 3, 1) := by decide +kernel
theorem dX3_setOffset_57 : decode cX3_setOffset 57 = .ok (.lreturn, 1) := by decide +kernel
set_option maxRecDepth 20000 in
theorem ggX3_link_X3_isNode : GoodIn wsX3_link wsX3_isNode := goodIn_sub (List.forall_mem_cons.mpr ⟨wk_wsX3_link_0_10, (fun w h => (List.mem_append.mp h).elim ((List.forall_mem_cons.mpr ⟨wk_wsX3_link_0_11, List.forall_mem_cons.mpr ⟨wk_wsX3_link_0_12, List.forall_mem_cons.mpr ⟨wk_wsX3_link_0_13, List.forall_mem_cons.mpr ⟨wk_wsX3_link_0_9, List.forall_mem_cons.mpr ⟨wk_wsX3_link_0_14, fun _ h => absurd h List.not_mem_nil⟩⟩⟩⟩⟩) w) (lf_wsX3_link_1 w))⟩) (by decide +kernel)
set_option maxRecDepth 20000 in
theorem gX3_link_X3_isNode : GoodIn wsX3_link (wsV RX3 87 RX3 yX3_isNode wsX3_isNode) := goodIn_app (goodIn_sub (List.forall_mem_cons.mpr ⟨wk_wsX3_link_0_6, List.forall_mem_cons.mpr ⟨wk_wsX3_link_0_7, List.forall_mem_cons.mpr ⟨wk_wsX3_link_0_8, List.forall_mem_cons.mpr ⟨wk_wsX3_link_0_9, fun _ h => absurd h List.not_mem_nil⟩⟩⟩⟩) (by decide +kernel)) ggX3_link_X3_isNode
set_option maxRecDepth 20000 in
theorem ggX3_link_X3_in : GoodIn wsX3_link wsX3_in := goodIn_sub (List.forall_mem_cons.mpr ⟨wk_wsX3_link_0_14, (fun _ h => absurd h List.not_mem_nil)⟩) (by decide +kernel)
set_option maxRecDepth 20000 in
theorem gX3_link_X3_in : GoodIn wsX3_link (va_wsS RX3 79 yX3_in wsX3_in) := goodIn_app (goodIn_sub (List.forall_mem_cons.mpr ⟨wk_wsX3_link_0_12, List.forall_mem_cons.mpr ⟨wk_wsX3_link_0_13, List.forall_mem_cons.mpr ⟨wk_wsX3_link_0_9, fun _ h => absurd h List.not_mem_nil⟩⟩⟩) (by decide +kernel)) ggX3_link_X3_in
theorem dX3_link_0 : decode cX3_link 0 = .ok (.aload_n 0, 1) := by decide +kernel
theorem dX3_link_1 : decode cX3_link 1 = .ok (.aload_n 0, 1) := by decide +kernel
theorem dX3_link_2 : decode cX3_link 2 = .ok (.iload_n 1, 1) := by decide +kernel
theorem dX3_link_3 : decode cX3_link 3 = .ok (.invokevirtual 87, 3) := by decide +kernel
theorem dX3_link_6 : decode cX3_link 6 = .ok (.ifCond .eq 11, 3) := by decide +kernel
theorem dX3_link_9 : decode cX3_link 9 = .ok (.aload_n 0, 1) := by decide +kernel
theorem dX3_link_10 : decode cX3_link 10 = .ok (.iload_n 2, 1) := by decide +kernel
theorem dX3_link_11 : decode cX3_link 11 = .ok (.invokevirtual 87, 3) := by decide +kernel
theorem dX3_link_14 : decode cX3_link 14 = .ok (.ifCond .ne 7, 3) := by decide +kernel
theorem dX3_link_17 : decode cX3_link 17 = .ok (.iconst 1, 1) := by decide +kernel
theorem dX3_link_18 : decode cX3_link 18 = .ok (.goto 52, 3) := by decide +kernel
theorem dX3_link_21 : decode cX3_link 21 = .ok (.iload_n 1, 1) := by decide +kernel
theorem dX3_link_22 : decode cX3_link 22 = .ok (.iload_n 2, 1) := by decide +kernel
theorem dX3_link_23 : decode cX3_link 23 = .ok (.if_icmp .eq 24, 3) := by decide +kernel
theorem dX3_link_26 : decode cX3_link 26 = .ok (.iload_n 3, 1) := by decide +kernel
theorem dX3_link_27 : decode cX3_link 27 = .ok (.iconst 0, 1) := by decide +kernel
theorem dX3_link_28 : decode cX3_link 28 = .ok (.ldc 93, 2) := by decide +kernel
theorem dX3_link_30 : decode cX3_link 30 = .ok (.invokestatic 79, 3) := by decide +kernel
theorem dX3_link_33 : decode cX3_link 33 = .ok (.ifCond .eq 14, 3) := by decide +kernel
theorem dX3_link_36 : decode cX3_link 36 = .ok (.iload 4, 2) := by decide +kernel
theorem dX3_link_38 : decode cX3_link 38 = .ok (.iconst 0, 1) := by decide +kernel
theorem dX3_link_39 : decode cX3_link 39 = .ok (.ldc 93, 2) := by decide +kernel
theorem dX3_link_41 : decode cX3_link 41 = .ok (.invokestatic 79, 3) := by decide +kernel
theorem dX3_link_44 : decode cX3_link 44 = .ok (.ifCond .ne 7, 3) := by decide +kernel
theorem dX3_link_47 : decode cX3_link 47 = .ok (.iconst 2, 1) := by decide +kernel
theorem dX3_link_48 : decode cX3_link 48 = .ok (.goto 22, 3) := by decide +kernel
theorem dX3_link_51 : decode cX3_link 51 = .ok (.aload_n 0, 1) := by decide +kernel
theorem dX3_link_52 : decode cX3_link 52 = .ok (.getfield 29, 3) := by decide +kernel
theorem dX3_link_55 : decode cX3_link 55 = .ok (.bipush 10, 2) := by decide +kernel
theorem dX3_link_57 : decode cX3_link 57 = .ok (.iload_n 1, 1) := by decide +kernel
theorem dX3_link_58 : decode cX3_link 58 = .ok (.imul, 1) := by decide +kernel
theorem dX3_link_59 : decode cX3_link 59 = .ok (.iload_n 2, 1) := by decide +kernel
theorem dX3_link_60 : decode cX3_link 60 = .ok (.iadd, 1) := by decide +kernel
theorem dX3_link_61 : decode cX3_link 61 = .ok (.baload, 1) := by decide +kernel
theorem dX3_link_62 : decode cX3_link 62 = .ok (.ifCond .eq 7, 3) := by decide +kernel
theorem dX3_link_65 : decode cX3_link 65 = .ok (.iconst 3, 1) := by decide +kernel
theorem dX3_link_66 : decode cX3_link 66 = .ok (.goto 4, 3) := by decide +kernel
theorem dX3_link_69 : decode cX3_link 69 = .ok (.iconst 0, 1) := by decide +kernel
theorem dX3_link_70 : decode cX3_link 70 = .ok (.putfield 76, 3) := by decide +kernel
theorem dX3_link_73 : decode cX3_link 73 = .ok (.aload_n 0, 1) := by decide +kernel
theorem dX3_link_74 : decode cX3_link 74 = .ok (.getfield 76, 3) := by decide +kernel
theorem dX3_link_77 : decode cX3_link 77 = .ok (.ifCond .le 5, 3) := by decide +kernel
theorem dX3_link_80 : decode cX3_link 80 = .ok (.iconst 0, 1) := by decide +kernel
theorem dX3_link_81 : decode cX3_link 81 = .ok (.ireturn, 1) := by decide +kernel
theorem dX3_link_82 : decode cX3_link 82 = .ok (.aload_n 0, 1) := by decide +kernel
theorem dX3_link_83 : decode cX3_link 83 = .ok (.getfield 29, 3) := by decide +kernel
theorem dX3_link_86 : decode cX3_link 86 = .ok (.bipush 10, 2) := by decide +kernel
theorem dX3_link_88 : decode cX3_link 88 = .ok (.iload_n 1, 1) := by decide +kernel
theorem dX3_link_89 : decode cX3_link 89 = .ok (.imul, 1) := by decide +kernel
theorem dX3_link_90 : decode cX3_link 90 = .ok (.iload_n 2, 1) := by decide +kernel
theorem dX3_link_91 : decode cX3_link 91 = .ok (.iadd, 1) := by decide +kernel
theorem dX3_link_92 : decode cX3_link 92 = .ok (.iconst 1, 1) := by decide +kernel
theorem dX3_link_93 : decode cX3_link 93 = .ok (.bastore, 1) := by decide +kernel
theorem dX3_link_94 : decode cX3_link 94 = .ok (.aload_n 0, 1) := by decide +kernel
theorem dX3_link_95 : decode cX3_link 95 = .ok (.getfield 29, 3) := by decide +kernel
theorem dX3_link_98 : decode cX3_link 98 = .ok (.bipush 10, 2) := by decide +kernel
theorem dX3_link_100 : decode cX3_link 100 = .ok (.iload_n 2, 1) := by decide +kernel
theorem dX3_link_101 : decode cX3_link 101 = .ok (.imul, 1) := by decide +kernel
theorem dX3_link_102 : decode cX3_link 102 = .ok (.iload_n 1, 1) := by decide +kernel
theorem dX3_link_103 : decode cX3_link 103 = .ok (.iadd, 1) := by decide +kernel
theorem dX3_link_104 : decode cX3_link 104 = .ok (.iconst 1, 1) := by decide +kernel
theorem dX3_link_105 : decode cX3_link 105 = .ok (.bastore, 1) := by decide +kernel
theorem dX3_link_106 : decode cX3_link 106 = .ok (.aload_n 0, 1) := by decide +kernel
theorem dX3_link_107 : decode cX3_link 107 = .ok (.getfield 33, 3) := by decide +kernel
theorem dX3_link_110 : decode cX3_link 110 = .ok (.bipush 10, 2) := by decide +kernel
theorem dX3_link_112 : decode cX3_link 112 = .ok (.iload_n 1, 1) := by decide +kernel
theorem dX3_link_113 : decode cX3_link 113 = .ok (.imul, 1) := by decide +kernel
theorem dX3_link_114 : decode cX3_link 114 = .ok (.iload_n 2, 1) := by decide +kernel
theorem dX3_link_115 : decode cX3_link 115 = .ok (.iadd, 1) := by decide +kernel
theorem dX3_link_116 : decode cX3_link 116 = .ok (.iload_n 3, 1) := by decide +kernel
theorem dX3_link_117 : decode cX3_link 117 = .ok (.iastore, 1) := by decide +kernel
theorem dX3_link_118 : decode cX3_link 118 = .ok (.aload_n 0, 1) := by decide +kernel
theorem dX3_link_119 : decode cX3_link 119 = .ok (.getfield 33, 3) := by decide +kernel
theorem dX3_link_122 : decode cX3_link 122 = .ok (.bipush 10, 2) := by decide +kernel
theorem dX3_link_124 : decode cX3_link 124 = .ok (.iload_n 2, 1) := by decide +kernel
theorem dX3_link_125 : decode cX3_link 125 = .ok (.imul, 1) := by decide +kernel
theorem dX3_link_126 : decode cX3_link 126 = .ok (.iload_n 1, 1) := by decide +kernel
theorem dX3_link_127 : decode cX3_link 127 = .ok (.iadd, 1) := by decide +kernel
theorem dX3_link_128 : decode cX3_link 128 = .ok (.iload 4, 2) := by decide +kernel
theorem dX3_link_130 : decode cX3_link 130 = .ok (.iastore, 1) := by decide +kernel
theorem dX3_link_131 : decode cX3_link 131 = .ok (.aload_n 0, 1) := by decide +kernel
theorem dX3_link_132 : decode cX3_link 132 = .ok (.getfield 36, 3) := by decide +kernel
theorem dX3_link_135 : decode cX3_link 135 = .ok (.bipush 10, 2) := by decide +kernel
theorem dX3_link_137 : decode cX3_link 137 = .ok (.iload_n 1, 1) := by decide +kernel
theorem dX3_link_138 : decode cX3_link 138 = .ok (.imul, 1) := by decide +kernel
theorem dX3_link_139 : decode cX3_link 139 = .ok (.iload_n 2, 1) := by decide +kernel
theorem dX3_link_140 : decode cX3_link 140 = .ok (.iadd, 1) := by decide +kernel
theorem dX3_link_141 : decode cX3_link 141 = .ok (.iconst 0, 1) := by decide +kernel
theorem dX3_link_142 : decode cX3_link 142 = .ok (.iastore, 1) := by decide +kernel
theorem dX3_link_143 : decode cX3_link 143 = .ok (.aload_n 0, 1) := by decide +kernel
theorem dX3_link_144 : decode cX3_link 144 = .ok (.getfield 36, 3) := by decide +kernel
theorem dX3_link_147 : decode cX3_link 147 = .ok (.bipush 10, 2) := by decide +kernel
theorem dX3_link_149 : decode cX3_link 149 = .ok (.iload_n 2, 1) := by decide +kernel
theorem dX3_link_150 : decode cX3_link 150 = .ok (.imul, 1) := by decide +kernel
theorem dX3_link_151 : decode cX3_link 151 = .ok (.iload_n 1, 1) := by decide +kernel
theorem dX3_link_152 : decode cX3_link 152 = .ok (.iadd, 1) := by decide +kernel
theorem dX3_link_153 : decode cX3_link 153 = .ok (.iconst 0, 1) := by decide +kernel
theorem dX3_link_154 : decode cX3_link 154 = .ok (.iastore, 1) := by decide +kernel
theorem dX3_link_155 : decode cX3_link 155 = .ok (.aload_n 0, 1) := by decide +kernel
theorem dX3_link_156 : decode cX3_link 156 = .ok (.dup, 1) := by decide +kernel
theorem dX3_link_157 : decode cX3_link 157 = .ok (.getfield 94, 3) := by decide +kernel
theorem dX3_link_160 : decode cX3_link 160 = .ok (.iconst 1, 1) := by decide +kernel
theorem dX3_link_161 : decode cX3_link 161 = .ok (.iadd, 1) := by decide +kernel
theorem dX3_link_162 : decode cX3_link 162 = .ok (.putfield 94, 3) := by decide +kernel
theorem dX3_link_165 : decode cX3_link 165 = .ok (.aload_n 0, 1) := by decide +kernel
theorem dX3_link_166 : decode cX3_link 166 = .ok (.getfield 94, 3) := by decide +kernel
theorem dX3_link_169 : decode cX3_link 169 = .ok (.ireturn, 1) := by decide +kernel
set_option maxRecDepth 20000 in
theorem ggX3_cut_X3_isNode : GoodIn wsX3_cut wsX3_isNode := goodIn_sub (List.forall_mem_cons.mpr ⟨wk_wsX3_cut_0_8, (fun w h => (List.mem_append.mp h).elim ((List.forall_mem_cons.mpr ⟨wk_wsX3_cut_0_9, List.forall_mem_cons.mpr ⟨wk_wsX3_cut_0_10, List.forall_mem_cons.mpr ⟨wk_wsX3_cut_0_11, List.forall_mem_cons.mpr ⟨wk_wsX3_cut_0_7, List.forall_mem_cons.mpr ⟨wk_wsX3_cut_0_12, fun _ h => absurd h List.not_mem_nil⟩⟩⟩⟩⟩) w) (lf_wsX3_cut_1 w))⟩) (by decide +kernel)
set_option maxRecDepth 20000 in
theorem gX3_cut_X3_isNode : GoodIn wsX3_cut (wsV RX3 87 RX3 yX3_isNode wsX3_isNode) := goodIn_app (goodIn_sub (List.forall_mem_cons.mpr ⟨wk_wsX3_cut_0_4, List.forall_mem_cons.mpr ⟨wk_wsX3_cut_0_5, List.forall_mem_cons.mpr ⟨wk_wsX3_cut_0_6, List.forall_mem_cons.mpr ⟨wk_wsX3_cut_0_7, fun _ h => absurd h List.not_mem_nil⟩⟩⟩⟩) (by decide +kernel)) ggX3_cut_X3_isNode
set_option maxRecDepth 20000 in
theorem ggX3_cut_X3_knowItself : GoodIn wsX3_cut wsX3_knowItself := goodIn_sub (List.forall_mem_cons.mpr ⟨wk_wsX3_cut_0_16, (fun w h => (List.mem_append.mp h).elim ((List.forall_mem_cons.mpr ⟨wk_wsX3_cut_0_17, List.forall_mem_cons.mpr ⟨wk_wsX3_cut_0_18, List.forall_mem_cons.mpr ⟨wk_wsX3_cut_0_19, List.forall_mem_cons.mpr ⟨wk_wsX3_cut_0_20, List.forall_mem_cons.mpr ⟨wk_wsX3_cut_0_21, List.forall_mem_cons.mpr ⟨wk_wsX3_cut_0_22, List.forall_mem_cons.mpr ⟨wk_wsX3_cut_0_2, fun _ h => absurd h List.not_mem_nil⟩⟩⟩⟩⟩⟩⟩) w) (lf_wsX3_cut_1 w))⟩) (by decide +kernel)
set_option maxRecDepth 20000 in
theorem gX3_cut_X3_knowItself : GoodIn wsX3_cut (wsV RX3 83 RX3 yX3_knowItself wsX3_knowItself) := goodIn_app (goodIn_sub (List.forall_mem_cons.mpr ⟨wk_wsX3_cut_0_13, List.forall_mem_cons.mpr ⟨wk_wsX3_cut_0_14, List.forall_mem_cons.mpr ⟨wk_wsX3_cut_0_15, List.forall_mem_cons.mpr ⟨wk_wsX3_cut_0_7, fun _ h => absurd h List.not_mem_nil⟩⟩⟩⟩) (by decide +kernel)) ggX3_cut_X3_knowItself
theorem dX3_cut_0 : decode cX3_cut 0 = .ok (.aload_n 0, 1) := by decide +kernel
theorem dX3_cut_1 : decode cX3_cut 1 = .ok (.aload_n 0, 1) := by decide +kernel
theorem dX3_cut_2 : decode cX3_cut 2 = .ok (.iload_n 1, 1) := by decide +kernel
theorem dX3_cut_3 : decode cX3_cut 3 = .ok (.invokevirtual 87, 3) := by decide +kernel
theorem dX3_cut_6 : decode cX3_cut 6 = .ok (.ifCond .eq 11, 3) := by decide +kernel
theorem dX3_cut_9 : decode cX3_cut 9 = .ok (.aload_n 0, 1) := by decide +kernel
theorem dX3_cut_10 : decode cX3_cut 10 = .ok (.iload_n 2, 1) := by decide +kernel
theorem dX3_cut_11 : decode cX3_cut 11 = .ok (.invokevirtual 87, 3) := by decide +kernel
theorem dX3_cut_14 : decode cX3_cut 14 = .ok (.ifCond .ne 7, 3) := by decide +kernel
theorem dX3_cut_17 : decode cX3_cut 17 = .ok (.iconst 1, 1) := by decide +kernel
theorem dX3_cut_18 : decode cX3_cut 18 = .ok (.goto 22, 3) := by decide +kernel
theorem dX3_cut_21 : decode cX3_cut 21 = .ok (.aload_n 0, 1) := by decide +kernel
theorem dX3_cut_22 : decode cX3_cut 22 = .ok (.getfield 29, 3) := by decide +kernel
theorem dX3_cut_25 : decode cX3_cut 25 = .ok (.bipush 10, 2) := by decide +kernel
theorem dX3_cut_27 : decode cX3_cut 27 = .ok (.iload_n 1, 1) := by decide +kernel
theorem dX3_cut_28 : decode cX3_cut 28 = .ok (.imul, 1) := by decide +kernel
theorem dX3_cut_29 : decode cX3_cut 29 = .ok (.iload_n 2, 1) := by decide +kernel
theorem dX3_cut_30 : decode cX3_cut 30 = .ok (.iadd, 1) := by decide +kernel
theorem dX3_cut_31 : decode cX3_cut 31 = .ok (.baload, 1) := by decide +kernel
theorem dX3_cut_32 : decode cX3_cut 32 = .ok (.ifCond .ne 7, 3) := by decide +kernel
theorem dX3_cut_35 : decode cX3_cut 35 = .ok (.iconst 2, 1) := by decide +kernel
theorem dX3_cut_36 : decode cX3_cut 36 = .ok (.goto 4, 3) := by decide +kernel
theorem dX3_cut_39 : decode cX3_cut 39 = .ok (.iconst 0, 1) := by decide +kernel
theorem dX3_cut_40 : decode cX3_cut 40 = .ok (.putfield 76, 3) := by decide +kernel
theorem dX3_cut_43 : decode cX3_cut 43 = .ok (.aload_n 0, 1) := by decide +kernel
theorem dX3_cut_44 : decode cX3_cut 44 = .ok (.getfield 76, 3) := by decide +kernel
theorem dX3_cut_47 : decode cX3_cut 47 = .ok (.ifCond .le 5, 3) := by decide +kernel
theorem dX3_cut_50 : decode cX3_cut 50 = .ok (.iconst 0, 1) := by decide +kernel
theorem dX3_cut_51 : decode cX3_cut 51 = .ok (.ireturn, 1) := by decide +kernel
theorem dX3_cut_52 : decode cX3_cut 52 = .ok (.aload_n 0, 1) := by decide +kernel
theorem dX3_cut_53 : decode cX3_cut 53 = .ok (.getfield 29, 3) := by decide +kernel
theorem dX3_cut_56 : decode cX3_cut 56 = .ok (.bipush 10, 2) := by decide +kernel
theorem dX3_cut_58 : decode cX3_cut 58 = .ok (.iload_n 1, 1) := by decide +kernel
theorem dX3_cut_59 : decode cX3_cut 59 = .ok (.imul, 1) := by decide +kernel
theorem dX3_cut_60 : decode cX3_cut 60 = .ok (.iload_n 2, 1) := by decide +kernel
theorem dX3_cut_61 : decode cX3_cut 61 = .ok (.iadd, 1) := by decide +kernel
theorem dX3_cut_62 : decode cX3_cut 62 = .ok (.iconst 0, 1) := by decide +kernel
theorem dX3_cut_63 : decode cX3_cut 63 = .ok (.bastore, 1) := by decide +kernel
theorem dX3_cut_64 : decode cX3_cut 64 = .ok (.aload_n 0, 1) := by decide +kernel
theorem dX3_cut_65 : decode cX3_cut 65 = .ok (.getfield 29, 3) := by decide +kernel
theorem dX3_cut_68 : decode cX3_cut 68 = .ok (.bipush 10, 2) := by decide +kernel
theorem dX3_cut_70 : decode cX3_cut 70 = .ok (.iload_n 2, 1) := by decide +kernel
theorem dX3_cut_71 : decode cX3_cut 71 = .ok (.imul, 1) := by decide +kernel
theorem dX3_cut_72 : decode cX3_cut 72 = .ok (.iload_n 1, 1) := by decide +kernel
theorem dX3_cut_73 : decode cX3_cut 73 = .ok (.iadd, 1) := by decide +kernel
theorem dX3_cut_74 : decode cX3_cut 74 = .ok (.iconst 0, 1) := by decide +kernel
theorem dX3_cut_75 : decode cX3_cut 75 = .ok (.bastore, 1) := by decide +kernel
theorem dX3_cut_76 : decode cX3_cut 76 = .ok (.aload_n 0, 1) := by decide +kernel
theorem dX3_cut_77 : decode cX3_cut 77 = .ok (.getfield 51, 3) := by decide +kernel
theorem dX3_cut_80 : decode cX3_cut 80 = .ok (.iload_n 1, 1) := by decide +kernel
theorem dX3_cut_81 : decode cX3_cut 81 = .ok (.iaload, 1) := by decide +kernel
theorem dX3_cut_82 : decode cX3_cut 82 = .ok (.iload_n 2, 1) := by decide +kernel
theorem dX3_cut_83 : decode cX3_cut 83 = .ok (.if_icmp .ne 8, 3) := by decide +kernel
theorem dX3_cut_86 : decode cX3_cut 86 = .ok (.aload_n 0, 1) := by decide +kernel
theorem dX3_cut_87 : decode cX3_cut 87 = .ok (.iload_n 1, 1) := by decide +kernel
theorem dX3_cut_88 : decode cX3_cut 88 = .ok (.invokevirtual 83, 3) := by decide +kernel
theorem dX3_cut_91 : decode cX3_cut 91 = .ok (.aload_n 0, 1) := by decide +kernel
theorem dX3_cut_92 : decode cX3_cut 92 = .ok (.getfield 51, 3) := by decide +kernel
theorem dX3_cut_95 : decode cX3_cut 95 = .ok (.iload_n 2, 1) := by decide +kernel
theorem dX3_cut_96 : decode cX3_cut 96 = .ok (.iaload, 1) := by decide +kernel
theorem dX3_cut_97 : decode cX3_cut 97 = .ok (.iload_n 1, 1) := by decide +kernel
theorem dX3_cut_98 : decode cX3_cut 98 = .ok (.if_icmp .ne 8, 3) := by decide +kernel
theorem dX3_cut_101 : decode cX3_cut 101 = .ok (.aload_n 0, 1) := by decide +kernel
theorem dX3_cut_102 : decode cX3_cut 102 = .ok (.iload_n 2, 1) := by decide +kernel
theorem dX3_cut_103 : decode cX3_cut 103 = .ok (.invokevirtual 83, 3) := by decide +kernel
theorem dX3_cut_106 : decode cX3_cut 106 = .ok (.aload_n 0, 1) := by decide +kernel
theorem dX3_cut_107 : decode cX3_cut 107 = .ok (.dup, 1) := by decide +kernel
theorem dX3_cut_108 : decode cX3_cut 108 = .ok (.getfield 94, 3) := by decide +kernel
theorem dX3_cut_111 : decode cX3_cut 111 = .ok (.iconst 1, 1) := by decide +kernel
theorem dX3_cut_112 : decode cX3_cut 112 = .ok (.isub, 1) := by decide +kernel
theorem dX3_cut_113 : decode cX3_cut 113 = .ok (.putfield 94, 3) := by decide +kernel
theorem dX3_cut_116 : decode cX3_cut 116 = .ok (.aload_n 0, 1) := by decide +kernel
theorem dX3_cut_117 : decode cX3_cut 117 = .ok (.getfield 94, 3) := by decide +kernel
theorem dX3_cut_120 : decode cX3_cut 120 = .ok (.ireturn, 1) := by decide +kernel
set_option maxRecDepth 20000 in
theorem ggX3_tell_X3_isNode : GoodIn wsX3_tell wsX3_isNode := goodIn_sub (List.forall_mem_cons.mpr ⟨wk_wsX3_tell_0_9, (fun w h => (List.mem_append.mp h).elim ((List.forall_mem_cons.mpr ⟨wk_wsX3_tell_0_10, List.forall_mem_cons.mpr ⟨wk_wsX3_tell_0_11, List.forall_mem_cons.mpr ⟨wk_wsX3_tell_0_12, List.forall_mem_cons.mpr ⟨wk_wsX3_tell_0_8, List.forall_mem_cons.mpr ⟨wk_wsX3_tell_0_13, fun _ h => absurd h List.not_mem_nil⟩⟩⟩⟩⟩) w) (lf_wsX3_tell_1 w))⟩) (by decide +kernel)
set_option maxRecDepth 20000 in
theorem gX3_tell_X3_isNode : GoodIn wsX3_tell (wsV RX3 87 RX3 yX3_isNode wsX3_isNode) := goodIn_app (goodIn_sub (List.forall_mem_cons.mpr ⟨wk_wsX3_tell_0_5, List.forall_mem_cons.mpr ⟨wk_wsX3_tell_0_6, List.forall_mem_cons.mpr ⟨wk_wsX3_tell_0_7, List.forall_mem_cons.mpr ⟨wk_wsX3_tell_0_8, fun _ h => absurd h List.not_mem_nil⟩⟩⟩⟩) (by decide +kernel)) ggX3_tell_X3_isNode
set_option maxRecDepth 20000 in
theorem ggX3_tell_X3_in : GoodIn wsX3_tell wsX3_in := goodIn_sub (List.forall_mem_cons.mpr ⟨wk_wsX3_tell_0_13, (fun _ h => absurd h List.not_mem_nil)⟩) (by decide +kernel)
set_option maxRecDepth 20000 in
theorem gX3_tell_X3_in : GoodIn wsX3_tell (va_wsS RX3 79 yX3_in wsX3_in) := goodIn_app (goodIn_sub (List.forall_mem_cons.mpr ⟨wk_wsX3_tell_0_11, List.forall_mem_cons.mpr ⟨wk_wsX3_tell_0_12, List.forall_mem_cons.mpr ⟨wk_wsX3_tell_0_8, fun _ h => absurd h List.not_mem_nil⟩⟩⟩) (by decide +kernel)) ggX3_tell_X3_in
theorem dX3_tell_0 : decode cX3_tell 0 = .ok (.aload_n 0, 1) := by decide +kernel
theorem dX3_tell_1 : decode cX3_tell 1 = .ok (.aload_n 0, 1) := by decide +kernel
theorem dX3_tell_2 : decode cX3_tell 2 = .ok (.iload_n 1, 1) := by decide +kernel
theorem dX3_tell_3 : decode cX3_tell 3 = .ok (.invokevirtual 87, 3) := by decide +kernel
theorem dX3_tell_6 : decode cX3_tell 6 = .ok (.ifCond .eq 11, 3) := by decide +kernel
theorem dX3_tell_9 : decode cX3_tell 9 = .ok (.aload_n 0, 1) := by decide +kernel
theorem dX3_tell_10 : decode cX3_tell 10 = .ok (.iload_n 2, 1) := by decide +kernel
theorem dX3_tell_11 : decode cX3_tell 11 = .ok (.invokevirtual 87, 3) := by decide +kernel
theorem dX3_tell_14 : decode cX3_tell 14 = .ok (.ifCond .ne 7, 3) := by decide +kernel
theorem dX3_tell_17 : decode cX3_tell 17 = .ok (.iconst 1, 1) := by decide +kernel
theorem dX3_tell_18 : decode cX3_tell 18 = .ok (.goto 37, 3) := by decide +kernel
theorem dX3_tell_21 : decode cX3_tell 21 = .ok (.iload_n 3, 1) := by decide +kernel
theorem dX3_tell_22 : decode cX3_tell 22 = .ok (.ldc 97, 2) := by decide +kernel
theorem dX3_tell_24 : decode cX3_tell 24 = .ok (.ldc 93, 2) := by decide +kernel
theorem dX3_tell_26 : decode cX3_tell 26 = .ok (.invokestatic 79, 3) := by decide +kernel
theorem dX3_tell_29 : decode cX3_tell 29 = .ok (.ifCond .ne 7, 3) := by decide +kernel
theorem dX3_tell_32 : decode cX3_tell 32 = .ok (.iconst 2, 1) := by decide +kernel
theorem dX3_tell_33 : decode cX3_tell 33 = .ok (.goto 22, 3) := by decide +kernel
theorem dX3_tell_36 : decode cX3_tell 36 = .ok (.aload_n 0, 1) := by decide +kernel
theorem dX3_tell_37 : decode cX3_tell 37 = .ok (.getfield 29, 3) := by decide +kernel
theorem dX3_tell_40 : decode cX3_tell 40 = .ok (.bipush 10, 2) := by decide +kernel
theorem dX3_tell_42 : decode cX3_tell 42 = .ok (.iload_n 1, 1) := by decide +kernel
theorem dX3_tell_43 : decode cX3_tell 43 = .ok (.imul, 1) := by decide +kernel
theorem dX3_tell_44 : decode cX3_tell 44 = .ok (.iload_n 2, 1) := by decide +kernel
theorem dX3_tell_45 : decode cX3_tell 45 = .ok (.iadd, 1) := by decide +kernel
theorem dX3_tell_46 : decode cX3_tell 46 = .ok (.baload, 1) := by decide +kernel
theorem dX3_tell_47 : decode cX3_tell 47 = .ok (.ifCond .ne 7, 3) := by decide +kernel
theorem dX3_tell_50 : decode cX3_tell 50 = .ok (.iconst 3, 1) := by decide +kernel
theorem dX3_tell_51 : decode cX3_tell 51 = .ok (.goto 4, 3) := by decide +kernel
theorem dX3_tell_54 : decode cX3_tell 54 = .ok (.iconst 0, 1) := by decide +kernel
theorem dX3_tell_55 : decode cX3_tell 55 = .ok (.putfield 76, 3) := by decide +kernel
theorem dX3_tell_58 : decode cX3_tell 58 = .ok (.aload_n 0, 1) := by decide +kernel
theorem dX3_tell_59 : decode cX3_tell 59 = .ok (.getfield 76, 3) := by decide +kernel
theorem dX3_tell_62 : decode cX3_tell 62 = .ok (.ifCond .le 5, 3) := by decide +kernel
theorem dX3_tell_65 : decode cX3_tell 65 = .ok (.iconst 0, 1) := by decide +kernel
theorem dX3_tell_66 : decode cX3_tell 66 = .ok (.ireturn, 1) := by decide +kernel
theorem dX3_tell_67 : decode cX3_tell 67 = .ok (.aload_n 0, 1) := by decide +kernel
theorem dX3_tell_68 : decode cX3_tell 68 = .ok (.getfield 36, 3) := by decide +kernel
theorem dX3_tell_71 : decode cX3_tell 71 = .ok (.bipush 10, 2) := by decide +kernel
theorem dX3_tell_73 : decode cX3_tell 73 = .ok (.iload_n 1, 1) := by decide +kernel
theorem dX3_tell_74 : decode cX3_tell 74 = .ok (.imul, 1) := by decide +kernel
theorem dX3_tell_75 : decode cX3_tell 75 = .ok (.iload_n 2, 1) := by decide +kernel
theorem dX3_tell_76 : decode cX3_tell 76 = .ok (.iadd, 1) := by decide +kernel
theorem dX3_tell_77 : decode cX3_tell 77 = .ok (.iaload, 1) := by decide +kernel
theorem dX3_tell_78 : decode cX3_tell 78 = .ok (.istore 4, 2) := by decide +kernel
theorem dX3_tell_80 : decode cX3_tell 80 = .ok (.aload_n 0, 1) := by decide +kernel
theorem dX3_tell_81 : decode cX3_tell 81 = .ok (.getfield 36, 3) := by decide +kernel
theorem dX3_tell_84 : decode cX3_tell 84 = .ok (.bipush 10, 2) := by decide +kernel
theorem dX3_tell_86 : decode cX3_tell 86 = .ok (.iload_n 1, 1) := by decide +kernel
theorem dX3_tell_87 : decode cX3_tell 87 = .ok (.imul, 1) := by decide +kernel
theorem dX3_tell_88 : decode cX3_tell 88 = .ok (.iload_n 2, 1) := by decide +kernel
theorem dX3_tell_89 : decode cX3_tell 89 = .ok (.iadd, 1) := by decide +kernel
theorem dX3_tell_90 : decode cX3_tell 90 = .ok (.iload_n 3, 1) := by decide +kernel
theorem dX3_tell_91 : decode cX3_tell 91 = .ok (.iastore, 1) := by decide +kernel
theorem dX3_tell_92 : decode cX3_tell 92 = .ok (.aload_n 0, 1) := by decide +kernel
theorem dX3_tell_93 : decode cX3_tell 93 = .ok (.getfield 36, 3) := by decide +kernel
theorem dX3_tell_96 : decode cX3_tell 96 = .ok (.bipush 10, 2) := by decide +kernel
theorem dX3_tell_98 : decode cX3_tell 98 = .ok (.iload_n 2, 1) := by decide +kernel
theorem dX3_tell_99 : decode cX3_tell 99 = .ok (.imul, 1) := by decide +kernel
theorem dX3_tell_100 : decode cX3_tell 100 = .ok (.iload_n 1, 1) := by decide +kernel
theorem dX3_tell_101 : decode cX3_tell 101 = .ok (.iadd, 1) := by decide +kernel
theorem dX3_tell_102 : decode cX3_tell 102 = .ok (.iload_n 3, 1) := by decide +kernel
theorem dX3_tell_103 : decode cX3_tell 103 = .ok (.ineg, 1) := by decide +kernel
theorem dX3_tell_104 : decode cX3_tell 104 = .ok (.iastore, 1) := by decide +kernel
theorem dX3_tell_105 : decode cX3_tell 105 = .ok (.iload 4, 2) := by decide +kernel
theorem dX3_tell_107 : decode cX3_tell 107 = .ok (.ireturn, 1) := by decide +kernel
theorem dX3_areNeighbours_0 : decode cX3_areNeighbours 0 = .ok (.aload_n 0, 1) := by decide +kernel
theorem dX3_areNeighbours_1 : decode cX3_areNeighbours 1 = .ok (.getfield 29, 3) := by decide +kernel
theorem dX3_areNeighbours_4 : decode cX3_areNeighbours 4 = .ok (.bipush 10, 2) := by decide +kernel
theorem dX3_areNeighbours_6 : decode cX3_areNeighbours 6 = .ok (.iload_n 1, 1) := by decide +kernel
theorem dX3_areNeighbours_7 : decode cX3_areNeighbours 7 = .ok (.imul, 1) := by decide +kernel
theorem dX3_areNeighbours_8 : decode cX3_areNeighbours 8 = .ok (.iload_n 2, 1) := by decide +kernel
theorem dX3_areNeighbours_9 : decode cX3_areNeighbours 9 = .ok (.iadd, 1) := by decide +kernel
theorem dX3_areNeighbours_10 : decode cX3_areNeighbours 10 = .ok (.baload, 1) := by decide +kernel
theorem dX3_areNeighbours_11 : decode cX3_areNeighbours 11 = .ok (.ifCond .eq 22, 3) := by decide +kernel
theorem dX3_areNeighbours_14 : decode cX3_areNeighbours 14 = .ok (.aload_n 0, 1) := by decide +kernel
theorem dX3_areNeighbours_15 : decode cX3_areNeighbours 15 = .ok (.getfield 7, 3) := by decide +kernel
theorem dX3_areNeighbours_18 : decode cX3_areNeighbours 18 = .ok (.iload_n 1, 1) := by decide +kernel
theorem dX3_areNeighbours_19 : decode cX3_areNeighbours 19 = .ok (.iaload, 1) := by decide +kernel
theorem dX3_areNeighbours_20 : decode cX3_areNeighbours 20 = .ok (.aload_n 0, 1) := by decide +kernel
theorem dX3_areNeighbours_21 : decode cX3_areNeighbours 21 = .ok (.getfield 7, 3) := by decide +kernel
theorem dX3_areNeighbours_24 : decode cX3_areNeighbours 24 = .ok (.iload_n 2, 1) := by decide +kernel
theorem dX3_areNeighbours_25 : decode cX3_areNeighbours 25 = .ok (.iaload, 1) := by decide +kernel
theorem dX3_areNeighbours_26 : decode cX3_areNeighbours 26 = .ok (.if_icmp .ne 7, 3) := by decide +kernel
theorem dX3_areNeighbours_29 : decode cX3_areNeighbours 29 = .ok (.iconst 1, 1) := by decide +kernel
theorem dX3_areNeighbours_30 : decode cX3_areNeighbours 30 = .ok (.goto 4, 3) := by decide +kernel
theorem dX3_areNeighbours_33 : decode cX3_areNeighbours 33 = .ok (.iconst 0, 1) := by decide +kernel
theorem dX3_areNeighbours_34 : decode cX3_areNeighbours 34 = .ok (.ireturn, 1) := by decide +kernel
theorem dX3_isBetter_0 : decode cX3_isBetter 0 = .ok (.aload_n 0, 1) := by decide +kernel
theorem dX3_isBetter_1 : decode cX3_isBetter 1 = .ok (.getfield 42, 3) := by decide +kernel
theorem dX3_isBetter_4 : decode cX3_isBetter 4 = .ok (.iload_n 1, 1) := by decide +kernel
theorem dX3_isBetter_5 : decode cX3_isBetter 5 = .ok (.iaload, 1) := by decide +kernel
theorem dX3_isBetter_6 : decode cX3_isBetter 6 = .ok (.aload_n 0, 1) := by decide +kernel
theorem dX3_isBetter_7 : decode cX3_isBetter 7 = .ok (.getfield 57, 3) := by decide +kernel
theorem dX3_isBetter_10 : decode cX3_isBetter 10 = .ok (.iload_n 2, 1) := by decide +kernel
theorem dX3_isBetter_11 : decode cX3_isBetter 11 = .ok (.iaload, 1) := by decide +kernel
theorem dX3_isBetter_12 : decode cX3_isBetter 12 = .ok (.if_icmp .eq 24, 3) := by decide +kernel
theorem dX3_isBetter_15 : decode cX3_isBetter 15 = .ok (.aload_n 0, 1) := by decide +kernel
theorem dX3_isBetter_16 : decode cX3_isBetter 16 = .ok (.getfield 42, 3) := by decide +kernel
theorem dX3_isBetter_19 : decode cX3_isBetter 19 = .ok (.iload_n 1, 1) := by decide +kernel
theorem dX3_isBetter_20 : decode cX3_isBetter 20 = .ok (.iaload, 1) := by decide +kernel
theorem dX3_isBetter_21 : decode cX3_isBetter 21 = .ok (.aload_n 0, 1) := by decide +kernel
theorem dX3_isBetter_22 : decode cX3_isBetter 22 = .ok (.getfield 57, 3) := by decide +kernel
theorem dX3_isBetter_25 : decode cX3_isBetter 25 = .ok (.iload_n 2, 1) := by decide +kernel
theorem dX3_isBetter_26 : decode cX3_isBetter 26 = .ok (.iaload, 1) := by decide +kernel
theorem dX3_isBetter_27 : decode cX3_isBetter 27 = .ok (.if_icmp .ge 7, 3) := by decide +kernel
theorem dX3_isBetter_30 : decode cX3_isBetter 30 = .ok (.iconst 1, 1) := by decide +kernel
theorem dX3_isBetter_31 : decode cX3_isBetter 31 = .ok (.goto 4, 3) := by decide +kernel
theorem dX3_isBetter_34 : decode cX3_isBetter 34 = .ok (.iconst 0, 1) := by decide +kernel
theorem dX3_isBetter_35 : decode cX3_isBetter 35 = .ok (.ireturn, 1) := by decide +kernel
theorem dX3_isBetter_36 : decode cX3_isBetter 36 = .ok (.aload_n 0, 1) := by decide +kernel
theorem dX3_isBetter_37 : decode cX3_isBetter 37 = .ok (.getfield 45, 3) := by decide +kernel
theorem dX3_isBetter_40 : decode cX3_isBetter 40 = .ok (.iload_n 1, 1) := by decide +kernel
theorem dX3_isBetter_41 : decode cX3_isBetter 41 = .ok (.iaload, 1) := by decide +kernel
theorem dX3_isBetter_42 : decode cX3_isBetter 42 = .ok (.aload_n 0, 1) := by decide +kernel
theorem dX3_isBetter_43 : decode cX3_isBetter 43 = .ok (.getfield 60, 3) := by decide +kernel
theorem dX3_isBetter_46 : decode cX3_isBetter 46 = .ok (.iload_n 2, 1) := by decide +kernel
theorem dX3_isBetter_47 : decode cX3_isBetter 47 = .ok (.iaload, 1) := by decide +kernel
theorem dX3_isBetter_48 : decode cX3_isBetter 48 = .ok (.if_icmp .eq 24, 3) := by decide +kernel
theorem dX3_isBetter_51 : decode cX3_isBetter 51 = .ok (.aload_n 0, 1) := by decide +kernel
theorem dX3_isBetter_52 : decode cX3_isBetter 52 = .ok (.getfield 45, 3) := by decide +kernel
theorem dX3_isBetter_55 : decode cX3_isBetter 55 = .ok (.iload_n 1, 1) := by decide +kernel
theorem dX3_isBetter_56 : decode cX3_isBetter 56 = .ok (.iaload, 1) := by decide +kernel
theorem dX3_isBetter_57 : decode cX3_isBetter 57 = .ok (.aload_n 0, 1) := by decide +kernel
theorem dX3_isBetter_58 : decode cX3_isBetter 58 = .ok (.getfield 60, 3) := by decide +kernel
theorem dX3_isBetter_61 : decode cX3_isBetter 61 = .ok (.iload_n 2, 1) := by decide +kernel
theorem dX3_isBetter_62 : decode cX3_isBetter 62 = .ok (.iaload, 1) := by decide +kernel
theorem dX3_isBetter_63 : decode cX3_isBetter 63 = .ok (.if_icmp .ge 7, 3) := by decide +kernel
theorem dX3_isBetter_66 : decode cX3_isBetter 66 = .ok (.iconst 1, 1) := by decide +kernel
theorem dX3_isBetter_67 : decode cX3_isBetter 67 = .ok (.goto 4, 3) := by decide +kernel
theorem dX3_isBetter_70 : decode cX3_isBetter 70 = .ok (.iconst 0, 1) := by decide +kernel
theorem dX3_isBetter_71 : decode cX3_isBetter 71 = .ok (.ireturn, 1) := by decide +kernel
theorem dX3_isBetter_72 : decode cX3_isBetter 72 = .ok (.aload_n 0, 1) := by decide +kernel
theorem dX3_isBetter_73 : decode cX3_isBetter 73 = .ok (.getfield 39, 3) := by decide +kernel
theorem dX3_isBetter_76 : decode cX3_isBetter 76 = .ok (.iload_n 1, 1) := by decide +kernel
theorem dX3_isBetter_77 : decode cX3_isBetter 77 = .ok (.iaload, 1) := by decide +kernel
theorem dX3_isBetter_78 : decode cX3_isBetter 78 = .ok (.aload_n 0, 1) := by decide +kernel
theorem dX3_isBetter_79 : decode cX3_isBetter 79 = .ok (.getfield 54, 3) := by decide +kernel
theorem dX3_isBetter_82 : decode cX3_isBetter 82 = .ok (.iload_n 2, 1) := by decide +kernel
theorem dX3_isBetter_83 : decode cX3_isBetter 83 = .ok (.iaload, 1) := by decide +kernel
theorem dX3_isBetter_84 : decode cX3_isBetter 84 = .ok (.if_icmp .eq 24, 3) := by decide +kernel
theorem dX3_isBetter_87 : decode cX3_isBetter 87 = .ok (.aload_n 0, 1) := by decide +kernel
theorem dX3_isBetter_88 : decode cX3_isBetter 88 = .ok (.getfield 39, 3) := by decide +kernel
theorem dX3_isBetter_91 : decode cX3_isBetter 91 = .ok (.iload_n 1, 1) := by decide +kernel
theorem dX3_isBetter_92 : decode cX3_isBetter 92 = .ok (.iaload, 1) := by decide +kernel
theorem dX3_isBetter_93 : decode cX3_isBetter 93 = .ok (.aload_n 0, 1) := by decide +kernel
theorem dX3_isBetter_94 : decode cX3_isBetter 94 = .ok (.getfield 54, 3) := by decide +kernel
theorem dX3_isBetter_97 : decode cX3_isBetter 97 = .ok (.iload_n 2, 1) := by decide +kernel
theorem dX3_isBetter_98 : decode cX3_isBetter 98 = .ok (.iaload, 1) := by decide +kernel
theorem dX3_isBetter_99 : decode cX3_isBetter 99 = .ok (.if_icmp .ge 7, 3) := by decide +kernel
theorem dX3_isBetter_102 : decode cX3_isBetter 102 = .ok (.iconst 1, 1) := by decide +kernel
theorem dX3_isBetter_103 : decode cX3_isBetter 103 = .ok (.goto 4, 3) := by decide +kernel
theorem dX3_isBetter_106 : decode cX3_isBetter 106 = .ok (.iconst 0, 1) := by decide +kernel
theorem dX3_isBetter_107 : decode cX3_isBetter 107 = .ok (.ireturn, 1) := by decide +kernel
theorem dX3_isBetter_108 : decode cX3_isBetter 108 = .ok (.aload_n 0, 1) := by decide +kernel
theorem dX3_isBetter_109 : decode cX3_isBetter 109 = .ok (.getfield 48, 3) := by decide +kernel
theorem dX3_isBetter_112 : decode cX3_isBetter 112 = .ok (.iload_n 1, 1) := by decide +kernel
theorem dX3_isBetter_113 : decode cX3_isBetter 113 = .ok (.iaload, 1) := by decide +kernel
theorem dX3_isBetter_114 : decode cX3_isBetter 114 = .ok (.iconst 1, 1) := by decide +kernel
theorem dX3_isBetter_115 : decode cX3_isBetter 115 = .ok (.iadd, 1) := by decide +kernel
theorem dX3_isBetter_116 : decode cX3_isBetter 116 = .ok (.aload_n 0, 1) := by decide +kernel
theorem dX3_isBetter_117 : decode cX3_isBetter 117 = .ok (.getfield 63, 3) := by decide +kernel
theorem dX3_isBetter_120 : decode cX3_isBetter 120 = .ok (.iload_n 2, 1) := by decide +kernel
theorem dX3_isBetter_121 : decode cX3_isBetter 121 = .ok (.iaload, 1) := by decide +kernel
theorem dX3_isBetter_122 : decode cX3_isBetter 122 = .ok (.if_icmp .ge 7, 3) := by decide +kernel
theorem dX3_isBetter_125 : decode cX3_isBetter 125 = .ok (.iconst 1, 1) := by decide +kernel
theorem dX3_isBetter_126 : decode cX3_isBetter 126 = .ok (.goto 4, 3) := by decide +kernel
theorem dX3_isBetter_129 : decode cX3_isBetter 129 = .ok (.iconst 0, 1) := by decide +kernel
theorem dX3_isBetter_130 : decode cX3_isBetter 130 = .ok (.ireturn, 1) := by decide +kernel
set_option maxRecDepth 20000 in
theorem ggX3_listen_X3_areNeighbours : GoodIn wsX3_listen wsX3_areNeighbours := goodIn_sub (List.forall_mem_cons.mpr ⟨wk_wsX3_listen_0_17, (fun w h => (List.mem_append.mp h).elim ((List.forall_mem_cons.mpr ⟨wk_wsX3_listen_0_18, List.forall_mem_cons.mpr ⟨wk_wsX3_listen_0_19, fun _ h => absurd h List.not_mem_nil⟩⟩) w) (lf_wsX3_listen_1 w))⟩) (by decide +kernel)
set_option maxRecDepth 20000 in
theorem gX3_listen_X3_areNeighbours : GoodIn wsX3_listen (wsV RX3 98 RX3 yX3_areNeighbours wsX3_areNeighbours) := goodIn_app (goodIn_sub (List.forall_mem_cons.mpr ⟨wk_wsX3_listen_0_13, List.forall_mem_cons.mpr ⟨wk_wsX3_listen_0_14, List.forall_mem_cons.mpr ⟨wk_wsX3_listen_0_15, List.forall_mem_cons.mpr ⟨wk_wsX3_listen_0_16, fun _ h => absurd h List.not_mem_nil⟩⟩⟩⟩) (by decide +kernel)) ggX3_listen_X3_areNeighbours
set_option maxRecDepth 20000 in
theorem ggX3_listen_X3_isBetter : GoodIn wsX3_listen wsX3_isBetter := goodIn_sub (List.forall_mem_cons.mpr ⟨wk_wsX3_listen_0_23, (fun w h => (List.mem_append.mp h).elim ((List.forall_mem_cons.mpr ⟨wk_wsX3_listen_0_11, List.forall_mem_cons.mpr ⟨wk_wsX3_listen_0_1, List.forall_mem_cons.mpr ⟨wk_wsX3_listen_0_12, List.forall_mem_cons.mpr ⟨wk_wsX3_listen_0_3, List.forall_mem_cons.mpr ⟨wk_wsX3_listen_0_10, List.forall_mem_cons.mpr ⟨wk_wsX3_listen_0_0, List.forall_mem_cons.mpr ⟨wk_wsX3_listen_0_8, List.forall_mem_cons.mpr ⟨wk_wsX3_listen_0_5, fun _ h => absurd h List.not_mem_nil⟩⟩⟩⟩⟩⟩⟩⟩) w) (lf_wsX3_listen_1 w))⟩) (by decide +kernel)
set_option maxRecDepth 20000 in
theorem gX3_listen_X3_isBetter : GoodIn wsX3_listen (wsV RX3 102 RX3 yX3_isBetter wsX3_isBetter) := goodIn_app (goodIn_sub (List.forall_mem_cons.mpr ⟨wk_wsX3_listen_0_20, List.forall_mem_cons.mpr ⟨wk_wsX3_listen_0_21, List.forall_mem_cons.mpr ⟨wk_wsX3_listen_0_22, List.forall_mem_cons.mpr ⟨wk_wsX3_listen_0_16, fun _ h => absurd h List.not_mem_nil⟩⟩⟩⟩) (by decide +kernel)) ggX3_listen_X3_isBetter
theorem dX3_listen_0 : decode cX3_listen 0 = .ok (.aload_n 0, 1) := by decide +kernel
theorem dX3_listen_1 : decode cX3_listen 1 = .ok (.getfield 54, 3) := by decide +kernel
theorem dX3_listen_4 : decode cX3_listen 4 = .ok (.iload_n 1, 1) := by decide +kernel
theorem dX3_listen_5 : decode cX3_listen 5 = .ok (.iload_n 1, 1) := by decide +kernel
theorem dX3_listen_6 : decode cX3_listen 6 = .ok (.iastore, 1) := by decide +kernel
theorem dX3_listen_7 : decode cX3_listen 7 = .ok (.aload_n 0, 1) := by decide +kernel
theorem dX3_listen_8 : decode cX3_listen 8 = .ok (.getfield 57, 3) := by decide +kernel
theorem dX3_listen_11 : decode cX3_listen 11 = .ok (.iload_n 1, 1) := by decide +kernel
theorem dX3_listen_12 : decode cX3_listen 12 = .ok (.aload_n 0, 1) := by decide +kernel
theorem dX3_listen_13 : decode cX3_listen 13 = .ok (.getfield 13, 3) := by decide +kernel
theorem dX3_listen_16 : decode cX3_listen 16 = .ok (.iload_n 1, 1) := by decide +kernel
theorem dX3_listen_17 : decode cX3_listen 17 = .ok (.iaload, 1) := by decide +kernel
theorem dX3_listen_18 : decode cX3_listen 18 = .ok (.iastore, 1) := by decide +kernel
theorem dX3_listen_19 : decode cX3_listen 19 = .ok (.aload_n 0, 1) := by decide +kernel
theorem dX3_listen_20 : decode cX3_listen 20 = .ok (.getfield 60, 3) := by decide +kernel
theorem dX3_listen_23 : decode cX3_listen 23 = .ok (.iload_n 1, 1) := by decide +kernel
theorem dX3_listen_24 : decode cX3_listen 24 = .ok (.aload_n 0, 1) := by decide +kernel
theorem dX3_listen_25 : decode cX3_listen 25 = .ok (.getfield 16, 3) := by decide +kernel
theorem dX3_listen_28 : decode cX3_listen 28 = .ok (.iload_n 1, 1) := by decide +kernel
theorem dX3_listen_29 : decode cX3_listen 29 = .ok (.iaload, 1) := by decide +kernel
theorem dX3_listen_30 : decode cX3_listen 30 = .ok (.iastore, 1) := by decide +kernel
theorem dX3_listen_31 : decode cX3_listen 31 = .ok (.aload_n 0, 1) := by decide +kernel
theorem dX3_listen_32 : decode cX3_listen 32 = .ok (.getfield 63, 3) := by decide +kernel
theorem dX3_listen_35 : decode cX3_listen 35 = .ok (.iload_n 1, 1) := by decide +kernel
theorem dX3_listen_36 : decode cX3_listen 36 = .ok (.iconst 0, 1) := by decide +kernel
theorem dX3_listen_37 : decode cX3_listen 37 = .ok (.iastore, 1) := by decide +kernel
theorem dX3_listen_38 : decode cX3_listen 38 = .ok (.aload_n 0, 1) := by decide +kernel
theorem dX3_listen_39 : decode cX3_listen 39 = .ok (.getfield 66, 3) := by decide +kernel
theorem dX3_listen_42 : decode cX3_listen 42 = .ok (.iload_n 1, 1) := by decide +kernel
theorem dX3_listen_43 : decode cX3_listen 43 = .ok (.iconst (-1), 1) := by decide +kernel
theorem dX3_listen_44 : decode cX3_listen 44 = .ok (.iastore, 1) := by decide +kernel
theorem dX3_listen_45 : decode cX3_listen 45 = .ok (.iconst 0, 1) := by decide +kernel
theorem dX3_listen_46 : decode cX3_listen 46 = .ok (.istore_n 2, 1) := by decide +kernel
theorem dX3_listen_47 : decode cX3_listen 47 = .ok (.iload_n 2, 1) := by decide +kernel
theorem dX3_listen_48 : decode cX3_listen 48 = .ok (.aload_n 0, 1) := by decide +kernel
theorem dX3_listen_49 : decode cX3_listen 49 = .ok (.getfield 72, 3) := by decide +kernel
theorem dX3_listen_52 : decode cX3_listen 52 = .ok (.if_icmp .ge 115, 3) := by decide +kernel
theorem dX3_listen_55 : decode cX3_listen 55 = .ok (.aload_n 0, 1) := by decide +kernel
theorem dX3_listen_56 : decode cX3_listen 56 = .ok (.iload_n 1, 1) := by decide +kernel
theorem dX3_listen_57 : decode cX3_listen 57 = .ok (.iload_n 2, 1) := by decide +kernel
theorem dX3_listen_58 : decode cX3_listen 58 = .ok (.invokevirtual 98, 3) := by decide +kernel
theorem dX3_listen_61 : decode cX3_listen 61 = .ok (.ifCond .eq 28, 3) := by decide +kernel
theorem dX3_listen_64 : decode cX3_listen 64 = .ok (.aload_n 0, 1) := by decide +kernel
theorem dX3_listen_65 : decode cX3_listen 65 = .ok (.getfield 48, 3) := by decide +kernel
theorem dX3_listen_68 : decode cX3_listen 68 = .ok (.iload_n 2, 1) := by decide +kernel
theorem dX3_listen_69 : decode cX3_listen 69 = .ok (.iaload, 1) := by decide +kernel
theorem dX3_listen_70 : decode cX3_listen 70 = .ok (.bipush 9, 2) := by decide +kernel
theorem dX3_listen_72 : decode cX3_listen 72 = .ok (.if_icmp .ge 17, 3) := by decide +kernel
theorem dX3_listen_75 : decode cX3_listen 75 = .ok (.aload_n 0, 1) := by decide +kernel
theorem dX3_listen_76 : decode cX3_listen 76 = .ok (.getfield 51, 3) := by decide +kernel
theorem dX3_listen_79 : decode cX3_listen 79 = .ok (.iload_n 2, 1) := by decide +kernel
theorem dX3_listen_80 : decode cX3_listen 80 = .ok (.iaload, 1) := by decide +kernel
theorem dX3_listen_81 : decode cX3_listen 81 = .ok (.iload_n 1, 1) := by decide +kernel
theorem dX3_listen_82 : decode cX3_listen 82 = .ok (.if_icmp .eq 7, 3) := by decide +kernel
theorem dX3_listen_85 : decode cX3_listen 85 = .ok (.iconst 1, 1) := by decide +kernel
theorem dX3_listen_86 : decode cX3_listen 86 = .ok (.goto 4, 3) := by decide +kernel
theorem dX3_listen_89 : decode cX3_listen 89 = .ok (.iconst 0, 1) := by decide +kernel
theorem dX3_listen_90 : decode cX3_listen 90 = .ok (.istore_n 3, 1) := by decide +kernel
theorem dX3_listen_91 : decode cX3_listen 91 = .ok (.iload_n 3, 1) := by decide +kernel
theorem dX3_listen_92 : decode cX3_listen 92 = .ok (.ifCond .eq 69, 3) := by decide +kernel
theorem dX3_listen_95 : decode cX3_listen 95 = .ok (.aload_n 0, 1) := by decide +kernel
theorem dX3_listen_96 : decode cX3_listen 96 = .ok (.iload_n 2, 1) := by decide +kernel
theorem dX3_listen_97 : decode cX3_listen 97 = .ok (.iload_n 1, 1) := by decide +kernel
theorem dX3_listen_98 : decode cX3_listen 98 = .ok (.invokevirtual 102, 3) := by decide +kernel
theorem dX3_listen_101 : decode cX3_listen 101 = .ok (.ifCond .eq 60, 3) := by decide +kernel
theorem dX3_listen_104 : decode cX3_listen 104 = .ok (.aload_n 0, 1) := by decide +kernel
theorem dX3_listen_105 : decode cX3_listen 105 = .ok (.getfield 54, 3) := by decide +kernel
theorem dX3_listen_108 : decode cX3_listen 108 = .ok (.iload_n 1, 1) := by decide +kernel
theorem dX3_listen_109 : decode cX3_listen 109 = .ok (.aload_n 0, 1) := by decide +kernel
theorem dX3_listen_110 : decode cX3_listen 110 = .ok (.getfield 39, 3) := by decide +kernel
theorem dX3_listen_113 : decode cX3_listen 113 = .ok (.iload_n 2, 1) := by decide +kernel
theorem dX3_listen_114 : decode cX3_listen 114 = .ok (.iaload, 1) := by decide +kernel
theorem dX3_listen_115 : decode cX3_listen 115 = .ok (.iastore, 1) := by decide +kernel
theorem dX3_listen_116 : decode cX3_listen 116 = .ok (.aload_n 0, 1) := by decide +kernel
theorem dX3_listen_117 : decode cX3_listen 117 = .ok (.getfield 57, 3) := by decide +kernel
theorem dX3_listen_120 : decode cX3_listen 120 = .ok (.iload_n 1, 1) := by decide +kernel
theorem dX3_listen_121 : decode cX3_listen 121 = .ok (.aload_n 0, 1) := by decide +kernel
theorem dX3_listen_122 : decode cX3_listen 122 = .ok (.getfield 42, 3) := by decide +kernel
theorem dX3_listen_125 : decode cX3_listen 125 = .ok (.iload_n 2, 1) := by decide +kernel
theorem dX3_listen_126 : decode cX3_listen 126 = .ok (.iaload, 1) := by decide +kernel
theorem dX3_listen_127 : decode cX3_listen 127 = .ok (.iastore, 1) := by decide +kernel
theorem dX3_listen_128 : decode cX3_listen 128 = .ok (.aload_n 0, 1) := by decide +kernel
theorem dX3_listen_129 : decode cX3_listen 129 = .ok (.getfield 60, 3) := by decide +kernel
theorem dX3_listen_132 : decode cX3_listen 132 = .ok (.iload_n 1, 1) := by decide +kernel
theorem dX3_listen_133 : decode cX3_listen 133 = .ok (.aload_n 0, 1) := by decide +kernel
theorem dX3_listen_134 : decode cX3_listen 134 = .ok (.getfield 45, 3) := by decide +kernel
theorem dX3_listen_137 : decode cX3_listen 137 = .ok (.iload_n 2, 1) := by decide +kernel
theorem dX3_listen_138 : decode cX3_listen 138 = .ok (.iaload, 1) := by decide +kernel
theorem dX3_listen_139 : decode cX3_listen 139 = .ok (.iastore, 1) := by decide +kernel
theorem dX3_listen_140 : decode cX3_listen 140 = .ok (.aload_n 0, 1) := by decide +kernel
theorem dX3_listen_141 : decode cX3_listen 141 = .ok (.getfield 63, 3) := by decide +kernel
theorem dX3_listen_144 : decode cX3_listen 144 = .ok (.iload_n 1, 1) := by decide +kernel
theorem dX3_listen_145 : decode cX3_listen 145 = .ok (.aload_n 0, 1) := by decide +kernel
theorem dX3_listen_146 : decode cX3_listen 146 = .ok (.getfield 48, 3) := by decide +kernel
theorem dX3_listen_149 : decode cX3_listen 149 = .ok (.iload_n 2, 1) := by decide +kernel
theorem dX3_listen_150 : decode cX3_listen 150 = .ok (.iaload, 1) := by decide +kernel
theorem dX3_listen_151 : decode cX3_listen 151 = .ok (.iconst 1, 1) := by decide +kernel
theorem dX3_listen_152 : decode cX3_listen 152 = .ok (.iadd, 1) := by decide +kernel
theorem dX3_listen_153 : decode cX3_listen 153 = .ok (.iastore, 1) := by decide +kernel
theorem dX3_listen_154 : decode cX3_listen 154 = .ok (.aload_n 0, 1) := by decide +kernel
theorem dX3_listen_155 : decode cX3_listen 155 = .ok (.getfield 66, 3) := by decide +kernel
theorem dX3_listen_158 : decode cX3_listen 158 = .ok (.iload_n 1, 1) := by decide +kernel
theorem dX3_listen_159 : decode cX3_listen 159 = .ok (.iload_n 2, 1) := by decide +kernel
theorem dX3_listen_160 : decode cX3_listen 160 = .ok (.iastore, 1) := by decide +kernel
theorem dX3_listen_161 : decode cX3_listen 161 = .ok (.iinc 2 1, 3) := by decide +kernel
theorem dX3_listen_164 : decode cX3_listen 164 = .ok (.goto (-117), 3) := by decide +kernel
theorem dX3_listen_167 : decode cX3_listen 167 = .ok (.return_, 1) := by decide +kernel
set_option maxRecDepth 20000 in
theorem ggX3_announce_X3_listen : GoodIn wsX3_announce wsX3_listen := goodIn_sub (List.forall_mem_cons.mpr ⟨wk_wsX3_announce_0_15, (fun w h => (List.mem_append.mp h).elim ((List.forall_mem_cons.mpr ⟨wk_wsX3_announce_0_2, List.forall_mem_cons.mpr ⟨wk_wsX3_announce_0_4, List.forall_mem_cons.mpr ⟨wk_wsX3_announce_0_16, List.forall_mem_cons.mpr ⟨wk_wsX3_announce_0_6, List.forall_mem_cons.mpr ⟨wk_wsX3_announce_0_17, List.forall_mem_cons.mpr ⟨wk_wsX3_announce_0_8, List.forall_mem_cons.mpr ⟨wk_wsX3_announce_0_10, List.forall_mem_cons.mpr ⟨wk_wsX3_announce_0_0, List.forall_mem_cons.mpr ⟨wk_wsX3_announce_0_7, List.forall_mem_cons.mpr ⟨wk_wsX3_announce_0_9, List.forall_mem_cons.mpr ⟨wk_wsX3_announce_0_1, List.forall_mem_cons.mpr ⟨wk_wsX3_announce_0_3, List.forall_mem_cons.mpr ⟨wk_wsX3_announce_0_5, List.forall_mem_cons.mpr ⟨wk_wsX3_announce_0_18, List.forall_mem_cons.mpr ⟨wk_wsX3_announce_0_19, List.forall_mem_cons.mpr ⟨wk_wsX3_announce_0_20, List.forall_mem_cons.mpr ⟨wk_wsX3_announce_0_14, List.forall_mem_cons.mpr ⟨wk_wsX3_announce_0_21, List.forall_mem_cons.mpr ⟨wk_wsX3_announce_0_22, List.forall_mem_cons.mpr ⟨wk_wsX3_announce_0_23, List.forall_mem_cons.mpr ⟨wk_wsX3_announce_1_0, List.forall_mem_cons.mpr ⟨wk_wsX3_announce_1_1, List.forall_mem_cons.mpr ⟨wk_wsX3_announce_1_2, List.forall_mem_cons.mpr ⟨wk_wsX3_announce_1_3, fun _ h => absurd h List.not_mem_nil⟩⟩⟩⟩⟩⟩⟩⟩⟩⟩⟩⟩⟩⟩⟩⟩⟩⟩⟩⟩⟩⟩⟩⟩) w) (lf_wsX3_announce_2 w))⟩) (by decide +kernel)
set_option maxRecDepth 20000 in
theorem gX3_announce_X3_listen : GoodIn wsX3_announce (wsV RX3 105 RX3 yX3_listen wsX3_listen) := goodIn_app (goodIn_sub (List.forall_mem_cons.mpr ⟨wk_wsX3_announce_0_11, List.forall_mem_cons.mpr ⟨wk_wsX3_announce_0_12, List.forall_mem_cons.mpr ⟨wk_wsX3_announce_0_13, List.forall_mem_cons.mpr ⟨wk_wsX3_announce_0_14, fun _ h => absurd h List.not_mem_nil⟩⟩⟩⟩) (by decide +kernel)) ggX3_announce_X3_listen
theorem dX3_announce_0 : decode cX3_announce 0 = .ok (.iconst 0, 1) := by decide +kernel
theorem dX3_announce_1 : decode cX3_announce 1 = .ok (.istore_n 1, 1) := by decide +kernel
theorem dX3_announce_2 : decode cX3_announce 2 = .ok (.iload_n 1, 1) := by decide +kernel
theorem dX3_announce_3 : decode cX3_announce 3 = .ok (.aload_n 0, 1) := by decide +kernel
theorem dX3_announce_4 : decode cX3_announce 4 = .ok (.getfield 72, 3) := by decide +kernel
theorem dX3_announce_7 : decode cX3_announce 7 = .ok (.if_icmp .ge 14, 3) := by decide +kernel
theorem dX3_announce_10 : decode cX3_announce 10 = .ok (.aload_n 0, 1) := by decide +kernel
theorem dX3_announce_11 : decode cX3_announce 11 = .ok (.iload_n 1, 1) := by decide +kernel
theorem dX3_announce_12 : decode cX3_announce 12 = .ok (.invokevirtual 105, 3) := by decide +kernel
theorem dX3_announce_15 : decode cX3_announce 15 = .ok (.iinc 1 1, 3) := by decide +kernel
theorem dX3_announce_18 : decode cX3_announce 18 = .ok (.goto (-16), 3) := by decide +kernel
theorem dX3_announce_21 : decode cX3_announce 21 = .ok (.iconst 0, 1) := by decide +kernel
theorem dX3_announce_22 : decode cX3_announce 22 = .ok (.istore_n 1, 1) := by decide +kernel
theorem dX3_announce_23 : decode cX3_announce 23 = .ok (.iload_n 1, 1) := by decide +kernel
theorem dX3_announce_24 : decode cX3_announce 24 = .ok (.aload_n 0, 1) := by decide +kernel
theorem dX3_announce_25 : decode cX3_announce 25 = .ok (.getfield 72, 3) := by decide +kernel
theorem dX3_announce_28 : decode cX3_announce 28 = .ok (.if_icmp .ge 69, 3) := by decide +kernel
theorem dX3_announce_31 : decode cX3_announce 31 = .ok (.aload_n 0, 1) := by decide +kernel
theorem dX3_announce_32 : decode cX3_announce 32 = .ok (.getfield 39, 3) := by decide +kernel
theorem dX3_announce_35 : decode cX3_announce 35 = .ok (.iload_n 1, 1) := by decide +kernel
theorem dX3_announce_36 : decode cX3_announce 36 = .ok (.aload_n 0, 1) := by decide +kernel
theorem dX3_announce_37 : decode cX3_announce 37 = .ok (.getfield 54, 3) := by decide +kernel
theorem dX3_announce_40 : decode cX3_announce 40 = .ok (.iload_n 1, 1) := by decide +kernel
theorem dX3_announce_41 : decode cX3_announce 41 = .ok (.iaload, 1) := by decide +kernel
theorem dX3_announce_42 : decode cX3_announce 42 = .ok (.iastore, 1) := by decide +kernel
theorem dX3_announce_43 : decode cX3_announce 43 = .ok (.aload_n 0, 1) := by decide +kernel
theorem dX3_announce_44 : decode cX3_announce 44 = .ok (.getfield 42, 3) := by decide +kernel
theorem dX3_announce_47 : decode cX3_announce 47 = .ok (.iload_n 1, 1) := by decide +kernel
theorem dX3_announce_48 : decode cX3_announce 48 = .ok (.aload_n 0, 1) := by decide +kernel
theorem dX3_announce_49 : decode cX3_announce 49 = .ok (.getfield 57, 3) := by decide +kernel
theorem dX3_announce_52 : decode cX3_announce 52 = .ok (.iload_n 1, 1) := by decide +kernel
theorem dX3_announce_53 : decode cX3_announce 53 = .ok (.iaload, 1) := by decide +kernel
theorem dX3_announce_54 : decode cX3_announce 54 = .ok (.iastore, 1) := by decide +kernel
theorem dX3_announce_55 : decode cX3_announce 55 = .ok (.aload_n 0, 1) := by decide +kernel
theorem dX3_announce_56 : decode cX3_announce 56 = .ok (.getfield 45, 3) := by decide +kernel
theorem dX3_announce_59 : decode cX3_announce 59 = .ok (.iload_n 1, 1) := by decide +kernel
theorem dX3_announce_60 : decode cX3_announce 60 = .ok (.aload_n 0, 1) := by decide +kernel
theorem dX3_announce_61 : decode cX3_announce 61 = .ok (.getfield 60, 3) := by decide +kernel
theorem dX3_announce_64 : decode cX3_announce 64 = .ok (.iload_n 1, 1) := by decide +kernel
theorem dX3_announce_65 : decode cX3_announce 65 = .ok (.iaload, 1) := by decide +kernel
theorem dX3_announce_66 : decode cX3_announce 66 = .ok (.iastore, 1) := by decide +kernel
theorem dX3_announce_67 : decode cX3_announce 67 = .ok (.aload_n 0, 1) := by decide +kernel
theorem dX3_announce_68 : decode cX3_announce 68 = .ok (.getfield 48, 3) := by decide +kernel
theorem dX3_announce_71 : decode cX3_announce 71 = .ok (.iload_n 1, 1) := by decide +kernel
theorem dX3_announce_72 : decode cX3_announce 72 = .ok (.aload_n 0, 1) := by decide +kernel
theorem dX3_announce_73 : decode cX3_announce 73 = .ok (.getfield 63, 3) := by decide +kernel
theorem dX3_announce_76 : decode cX3_announce 76 = .ok (.iload_n 1, 1) := by decide +kernel
theorem dX3_announce_77 : decode cX3_announce 77 = .ok (.iaload, 1) := by decide +kernel
theorem dX3_announce_78 : decode cX3_announce 78 = .ok (.iastore, 1) := by decide +kernel
theorem dX3_announce_79 : decode cX3_announce 79 = .ok (.aload_n 0, 1) := by decide +kernel
theorem dX3_announce_80 : decode cX3_announce 80 = .ok (.getfield 51, 3) := by decide +kernel
theorem dX3_announce_83 : decode cX3_announce 83 = .ok (.iload_n 1, 1) := by decide +kernel
theorem dX3_announce_84 : decode cX3_announce 84 = .ok (.aload_n 0, 1) := by decide +kernel
theorem dX3_announce_85 : decode cX3_announce 85 = .ok (.getfield 66, 3) := by decide +kernel
theorem dX3_announce_88 : decode cX3_announce 88 = .ok (.iload_n 1, 1) := by decide +kernel
theorem dX3_announce_89 : decode cX3_announce 89 = .ok (.iaload, 1) := by decide +kernel
theorem dX3_announce_90 : decode cX3_announce 90 = .ok (.iastore, 1) := by decide +kernel
theorem dX3_announce_91 : decode cX3_announce 91 = .ok (.iinc 1 1, 3) := by decide +kernel
theorem dX3_announce_94 : decode cX3_announce 94 = .ok (.goto (-71), 3) := by decide +kernel
theorem dX3_announce_97 : decode cX3_announce 97 = .ok (.return_, 1) := by decide +kernel
theorem dX3_steer_0 : decode cX3_steer 0 = .ok (.aload_n 0, 1) := by decide +kernel
theorem dX3_steer_1 : decode cX3_steer 1 = .ok (.getfield 51, 3) := by decide +kernel
theorem dX3_steer_4 : decode cX3_steer 4 = .ok (.iload_n 1, 1) := by decide +kernel
theorem dX3_steer_5 : decode cX3_steer 5 = .ok (.iaload, 1) := by decide +kernel
theorem dX3_steer_6 : decode cX3_steer 6 = .ok (.istore_n 2, 1) := by decide +kernel
theorem dX3_steer_7 : decode cX3_steer 7 = .ok (.bipush 10, 2) := by decide +kernel
theorem dX3_steer_9 : decode cX3_steer 9 = .ok (.iload_n 2, 1) := by decide +kernel
theorem dX3_steer_10 : decode cX3_steer 10 = .ok (.imul, 1) := by decide +kernel
theorem dX3_steer_11 : decode cX3_steer 11 = .ok (.iload_n 1, 1) := by decide +kernel
theorem dX3_steer_12 : decode cX3_steer 12 = .ok (.iadd, 1) := by decide +kernel
theorem dX3_steer_13 : decode cX3_steer 13 = .ok (.istore_n 3, 1) := by decide +kernel
theorem dX3_steer_14 : decode cX3_steer 14 = .ok (.bipush 10, 2) := by decide +kernel
theorem dX3_steer_16 : decode cX3_steer 16 = .ok (.iload_n 1, 1) := by decide +kernel
theorem dX3_steer_17 : decode cX3_steer 17 = .ok (.imul, 1) := by decide +kernel
theorem dX3_steer_18 : decode cX3_steer 18 = .ok (.iload_n 2, 1) := by decide +kernel
theorem dX3_steer_19 : decode cX3_steer 19 = .ok (.iadd, 1) := by decide +kernel
theorem dX3_steer_20 : decode cX3_steer 20 = .ok (.istore 4, 2) := by decide +kernel
theorem dX3_steer_22 : decode cX3_steer 22 = .ok (.aload_n 0, 1) := by decide +kernel
theorem dX3_steer_23 : decode cX3_steer 23 = .ok (.getfield 33, 3) := by decide +kernel
theorem dX3_steer_26 : decode cX3_steer 26 = .ok (.iload_n 3, 1) := by decide +kernel
theorem dX3_steer_27 : decode cX3_steer 27 = .ok (.iaload, 1) := by decide +kernel
theorem dX3_steer_28 : decode cX3_steer 28 = .ok (.aload_n 0, 1) := by decide +kernel
theorem dX3_steer_29 : decode cX3_steer 29 = .ok (.getfield 33, 3) := by decide +kernel
theorem dX3_steer_32 : decode cX3_steer 32 = .ok (.iload 4, 2) := by decide +kernel
theorem dX3_steer_34 : decode cX3_steer 34 = .ok (.iaload, 1) := by decide +kernel
theorem dX3_steer_35 : decode cX3_steer 35 = .ok (.isub, 1) := by decide +kernel
theorem dX3_steer_36 : decode cX3_steer 36 = .ok (.aload_n 0, 1) := by decide +kernel
theorem dX3_steer_37 : decode cX3_steer 37 = .ok (.getfield 36, 3) := by decide +kernel
theorem dX3_steer_40 : decode cX3_steer 40 = .ok (.iload_n 3, 1) := by decide +kernel
theorem dX3_steer_41 : decode cX3_steer 41 = .ok (.iaload, 1) := by decide +kernel
theorem dX3_steer_42 : decode cX3_steer 42 = .ok (.isub, 1) := by decide +kernel
theorem dX3_steer_43 : decode cX3_steer 43 = .ok (.iconst 2, 1) := by decide +kernel
theorem dX3_steer_44 : decode cX3_steer 44 = .ok (.idiv, 1) := by decide +kernel
theorem dX3_steer_45 : decode cX3_steer 45 = .ok (.istore 5, 2) := by decide +kernel
theorem dX3_steer_47 : decode cX3_steer 47 = .ok (.aload_n 0, 1) := by decide +kernel
theorem dX3_steer_48 : decode cX3_steer 48 = .ok (.getfield 22, 3) := by decide +kernel
theorem dX3_steer_51 : decode cX3_steer 51 = .ok (.iload_n 1, 1) := by decide +kernel
theorem dX3_steer_52 : decode cX3_steer 52 = .ok (.laload, 1) := by decide +kernel
theorem dX3_steer_53 : decode cX3_steer 53 = .ok (.aload_n 0, 1) := by decide +kernel
theorem dX3_steer_54 : decode cX3_steer 54 = .ok (.getfield 22, 3) := by decide +kernel
theorem dX3_steer_57 : decode cX3_steer 57 = .ok (.iload_n 2, 1) := by decide +kernel
theorem dX3_steer_58 : decode cX3_steer 58 = .ok (.laload, 1) := by decide +kernel
theorem dX3_steer_59 : decode cX3_steer 59 = .ok (.lsub, 1) := by decide +kernel
theorem dX3_steer_60 : decode cX3_steer 60 = .ok (.iload 5, 2) := by decide +kernel
theorem dX3_steer_62 : decode cX3_steer 62 = .ok (.i2l, 1) := by decide +kernel
theorem dX3_steer_63 : decode cX3_steer 63 = .ok (.ladd, 1) := by decide +kernel
theorem dX3_steer_64 : decode cX3_steer 64 = .ok (.lstore 6, 2) := by decide +kernel
theorem dX3_steer_66 : decode cX3_steer 66 = .ok (.aload_n 0, 1) := by decide +kernel
theorem dX3_steer_67 : decode cX3_steer 67 = .ok (.getfield 22, 3) := by decide +kernel
theorem dX3_steer_70 : decode cX3_steer 70 = .ok (.iload_n 1, 1) := by decide +kernel
theorem dX3_steer_71 : decode cX3_steer 71 = .ok (.dup2, 1) := by decide +kernel
theorem dX3_steer_72 : decode cX3_steer 72 = .ok (.laload, 1) := by decide +kernel
theorem dX3_steer_73 : decode cX3_steer 73 = .ok (.lload 6, 2) := by decide +kernel
theorem dX3_steer_75 : decode cX3_steer 75 = .ok (.ldc2_w 108, 3) := by decide +kernel
theorem dX3_steer_78 : decode cX3_steer 78 = .ok (.ldiv, 1) := by decide +kernel
theorem dX3_steer_79 : decode cX3_steer 79 = .ok (.lsub, 1) := by decide +kernel
theorem dX3_steer_80 : decode cX3_steer 80 = .ok (.lastore, 1) := by decide +kernel
theorem dX3_steer_81 : decode cX3_steer 81 = .ok (.aload_n 0, 1) := by decide +kernel
theorem dX3_steer_82 : decode cX3_steer 82 = .ok (.getfield 26, 3) := by decide +kernel
theorem dX3_steer_85 : decode cX3_steer 85 = .ok (.iload_n 1, 1) := by decide +kernel
theorem dX3_steer_86 : decode cX3_steer 86 = .ok (.dup2, 1) := by decide +kernel
theorem dX3_steer_87 : decode cX3_steer 87 = .ok (.laload, 1) := by decide +kernel
theorem dX3_steer_88 : decode cX3_steer 88 = .ok (.lload 6, 2) := by decide +kernel
theorem dX3_steer_90 : decode cX3_steer 90 = .ok (.ldc2_w 110, 3) := by decide +kernel
theorem dX3_steer_93 : decode cX3_steer 93 = .ok (.ldiv, 1) := by decide +kernel
theorem dX3_steer_94 : decode cX3_steer 94 = .ok (.lsub, 1) := by decide +kernel
theorem dX3_steer_95 : decode cX3_steer 95 = .ok (.lastore, 1) := by decide +kernel
theorem dX3_steer_96 : decode cX3_steer 96 = .ok (.return_, 1) := by decide +kernel
set_option maxRecDepth 20000 in
theorem ggX3_tick_X3_in : GoodIn wsX3_tick wsX3_in := goodIn_sub (List.forall_mem_cons.mpr ⟨wk_wsX3_tick_0_11, (fun _ h => absurd h List.not_mem_nil)⟩) (by decide +kernel)
set_option maxRecDepth 20000 in
theorem gX3_tick_X3_in : GoodIn wsX3_tick (va_wsS RX3 79 yX3_in wsX3_in) := goodIn_app (goodIn_sub (List.forall_mem_cons.mpr ⟨wk_wsX3_tick_0_8, List.forall_mem_cons.mpr ⟨wk_wsX3_tick_0_9, List.forall_mem_cons.mpr ⟨wk_wsX3_tick_0_10, fun _ h => absurd h List.not_mem_nil⟩⟩⟩) (by decide +kernel)) ggX3_tick_X3_in
set_option maxRecDepth 20000 in
theorem ggX3_tick_X3_announce : GoodIn wsX3_tick wsX3_announce := goodIn_sub (List.forall_mem_cons.mpr ⟨wk_wsX3_tick_0_15, (fun w h => (List.mem_append.mp h).elim ((fun w h => (List.mem_append.mp h).elim (wsX3_announce_r1_of_wsX3_tick w) (wsX3_announce_r2_of_wsX3_tick w)) w) (lf_wsX3_tick_2 w))⟩) (by decide +kernel)
set_option maxRecDepth 20000 in
theorem gX3_tick_X3_announce : GoodIn wsX3_tick (wsV RX3 112 RX3 yX3_announce wsX3_announce) := goodIn_app (goodIn_sub (List.forall_mem_cons.mpr ⟨wk_wsX3_tick_0_12, List.forall_mem_cons.mpr ⟨wk_wsX3_tick_0_13, List.forall_mem_cons.mpr ⟨wk_wsX3_tick_0_14, List.forall_mem_cons.mpr ⟨wk_wsX3_tick_0_10, fun _ h => absurd h List.not_mem_nil⟩⟩⟩⟩) (by decide +kernel)) ggX3_tick_X3_announce
set_option maxRecDepth 20000 in
theorem ggX3_tick_X3_steer : GoodIn wsX3_tick wsX3_steer := goodIn_sub (List.forall_mem_cons.mpr ⟨wk_wsX3_tick_1_19, (fun w h => (List.mem_append.mp h).elim ((List.forall_mem_cons.mpr ⟨wk_wsX3_tick_0_5, List.forall_mem_cons.mpr ⟨wk_wsX3_tick_1_20, List.forall_mem_cons.mpr ⟨wk_wsX3_tick_1_21, List.forall_mem_cons.mpr ⟨wk_wsX3_tick_0_2, List.forall_mem_cons.mpr ⟨wk_wsX3_tick_1_22, List.forall_mem_cons.mpr ⟨wk_wsX3_tick_0_4, List.forall_mem_cons.mpr ⟨wk_wsX3_tick_1_23, fun _ h => absurd h List.not_mem_nil⟩⟩⟩⟩⟩⟩⟩) w) (lf_wsX3_tick_2 w))⟩) (by decide +kernel)
set_option maxRecDepth 20000 in
theorem gX3_tick_X3_steer : GoodIn wsX3_tick (wsV RX3 115 RX3 yX3_steer wsX3_steer) := goodIn_app (goodIn_sub (List.forall_mem_cons.mpr ⟨wk_wsX3_tick_1_16, List.forall_mem_cons.mpr ⟨wk_wsX3_tick_1_17, List.forall_mem_cons.mpr ⟨wk_wsX3_tick_1_18, List.forall_mem_cons.mpr ⟨wk_wsX3_tick_0_10, fun _ h => absurd h List.not_mem_nil⟩⟩⟩⟩) (by decide +kernel)) ggX3_tick_X3_steer
theorem dX3_tick_0 : decode cX3_tick 0 = .ok (.aload_n 0, 1) := by decide +kernel
theorem dX3_tick_1 : decode cX3_tick 1 = .ok (.iload_n 1, 1) := by decide +kernel
theorem dX3_tick_2 : decode cX3_tick 2 = .ok (.iconst 1, 1) := by decide +kernel
theorem dX3_tick_3 : decode cX3_tick 3 = .ok (.bipush 50, 2) := by decide +kernel
theorem dX3_tick_5 : decode cX3_tick 5 = .ok (.invokestatic 79, 3) := by decide +kernel
theorem dX3_tick_8 : decode cX3_tick 8 = .ok (.ifCond .eq 7, 3) := by decide +kernel
theorem dX3_tick_11 : decode cX3_tick 11 = .ok (.iconst 0, 1) := by decide +kernel
theorem dX3_tick_12 : decode cX3_tick 12 = .ok (.goto 4, 3) := by decide +kernel
theorem dX3_tick_15 : decode cX3_tick 15 = .ok (.iconst 1, 1) := by decide +kernel
theorem dX3_tick_16 : decode cX3_tick 16 = .ok (.putfield 76, 3) := by decide +kernel
theorem dX3_tick_19 : decode cX3_tick 19 = .ok (.iconst 0, 1) := by decide +kernel
theorem dX3_tick_20 : decode cX3_tick 20 = .ok (.istore_n 2, 1) := by decide +kernel
theorem dX3_tick_21 : decode cX3_tick 21 = .ok (.iload_n 2, 1) := by decide +kernel
theorem dX3_tick_22 : decode cX3_tick 22 = .ok (.iload_n 1, 1) := by decide +kernel
theorem dX3_tick_23 : decode cX3_tick 23 = .ok (.if_icmp .ge 129, 3) := by decide +kernel
theorem dX3_tick_26 : decode cX3_tick 26 = .ok (.aload_n 0, 1) := by decide +kernel
theorem dX3_tick_27 : decode cX3_tick 27 = .ok (.getfield 76, 3) := by decide +kernel
theorem dX3_tick_30 : decode cX3_tick 30 = .ok (.ifCond .ne 122, 3) := by decide +kernel
theorem dX3_tick_33 : decode cX3_tick 33 = .ok (.iconst 0, 1) := by decide +kernel
theorem dX3_tick_34 : decode cX3_tick 34 = .ok (.istore_n 3, 1) := by decide +kernel
theorem dX3_tick_35 : decode cX3_tick 35 = .ok (.iload_n 3, 1) := by decide +kernel
theorem dX3_tick_36 : decode cX3_tick 36 = .ok (.aload_n 0, 1) := by decide +kernel
theorem dX3_tick_37 : decode cX3_tick 37 = .ok (.getfield 72, 3) := by decide +kernel
theorem dX3_tick_40 : decode cX3_tick 40 = .ok (.if_icmp .ge 32, 3) := by decide +kernel
theorem dX3_tick_43 : decode cX3_tick 43 = .ok (.aload_n 0, 1) := by decide +kernel
theorem dX3_tick_44 : decode cX3_tick 44 = .ok (.getfield 22, 3) := by decide +kernel
theorem dX3_tick_47 : decode cX3_tick 47 = .ok (.iload_n 3, 1) := by decide +kernel
theorem dX3_tick_48 : decode cX3_tick 48 = .ok (.dup2, 1) := by decide +kernel
theorem dX3_tick_49 : decode cX3_tick 49 = .ok (.laload, 1) := by decide +kernel
theorem dX3_tick_50 : decode cX3_tick 50 = .ok (.aload_n 0, 1) := by decide +kernel
theorem dX3_tick_51 : decode cX3_tick 51 = .ok (.getfield 19, 3) := by decide +kernel
theorem dX3_tick_54 : decode cX3_tick 54 = .ok (.iload_n 3, 1) := by decide +kernel
theorem dX3_tick_55 : decode cX3_tick 55 = .ok (.iaload, 1) := by decide +kernel
theorem dX3_tick_56 : decode cX3_tick 56 = .ok (.i2l, 1) := by decide +kernel
theorem dX3_tick_57 : decode cX3_tick 57 = .ok (.aload_n 0, 1) := by decide +kernel
theorem dX3_tick_58 : decode cX3_tick 58 = .ok (.getfield 26, 3) := by decide +kernel
theorem dX3_tick_61 : decode cX3_tick 61 = .ok (.iload_n 3, 1) := by decide +kernel
theorem dX3_tick_62 : decode cX3_tick 62 = .ok (.laload, 1) := by decide +kernel
theorem dX3_tick_63 : decode cX3_tick 63 = .ok (.ladd, 1) := by decide +kernel
theorem dX3_tick_64 : decode cX3_tick 64 = .ok (.ladd, 1) := by decide +kernel
theorem dX3_tick_65 : decode cX3_tick 65 = .ok (.lastore, 1) := by decide +kernel
theorem dX3_tick_66 : decode cX3_tick 66 = .ok (.iinc 3 1, 3) := by decide +kernel
theorem dX3_tick_69 : decode cX3_tick 69 = .ok (.goto (-34), 3) := by decide +kernel
theorem dX3_tick_72 : decode cX3_tick 72 = .ok (.aload_n 0, 1) := by decide +kernel
theorem dX3_tick_73 : decode cX3_tick 73 = .ok (.invokevirtual 112, 3) := by decide +kernel
theorem dX3_tick_76 : decode cX3_tick 76 = .ok (.iconst 1, 1) := by decide +kernel
theorem dX3_tick_77 : decode cX3_tick 77 = .ok (.istore_n 3, 1) := by decide +kernel
theorem dX3_tick_78 : decode cX3_tick 78 = .ok (.iload_n 3, 1) := by decide +kernel
theorem dX3_tick_79 : decode cX3_tick 79 = .ok (.bipush 9, 2) := by decide +kernel
theorem dX3_tick_81 : decode cX3_tick 81 = .ok (.if_icmp .gt 55, 3) := by decide +kernel
theorem dX3_tick_84 : decode cX3_tick 84 = .ok (.iconst 0, 1) := by decide +kernel
theorem dX3_tick_85 : decode cX3_tick 85 = .ok (.istore 4, 2) := by decide +kernel
theorem dX3_tick_87 : decode cX3_tick 87 = .ok (.iload 4, 2) := by decide +kernel
theorem dX3_tick_89 : decode cX3_tick 89 = .ok (.aload_n 0, 1) := by decide +kernel
theorem dX3_tick_90 : decode cX3_tick 90 = .ok (.getfield 72, 3) := by decide +kernel
theorem dX3_tick_93 : decode cX3_tick 93 = .ok (.if_icmp .ge 37, 3) := by decide +kernel
theorem dX3_tick_96 : decode cX3_tick 96 = .ok (.aload_n 0, 1) := by decide +kernel
theorem dX3_tick_97 : decode cX3_tick 97 = .ok (.getfield 51, 3) := by decide +kernel
theorem dX3_tick_100 : decode cX3_tick 100 = .ok (.iload 4, 2) := by decide +kernel
theorem dX3_tick_102 : decode cX3_tick 102 = .ok (.iaload, 1) := by decide +kernel
theorem dX3_tick_103 : decode cX3_tick 103 = .ok (.iconst (-1), 1) := by decide +kernel
theorem dX3_tick_104 : decode cX3_tick 104 = .ok (.if_icmp .eq 20, 3) := by decide +kernel
theorem dX3_tick_107 : decode cX3_tick 107 = .ok (.aload_n 0, 1) := by decide +kernel
theorem dX3_tick_108 : decode cX3_tick 108 = .ok (.getfield 48, 3) := by decide +kernel
theorem dX3_tick_111 : decode cX3_tick 111 = .ok (.iload 4, 2) := by decide +kernel
theorem dX3_tick_113 : decode cX3_tick 113 = .ok (.iaload, 1) := by decide +kernel
theorem dX3_tick_114 : decode cX3_tick 114 = .ok (.iload_n 3, 1) := by decide +kernel
theorem dX3_tick_115 : decode cX3_tick 115 = .ok (.if_icmp .ne 9, 3) := by decide +kernel
theorem dX3_tick_118 : decode cX3_tick 118 = .ok (.aload_n 0, 1) := by decide +kernel
theorem dX3_tick_119 : decode cX3_tick 119 = .ok (.iload 4, 2) := by decide +kernel
theorem dX3_tick_121 : decode cX3_tick 121 = .ok (.invokevirtual 115, 3) := by decide +kernel
theorem dX3_tick_124 : decode cX3_tick 124 = .ok (.iinc 4 1, 3) := by decide +kernel
theorem dX3_tick_127 : decode cX3_tick 127 = .ok (.goto (-40), 3) := by decide +kernel
theorem dX3_tick_130 : decode cX3_tick 130 = .ok (.iinc 3 1, 3) := by decide +kernel
theorem dX3_tick_133 : decode cX3_tick 133 = .ok (.goto (-55), 3) := by decide +kernel
theorem dX3_tick_136 : decode cX3_tick 136 = .ok (.aload_n 0, 1) := by decide +kernel
theorem dX3_tick_137 : decode cX3_tick 137 = .ok (.dup, 1) := by decide +kernel
theorem dX3_tick_138 : decode cX3_tick 138 = .ok (.getfield 118, 3) := by decide +kernel
theorem dX3_tick_141 : decode cX3_tick 141 = .ok (.iconst 1, 1) := by decide +kernel
theorem dX3_tick_142 : decode cX3_tick 142 = .ok (.iadd, 1) := by decide +kernel
theorem dX3_tick_143 : decode cX3_tick 143 = .ok (.putfield 118, 3) := by decide +kernel
theorem dX3_tick_146 : decode cX3_tick 146 = .ok (.iinc 2 1, 3) := by decide +kernel
theorem dX3_tick_149 : decode cX3_tick 149 = .ok (.goto (-128), 3) := by decide +kernel
theorem dX3_tick_152 : decode cX3_tick 152 = .ok (.aload_n 0, 1) := by decide +kernel
theorem dX3_tick_153 : decode cX3_tick 153 = .ok (.getfield 76, 3) := by decide +kernel
theorem dX3_tick_156 : decode cX3_tick 156 = .ok (.ifCond .ne 10, 3) := by decide +kernel
theorem dX3_tick_159 : decode cX3_tick 159 = .ok (.aload_n 0, 1) := by decide +kernel
theorem dX3_tick_160 : decode cX3_tick 160 = .ok (.getfield 118, 3) := by decide +kernel
theorem dX3_tick_163 : decode cX3_tick 163 = .ok (.goto 4, 3) := by decide +kernel
theorem dX3_tick_166 : decode cX3_tick 166 = .ok (.iconst 0, 1) := by decide +kernel
theorem dX3_tick_167 : decode cX3_tick 167 = .ok (.ireturn, 1) := by decide +kernel
theorem dX3_nodes_0 : decode cX3_nodes 0 = .ok (.aload_n 0, 1) := by decide +kernel
theorem dX3_nodes_1 : decode cX3_nodes 1 = .ok (.iconst 0, 1) := by decide +kernel
theorem dX3_nodes_2 : decode cX3_nodes 2 = .ok (.putfield 76, 3) := by decide +kernel
theorem dX3_nodes_5 : decode cX3_nodes 5 = .ok (.aload_n 0, 1) := by decide +kernel
theorem dX3_nodes_6 : decode cX3_nodes 6 = .ok (.getfield 72, 3) := by decide +kernel
theorem dX3_nodes_9 : decode cX3_nodes 9 = .ok (.ireturn, 1) := by decide +kernel
theorem dX3_links_0 : decode cX3_links 0 = .ok (.aload_n 0, 1) := by decide +kernel
theorem dX3_links_1 : decode cX3_links 1 = .ok (.iconst 0, 1) := by decide +kernel
theorem dX3_links_2 : decode cX3_links 2 = .ok (.putfield 76, 3) := by decide +kernel
theorem dX3_links_5 : decode cX3_links 5 = .ok (.aload_n 0, 1) := by decide +kernel
theorem dX3_links_6 : decode cX3_links 6 = .ok (.getfield 94, 3) := by decide +kernel
theorem dX3_links_9 : decode cX3_links 9 = .ok (.ireturn, 1) := by decide +kernel
set_option maxRecDepth 20000 in
theorem ggX3_asksFor_X3_isNode : GoodIn wsX3_asksFor wsX3_isNode := goodIn_sub (List.forall_mem_cons.mpr ⟨wk_wsX3_asksFor_0_5, (fun w h => (List.mem_append.mp h).elim ((List.forall_mem_cons.mpr ⟨wk_wsX3_asksFor_0_6, List.forall_mem_cons.mpr ⟨wk_wsX3_asksFor_0_7, List.forall_mem_cons.mpr ⟨wk_wsX3_asksFor_0_8, List.forall_mem_cons.mpr ⟨wk_wsX3_asksFor_0_4, List.forall_mem_cons.mpr ⟨wk_wsX3_asksFor_0_9, fun _ h => absurd h List.not_mem_nil⟩⟩⟩⟩⟩) w) (lf_wsX3_asksFor_1 w))⟩) (by decide +kernel)
set_option maxRecDepth 20000 in
theorem gX3_asksFor_X3_isNode : GoodIn wsX3_asksFor (wsV RX3 87 RX3 yX3_isNode wsX3_isNode) := goodIn_app (goodIn_sub (List.forall_mem_cons.mpr ⟨wk_wsX3_asksFor_0_1, List.forall_mem_cons.mpr ⟨wk_wsX3_asksFor_0_2, List.forall_mem_cons.mpr ⟨wk_wsX3_asksFor_0_3, List.forall_mem_cons.mpr ⟨wk_wsX3_asksFor_0_4, fun _ h => absurd h List.not_mem_nil⟩⟩⟩⟩) (by decide +kernel)) ggX3_asksFor_X3_isNode
theorem dX3_asksFor_0 : decode cX3_asksFor 0 = .ok (.aload_n 0, 1) := by decide +kernel
theorem dX3_asksFor_1 : decode cX3_asksFor 1 = .ok (.aload_n 0, 1) := by decide +kernel
theorem dX3_asksFor_2 : decode cX3_asksFor 2 = .ok (.iload_n 1, 1) := by decide +kernel
theorem dX3_asksFor_3 : decode cX3_asksFor 3 = .ok (.invokevirtual 87, 3) := by decide +kernel
theorem dX3_asksFor_6 : decode cX3_asksFor 6 = .ok (.ifCond .eq 7, 3) := by decide +kernel
theorem dX3_asksFor_9 : decode cX3_asksFor 9 = .ok (.iconst 0, 1) := by decide +kernel
theorem dX3_asksFor_10 : decode cX3_asksFor 10 = .ok (.goto 4, 3) := by decide +kernel
theorem dX3_asksFor_13 : decode cX3_asksFor 13 = .ok (.iconst 1, 1) := by decide +kernel
theorem dX3_asksFor_14 : decode cX3_asksFor 14 = .ok (.putfield 76, 3) := by decide +kernel
theorem dX3_asksFor_17 : decode cX3_asksFor 17 = .ok (.aload_n 0, 1) := by decide +kernel
theorem dX3_asksFor_18 : decode cX3_asksFor 18 = .ok (.getfield 76, 3) := by decide +kernel
theorem dX3_asksFor_21 : decode cX3_asksFor 21 = .ok (.ifCond .ne 7, 3) := by decide +kernel
theorem dX3_asksFor_24 : decode cX3_asksFor 24 = .ok (.iconst 1, 1) := by decide +kernel
theorem dX3_asksFor_25 : decode cX3_asksFor 25 = .ok (.goto 4, 3) := by decide +kernel
theorem dX3_asksFor_28 : decode cX3_asksFor 28 = .ok (.iconst 0, 1) := by decide +kernel
theorem dX3_asksFor_29 : decode cX3_asksFor 29 = .ok (.ireturn, 1) := by decide +kernel
set_option maxRecDepth 20000 in
theorem ggX3_best_X3_asksFor : GoodIn wsX3_best wsX3_asksFor := goodIn_sub (List.forall_mem_cons.mpr ⟨wk_wsX3_best_0_5, (fun w h => (List.mem_append.mp h).elim ((List.forall_mem_cons.mpr ⟨wk_wsX3_best_0_6, List.forall_mem_cons.mpr ⟨wk_wsX3_best_0_7, List.forall_mem_cons.mpr ⟨wk_wsX3_best_0_8, List.forall_mem_cons.mpr ⟨wk_wsX3_best_0_9, List.forall_mem_cons.mpr ⟨wk_wsX3_best_0_4, List.forall_mem_cons.mpr ⟨wk_wsX3_best_0_10, List.forall_mem_cons.mpr ⟨wk_wsX3_best_0_11, List.forall_mem_cons.mpr ⟨wk_wsX3_best_0_12, List.forall_mem_cons.mpr ⟨wk_wsX3_best_0_13, List.forall_mem_cons.mpr ⟨wk_wsX3_best_0_14, fun _ h => absurd h List.not_mem_nil⟩⟩⟩⟩⟩⟩⟩⟩⟩⟩) w) (lf_wsX3_best_1 w))⟩) (by decide +kernel)
set_option maxRecDepth 20000 in
theorem gX3_best_X3_asksFor : GoodIn wsX3_best (wsV RX3 121 RX3 yX3_asksFor wsX3_asksFor) := goodIn_app (goodIn_sub (List.forall_mem_cons.mpr ⟨wk_wsX3_best_0_1, List.forall_mem_cons.mpr ⟨wk_wsX3_best_0_2, List.forall_mem_cons.mpr ⟨wk_wsX3_best_0_3, List.forall_mem_cons.mpr ⟨wk_wsX3_best_0_4, fun _ h => absurd h List.not_mem_nil⟩⟩⟩⟩) (by decide +kernel)) ggX3_best_X3_asksFor
theorem dX3_best_0 : decode cX3_best 0 = .ok (.aload_n 0, 1) := by decide +kernel
theorem dX3_best_1 : decode cX3_best 1 = .ok (.iload_n 1, 1) := by decide +kernel
theorem dX3_best_2 : decode cX3_best 2 = .ok (.invokevirtual 121, 3) := by decide +kernel
theorem dX3_best_5 : decode cX3_best 5 = .ok (.ifCond .eq 12, 3) := by decide +kernel
theorem dX3_best_8 : decode cX3_best 8 = .ok (.aload_n 0, 1) := by decide +kernel
theorem dX3_best_9 : decode cX3_best 9 = .ok (.getfield 39, 3) := by decide +kernel
theorem dX3_best_12 : decode cX3_best 12 = .ok (.iload_n 1, 1) := by decide +kernel
theorem dX3_best_13 : decode cX3_best 13 = .ok (.iaload, 1) := by decide +kernel
theorem dX3_best_14 : decode cX3_best 14 = .ok (.goto 4, 3) := by decide +kernel
theorem dX3_best_17 : decode cX3_best 17 = .ok (.iconst 0, 1) := by decide +kernel
theorem dX3_best_18 : decode cX3_best 18 = .ok (.ireturn, 1) := by decide +kernel
set_option maxRecDepth 20000 in
theorem ggX3_steps_X3_asksFor : GoodIn wsX3_steps wsX3_asksFor := goodIn_sub (List.forall_mem_cons.mpr ⟨wk_wsX3_steps_0_5, (fun w h => (List.mem_append.mp h).elim ((List.forall_mem_cons.mpr ⟨wk_wsX3_steps_0_6, List.forall_mem_cons.mpr ⟨wk_wsX3_steps_0_7, List.forall_mem_cons.mpr ⟨wk_wsX3_steps_0_8, List.forall_mem_cons.mpr ⟨wk_wsX3_steps_0_9, List.forall_mem_cons.mpr ⟨wk_wsX3_steps_0_4, List.forall_mem_cons.mpr ⟨wk_wsX3_steps_0_10, List.forall_mem_cons.mpr ⟨wk_wsX3_steps_0_11, List.forall_mem_cons.mpr ⟨wk_wsX3_steps_0_12, List.forall_mem_cons.mpr ⟨wk_wsX3_steps_0_13, List.forall_mem_cons.mpr ⟨wk_wsX3_steps_0_14, fun _ h => absurd h List.not_mem_nil⟩⟩⟩⟩⟩⟩⟩⟩⟩⟩) w) (lf_wsX3_steps_1 w))⟩) (by decide +kernel)
set_option maxRecDepth 20000 in
theorem gX3_steps_X3_asksFor : GoodIn wsX3_steps (wsV RX3 121 RX3 yX3_asksFor wsX3_asksFor) := goodIn_app (goodIn_sub (List.forall_mem_cons.mpr ⟨wk_wsX3_steps_0_1, List.forall_mem_cons.mpr ⟨wk_wsX3_steps_0_2, List.forall_mem_cons.mpr ⟨wk_wsX3_steps_0_3, List.forall_mem_cons.mpr ⟨wk_wsX3_steps_0_4, fun _ h => absurd h List.not_mem_nil⟩⟩⟩⟩) (by decide +kernel)) ggX3_steps_X3_asksFor
theorem dX3_steps_0 : decode cX3_steps 0 = .ok (.aload_n 0, 1) := by decide +kernel
theorem dX3_steps_1 : decode cX3_steps 1 = .ok (.iload_n 1, 1) := by decide +kernel
theorem dX3_steps_2 : decode cX3_steps 2 = .ok (.invokevirtual 121, 3) := by decide +kernel
theorem dX3_steps_5 : decode cX3_steps 5 = .ok (.ifCond .eq 12, 3) := by decide +kernel
theorem dX3_steps_8 : decode cX3_steps 8 = .ok (.aload_n 0, 1) := by decide +kernel
theorem dX3_steps_9 : decode cX3_steps 9 = .ok (.getfield 48, 3) := by decide +kernel
theorem dX3_steps_12 : decode cX3_steps 12 = .ok (.iload_n 1, 1) := by decide +kernel
theorem dX3_steps_13 : decode cX3_steps 13 = .ok (.iaload, 1) := by decide +kernel
theorem dX3_steps_14 : decode cX3_steps 14 = .ok (.goto 4, 3) := by decide +kernel
theorem dX3_steps_17 : decode cX3_steps 17 = .ok (.iconst 0, 1) := by decide +kernel
theorem dX3_steps_18 : decode cX3_steps 18 = .ok (.ireturn, 1) := by decide +kernel
set_option maxRecDepth 20000 in
theorem ggX3_parent_X3_asksFor : GoodIn wsX3_parent wsX3_asksFor := goodIn_sub (List.forall_mem_cons.mpr ⟨wk_wsX3_parent_0_5, (fun w h => (List.mem_append.mp h).elim ((List.forall_mem_cons.mpr ⟨wk_wsX3_parent_0_6, List.forall_mem_cons.mpr ⟨wk_wsX3_parent_0_7, List.forall_mem_cons.mpr ⟨wk_wsX3_parent_0_8, List.forall_mem_cons.mpr ⟨wk_wsX3_parent_0_9, List.forall_mem_cons.mpr ⟨wk_wsX3_parent_0_4, List.forall_mem_cons.mpr ⟨wk_wsX3_parent_0_10, List.forall_mem_cons.mpr ⟨wk_wsX3_parent_0_11, List.forall_mem_cons.mpr ⟨wk_wsX3_parent_0_12, List.forall_mem_cons.mpr ⟨wk_wsX3_parent_0_13, List.forall_mem_cons.mpr ⟨wk_wsX3_parent_0_14, fun _ h => absurd h List.not_mem_nil⟩⟩⟩⟩⟩⟩⟩⟩⟩⟩) w) (lf_wsX3_parent_1 w))⟩) (by decide +kernel)
set_option maxRecDepth 20000 in
theorem gX3_parent_X3_asksFor : GoodIn wsX3_parent (wsV RX3 121 RX3 yX3_asksFor wsX3_asksFor) := goodIn_app (goodIn_sub (List.forall_mem_cons.mpr ⟨wk_wsX3_parent_0_1, List.forall_mem_cons.mpr ⟨wk_wsX3_parent_0_2, List.forall_mem_cons.mpr ⟨wk_wsX3_parent_0_3, List.forall_mem_cons.mpr ⟨wk_wsX3_parent_0_4, fun _ h => absurd h List.not_mem_nil⟩⟩⟩⟩) (by decide +kernel)) ggX3_parent_X3_asksFor
theorem dX3_parent_0 : decode cX3_parent 0 = .ok (.aload_n 0, 1) := by decide +kernel
theorem dX3_parent_1 : decode cX3_parent 1 = .ok (.iload_n 1, 1) := by decide +kernel
theorem dX3_parent_2 : decode cX3_parent 2 = .ok (.invokevirtual 121, 3) := by decide +kernel
theorem dX3_parent_5 : decode cX3_parent 5 = .ok (.ifCond .eq 12, 3) := by decide +kernel
theorem dX3_parent_8 : decode cX3_parent 8 = .ok (.aload_n 0, 1) := by decide +kernel
theorem dX3_parent_9 : decode cX3_parent 9 = .ok (.getfield 51, 3) := by decide +kernel
theorem dX3_parent_12 : decode cX3_parent 12 = .ok (.iload_n 1, 1) := by decide +kernel
theorem dX3_parent_13 : decode cX3_parent 13 = .ok (.iaload, 1) := by decide +kernel
theorem dX3_parent_14 : decode cX3_parent 14 = .ok (.goto 4, 3) := by decide +kernel
theorem dX3_parent_17 : decode cX3_parent 17 = .ok (.iconst 0, 1) := by decide +kernel
theorem dX3_parent_18 : decode cX3_parent 18 = .ok (.ireturn, 1) := by decide +kernel
set_option maxRecDepth 20000 in
theorem ggX3_port_X3_isNode : GoodIn wsX3_port wsX3_isNode := goodIn_sub (List.forall_mem_cons.mpr ⟨wk_wsX3_port_0_7, (fun w h => (List.mem_append.mp h).elim ((List.forall_mem_cons.mpr ⟨wk_wsX3_port_0_8, List.forall_mem_cons.mpr ⟨wk_wsX3_port_0_9, List.forall_mem_cons.mpr ⟨wk_wsX3_port_0_10, List.forall_mem_cons.mpr ⟨wk_wsX3_port_0_6, List.forall_mem_cons.mpr ⟨wk_wsX3_port_0_11, fun _ h => absurd h List.not_mem_nil⟩⟩⟩⟩⟩) w) (lf_wsX3_port_1 w))⟩) (by decide +kernel)
set_option maxRecDepth 20000 in
theorem gX3_port_X3_isNode : GoodIn wsX3_port (wsV RX3 87 RX3 yX3_isNode wsX3_isNode) := goodIn_app (goodIn_sub (List.forall_mem_cons.mpr ⟨wk_wsX3_port_0_3, List.forall_mem_cons.mpr ⟨wk_wsX3_port_0_4, List.forall_mem_cons.mpr ⟨wk_wsX3_port_0_5, List.forall_mem_cons.mpr ⟨wk_wsX3_port_0_6, fun _ h => absurd h List.not_mem_nil⟩⟩⟩⟩) (by decide +kernel)) ggX3_port_X3_isNode
set_option maxRecDepth 20000 in
theorem ggX3_port_X3_areNeighbours : GoodIn wsX3_port wsX3_areNeighbours := goodIn_sub (List.forall_mem_cons.mpr ⟨wk_wsX3_port_0_15, (fun w h => (List.mem_append.mp h).elim ((List.forall_mem_cons.mpr ⟨wk_wsX3_port_0_16, List.forall_mem_cons.mpr ⟨wk_wsX3_port_0_17, fun _ h => absurd h List.not_mem_nil⟩⟩) w) (lf_wsX3_port_1 w))⟩) (by decide +kernel)
set_option maxRecDepth 20000 in
theorem gX3_port_X3_areNeighbours : GoodIn wsX3_port (wsV RX3 98 RX3 yX3_areNeighbours wsX3_areNeighbours) := goodIn_app (goodIn_sub (List.forall_mem_cons.mpr ⟨wk_wsX3_port_0_12, List.forall_mem_cons.mpr ⟨wk_wsX3_port_0_13, List.forall_mem_cons.mpr ⟨wk_wsX3_port_0_14, List.forall_mem_cons.mpr ⟨wk_wsX3_port_0_6, fun _ h => absurd h List.not_mem_nil⟩⟩⟩⟩) (by decide +kernel)) ggX3_port_X3_areNeighbours
theorem dX3_port_0 : decode cX3_port 0 = .ok (.aload_n 0, 1) := by decide +kernel
theorem dX3_port_1 : decode cX3_port 1 = .ok (.aload_n 0, 1) := by decide +kernel
theorem dX3_port_2 : decode cX3_port 2 = .ok (.iload_n 1, 1) := by decide +kernel
theorem dX3_port_3 : decode cX3_port 3 = .ok (.invokevirtual 87, 3) := by decide +kernel
theorem dX3_port_6 : decode cX3_port 6 = .ok (.ifCond .eq 15, 3) := by decide +kernel
theorem dX3_port_9 : decode cX3_port 9 = .ok (.aload_n 0, 1) := by decide +kernel
theorem dX3_port_10 : decode cX3_port 10 = .ok (.iload_n 2, 1) := by decide +kernel
theorem dX3_port_11 : decode cX3_port 11 = .ok (.invokevirtual 87, 3) := by decide +kernel
theorem dX3_port_14 : decode cX3_port 14 = .ok (.ifCond .eq 7, 3) := by decide +kernel
theorem dX3_port_17 : decode cX3_port 17 = .ok (.iconst 0, 1) := by decide +kernel
theorem dX3_port_18 : decode cX3_port 18 = .ok (.goto 4, 3) := by decide +kernel
theorem dX3_port_21 : decode cX3_port 21 = .ok (.iconst 1, 1) := by decide +kernel
theorem dX3_port_22 : decode cX3_port 22 = .ok (.putfield 76, 3) := by decide +kernel
theorem dX3_port_25 : decode cX3_port 25 = .ok (.aload_n 0, 1) := by decide +kernel
theorem dX3_port_26 : decode cX3_port 26 = .ok (.getfield 76, 3) := by decide +kernel
theorem dX3_port_29 : decode cX3_port 29 = .ok (.ifCond .gt 12, 3) := by decide +kernel
theorem dX3_port_32 : decode cX3_port 32 = .ok (.aload_n 0, 1) := by decide +kernel
theorem dX3_port_33 : decode cX3_port 33 = .ok (.iload_n 1, 1) := by decide +kernel
theorem dX3_port_34 : decode cX3_port 34 = .ok (.iload_n 2, 1) := by decide +kernel
theorem dX3_port_35 : decode cX3_port 35 = .ok (.invokevirtual 98, 3) := by decide +kernel
theorem dX3_port_38 : decode cX3_port 38 = .ok (.ifCond .ne 5, 3) := by decide +kernel
theorem dX3_port_41 : decode cX3_port 41 = .ok (.iconst 0, 1) := by decide +kernel
theorem dX3_port_42 : decode cX3_port 42 = .ok (.ireturn, 1) := by decide +kernel
theorem dX3_port_43 : decode cX3_port 43 = .ok (.aload_n 0, 1) := by decide +kernel
theorem dX3_port_44 : decode cX3_port 44 = .ok (.getfield 51, 3) := by decide +kernel
theorem dX3_port_47 : decode cX3_port 47 = .ok (.iload_n 1, 1) := by decide +kernel
theorem dX3_port_48 : decode cX3_port 48 = .ok (.iaload, 1) := by decide +kernel
theorem dX3_port_49 : decode cX3_port 49 = .ok (.iload_n 2, 1) := by decide +kernel
theorem dX3_port_50 : decode cX3_port 50 = .ok (.if_icmp .ne 5, 3) := by decide +kernel
theorem dX3_port_53 : decode cX3_port 53 = .ok (.iconst 1, 1) := by decide +kernel
theorem dX3_port_54 : decode cX3_port 54 = .ok (.ireturn, 1) := by decide +kernel
theorem dX3_port_55 : decode cX3_port 55 = .ok (.aload_n 0, 1) := by decide +kernel
theorem dX3_port_56 : decode cX3_port 56 = .ok (.getfield 48, 3) := by decide +kernel
theorem dX3_port_59 : decode cX3_port 59 = .ok (.iload_n 1, 1) := by decide +kernel
theorem dX3_port_60 : decode cX3_port 60 = .ok (.iaload, 1) := by decide +kernel
theorem dX3_port_61 : decode cX3_port 61 = .ok (.aload_n 0, 1) := by decide +kernel
theorem dX3_port_62 : decode cX3_port 62 = .ok (.getfield 48, 3) := by decide +kernel
theorem dX3_port_65 : decode cX3_port 65 = .ok (.iload_n 2, 1) := by decide +kernel
theorem dX3_port_66 : decode cX3_port 66 = .ok (.iaload, 1) := by decide +kernel
theorem dX3_port_67 : decode cX3_port 67 = .ok (.if_icmp .lt 23, 3) := by decide +kernel
theorem dX3_port_70 : decode cX3_port 70 = .ok (.aload_n 0, 1) := by decide +kernel
theorem dX3_port_71 : decode cX3_port 71 = .ok (.getfield 48, 3) := by decide +kernel
theorem dX3_port_74 : decode cX3_port 74 = .ok (.iload_n 1, 1) := by decide +kernel
theorem dX3_port_75 : decode cX3_port 75 = .ok (.iaload, 1) := by decide +kernel
theorem dX3_port_76 : decode cX3_port 76 = .ok (.aload_n 0, 1) := by decide +kernel
theorem dX3_port_77 : decode cX3_port 77 = .ok (.getfield 48, 3) := by decide +kernel
theorem dX3_port_80 : decode cX3_port 80 = .ok (.iload_n 2, 1) := by decide +kernel
theorem dX3_port_81 : decode cX3_port 81 = .ok (.iaload, 1) := by decide +kernel
theorem dX3_port_82 : decode cX3_port 82 = .ok (.if_icmp .ne 12, 3) := by decide +kernel
theorem dX3_port_85 : decode cX3_port 85 = .ok (.iload_n 1, 1) := by decide +kernel
theorem dX3_port_86 : decode cX3_port 86 = .ok (.iload_n 2, 1) := by decide +kernel
theorem dX3_port_87 : decode cX3_port 87 = .ok (.if_icmp .ge 7, 3) := by decide +kernel
theorem dX3_port_90 : decode cX3_port 90 = .ok (.iconst 1, 1) := by decide +kernel
theorem dX3_port_91 : decode cX3_port 91 = .ok (.goto 4, 3) := by decide +kernel
theorem dX3_port_94 : decode cX3_port 94 = .ok (.iconst 0, 1) := by decide +kernel
theorem dX3_port_95 : decode cX3_port 95 = .ok (.istore_n 3, 1) := by decide +kernel
theorem dX3_port_96 : decode cX3_port 96 = .ok (.aload_n 0, 1) := by decide +kernel
theorem dX3_port_97 : decode cX3_port 97 = .ok (.getfield 51, 3) := by decide +kernel
theorem dX3_port_100 : decode cX3_port 100 = .ok (.iload_n 2, 1) := by decide +kernel
theorem dX3_port_101 : decode cX3_port 101 = .ok (.iaload, 1) := by decide +kernel
theorem dX3_port_102 : decode cX3_port 102 = .ok (.iload_n 1, 1) := by decide +kernel
theorem dX3_port_103 : decode cX3_port 103 = .ok (.if_icmp .eq 7, 3) := by decide +kernel
theorem dX3_port_106 : decode cX3_port 106 = .ok (.iload_n 3, 1) := by decide +kernel
theorem dX3_port_107 : decode cX3_port 107 = .ok (.ifCond .eq 7, 3) := by decide +kernel
theorem dX3_port_110 : decode cX3_port 110 = .ok (.iconst 2, 1) := by decide +kernel
theorem dX3_port_111 : decode cX3_port 111 = .ok (.goto 4, 3) := by decide +kernel
theorem dX3_port_114 : decode cX3_port 114 = .ok (.iconst 3, 1) := by decide +kernel
theorem dX3_port_115 : decode cX3_port 115 = .ok (.ireturn, 1) := by decide +kernel
set_option maxRecDepth 20000 in
theorem ggX3_layDistances_X3_areNeighbours : GoodIn wsX3_layDistances wsX3_areNeighbours := goodIn_sub (List.forall_mem_cons.mpr ⟨wk_wsX3_layDistances_0_6, (fun w h => (List.mem_append.mp h).elim ((List.forall_mem_cons.mpr ⟨wk_wsX3_layDistances_0_7, List.forall_mem_cons.mpr ⟨wk_wsX3_layDistances_0_8, fun _ h => absurd h List.not_mem_nil⟩⟩) w) (lf_wsX3_layDistances_1 w))⟩) (by decide +kernel)
set_option maxRecDepth 20000 in
theorem gX3_layDistances_X3_areNeighbours : GoodIn wsX3_layDistances (wsV RX3 98 RX3 yX3_areNeighbours wsX3_areNeighbours) := goodIn_app (goodIn_sub (List.forall_mem_cons.mpr ⟨wk_wsX3_layDistances_0_2, List.forall_mem_cons.mpr ⟨wk_wsX3_layDistances_0_3, List.forall_mem_cons.mpr ⟨wk_wsX3_layDistances_0_4, List.forall_mem_cons.mpr ⟨wk_wsX3_layDistances_0_5, fun _ h => absurd h List.not_mem_nil⟩⟩⟩⟩) (by decide +kernel)) ggX3_layDistances_X3_areNeighbours
theorem dX3_layDistances_0 : decode cX3_layDistances 0 = .ok (.iconst 0, 1) := by decide +kernel
theorem dX3_layDistances_1 : decode cX3_layDistances 1 = .ok (.istore_n 2, 1) := by decide +kernel
theorem dX3_layDistances_2 : decode cX3_layDistances 2 = .ok (.iload_n 2, 1) := by decide +kernel
theorem dX3_layDistances_3 : decode cX3_layDistances 3 = .ok (.aload_n 0, 1) := by decide +kernel
theorem dX3_layDistances_4 : decode cX3_layDistances 4 = .ok (.getfield 72, 3) := by decide +kernel
theorem dX3_layDistances_7 : decode cX3_layDistances 7 = .ok (.if_icmp .ge 25, 3) := by decide +kernel
theorem dX3_layDistances_10 : decode cX3_layDistances 10 = .ok (.aload_n 0, 1) := by decide +kernel
theorem dX3_layDistances_11 : decode cX3_layDistances 11 = .ok (.getfield 69, 3) := by decide +kernel
theorem dX3_layDistances_14 : decode cX3_layDistances 14 = .ok (.iload_n 2, 1) := by decide +kernel
theorem dX3_layDistances_15 : decode cX3_layDistances 15 = .ok (.iload_n 2, 1) := by decide +kernel
theorem dX3_layDistances_16 : decode cX3_layDistances 16 = .ok (.iload_n 1, 1) := by decide +kernel
theorem dX3_layDistances_17 : decode cX3_layDistances 17 = .ok (.if_icmp .ne 7, 3) := by decide +kernel
theorem dX3_layDistances_20 : decode cX3_layDistances 20 = .ok (.iconst 0, 1) := by decide +kernel
theorem dX3_layDistances_21 : decode cX3_layDistances 21 = .ok (.goto 4, 3) := by decide +kernel
theorem dX3_layDistances_24 : decode cX3_layDistances 24 = .ok (.iconst (-1), 1) := by decide +kernel
theorem dX3_layDistances_25 : decode cX3_layDistances 25 = .ok (.iastore, 1) := by decide +kernel
theorem dX3_layDistances_26 : decode cX3_layDistances 26 = .ok (.iinc 2 1, 3) := by decide +kernel
theorem dX3_layDistances_29 : decode cX3_layDistances 29 = .ok (.goto (-27), 3) := by decide +kernel
theorem dX3_layDistances_32 : decode cX3_layDistances 32 = .ok (.iconst 1, 1) := by decide +kernel
theorem dX3_layDistances_33 : decode cX3_layDistances 33 = .ok (.istore_n 2, 1) := by decide +kernel
theorem dX3_layDistances_34 : decode cX3_layDistances 34 = .ok (.iload_n 2, 1) := by decide +kernel
theorem dX3_layDistances_35 : decode cX3_layDistances 35 = .ok (.aload_n 0, 1) := by decide +kernel
theorem dX3_layDistances_36 : decode cX3_layDistances 36 = .ok (.getfield 72, 3) := by decide +kernel
theorem dX3_layDistances_39 : decode cX3_layDistances 39 = .ok (.if_icmp .ge 87, 3) := by decide +kernel
theorem dX3_layDistances_42 : decode cX3_layDistances 42 = .ok (.iconst 0, 1) := by decide +kernel
theorem dX3_layDistances_43 : decode cX3_layDistances 43 = .ok (.istore_n 3, 1) := by decide +kernel
theorem dX3_layDistances_44 : decode cX3_layDistances 44 = .ok (.iload_n 3, 1) := by decide +kernel
theorem dX3_layDistances_45 : decode cX3_layDistances 45 = .ok (.aload_n 0, 1) := by decide +kernel
theorem dX3_layDistances_46 : decode cX3_layDistances 46 = .ok (.getfield 72, 3) := by decide +kernel
theorem dX3_layDistances_49 : decode cX3_layDistances 49 = .ok (.if_icmp .ge 71, 3) := by decide +kernel
theorem dX3_layDistances_52 : decode cX3_layDistances 52 = .ok (.iconst 0, 1) := by decide +kernel
theorem dX3_layDistances_53 : decode cX3_layDistances 53 = .ok (.istore 4, 2) := by decide +kernel
theorem dX3_layDistances_55 : decode cX3_layDistances 55 = .ok (.iload 4, 2) := by decide +kernel
theorem dX3_layDistances_57 : decode cX3_layDistances 57 = .ok (.aload_n 0, 1) := by decide +kernel
theorem dX3_layDistances_58 : decode cX3_layDistances 58 = .ok (.getfield 72, 3) := by decide +kernel
theorem dX3_layDistances_61 : decode cX3_layDistances 61 = .ok (.if_icmp .ge 53, 3) := by decide +kernel
theorem dX3_layDistances_64 : decode cX3_layDistances 64 = .ok (.aload_n 0, 1) := by decide +kernel
theorem dX3_layDistances_65 : decode cX3_layDistances 65 = .ok (.getfield 69, 3) := by decide +kernel
theorem dX3_layDistances_68 : decode cX3_layDistances 68 = .ok (.iload_n 3, 1) := by decide +kernel
theorem dX3_layDistances_69 : decode cX3_layDistances 69 = .ok (.iaload, 1) := by decide +kernel
theorem dX3_layDistances_70 : decode cX3_layDistances 70 = .ok (.iconst (-1), 1) := by decide +kernel
theorem dX3_layDistances_71 : decode cX3_layDistances 71 = .ok (.if_icmp .ne 43, 3) := by decide +kernel
theorem dX3_layDistances_74 : decode cX3_layDistances 74 = .ok (.aload_n 0, 1) := by decide +kernel
theorem dX3_layDistances_75 : decode cX3_layDistances 75 = .ok (.getfield 69, 3) := by decide +kernel
theorem dX3_layDistances_78 : decode cX3_layDistances 78 = .ok (.iload_n 3, 1) := by decide +kernel
theorem dX3_layDistances_79 : decode cX3_layDistances 79 = .ok (.aload_n 0, 1) := by decide +kernel
theorem dX3_layDistances_80 : decode cX3_layDistances 80 = .ok (.getfield 69, 3) := by decide +kernel
theorem dX3_layDistances_83 : decode cX3_layDistances 83 = .ok (.iload 4, 2) := by decide +kernel
theorem dX3_layDistances_85 : decode cX3_layDistances 85 = .ok (.iaload, 1) := by decide +kernel
theorem dX3_layDistances_86 : decode cX3_layDistances 86 = .ok (.iload_n 2, 1) := by decide +kernel
theorem dX3_layDistances_87 : decode cX3_layDistances 87 = .ok (.iconst 1, 1) := by decide +kernel
theorem dX3_layDistances_88 : decode cX3_layDistances 88 = .ok (.isub, 1) := by decide +kernel
theorem dX3_layDistances_89 : decode cX3_layDistances 89 = .ok (.if_icmp .ne 17, 3) := by decide +kernel
theorem dX3_layDistances_92 : decode cX3_layDistances 92 = .ok (.aload_n 0, 1) := by decide +kernel
theorem dX3_layDistances_93 : decode cX3_layDistances 93 = .ok (.iload_n 3, 1) := by decide +kernel
theorem dX3_layDistances_94 : decode cX3_layDistances 94 = .ok (.iload 4, 2) := by decide +kernel
theorem dX3_layDistances_96 : decode cX3_layDistances 96 = .ok (.invokevirtual 98, 3) := by decide +kernel
theorem dX3_layDistances_99 : decode cX3_layDistances 99 = .ok (.ifCond .eq 7, 3) := by decide +kernel
theorem dX3_layDistances_102 : decode cX3_layDistances 102 = .ok (.iload_n 2, 1) := by decide +kernel
theorem dX3_layDistances_103 : decode cX3_layDistances 103 = .ok (.goto 4, 3) := by decide +kernel
theorem dX3_layDistances_106 : decode cX3_layDistances 106 = .ok (.iconst (-1), 1) := by decide +kernel
theorem dX3_layDistances_107 : decode cX3_layDistances 107 = .ok (.iastore, 1) := by decide +kernel
theorem dX3_layDistances_108 : decode cX3_layDistances 108 = .ok (.iinc 4 1, 3) := by decide +kernel
theorem dX3_layDistances_111 : decode cX3_layDistances 111 = .ok (.goto (-56), 3) := by decide +kernel
theorem dX3_layDistances_114 : decode cX3_layDistances 114 = .ok (.iinc 3 1, 3) := by decide +kernel
theorem dX3_layDistances_117 : decode cX3_layDistances 117 = .ok (.goto (-73), 3) := by decide +kernel
theorem dX3_layDistances_120 : decode cX3_layDistances 120 = .ok (.iinc 2 1, 3) := by decide +kernel
theorem dX3_layDistances_123 : decode cX3_layDistances 123 = .ok (.goto (-89), 3) := by decide +kernel
theorem dX3_layDistances_126 : decode cX3_layDistances 126 = .ok (.return_, 1) := by decide +kernel
set_option maxRecDepth 20000 in
theorem ggX3_bestReached_X3_layDistances : GoodIn wsX3_bestReached wsX3_layDistances := goodIn_sub (List.forall_mem_cons.mpr ⟨wk_wsX3_bestReached_0_8, (fun w h => (List.mem_append.mp h).elim ((List.forall_mem_cons.mpr ⟨wk_wsX3_bestReached_0_0, List.forall_mem_cons.mpr ⟨wk_wsX3_bestReached_0_3, List.forall_mem_cons.mpr ⟨wk_wsX3_bestReached_0_9, List.forall_mem_cons.mpr ⟨wk_wsX3_bestReached_0_10, List.forall_mem_cons.mpr ⟨wk_wsX3_bestReached_0_11, List.forall_mem_cons.mpr ⟨wk_wsX3_bestReached_0_7, List.forall_mem_cons.mpr ⟨wk_wsX3_bestReached_0_12, List.forall_mem_cons.mpr ⟨wk_wsX3_bestReached_0_13, List.forall_mem_cons.mpr ⟨wk_wsX3_bestReached_0_14, fun _ h => absurd h List.not_mem_nil⟩⟩⟩⟩⟩⟩⟩⟩⟩) w) (lf_wsX3_bestReached_1 w))⟩) (by decide +kernel)
set_option maxRecDepth 20000 in
theorem gX3_bestReached_X3_layDistances : GoodIn wsX3_bestReached (wsV RX3 124 RX3 yX3_layDistances wsX3_layDistances) := goodIn_app (goodIn_sub (List.forall_mem_cons.mpr ⟨wk_wsX3_bestReached_0_4, List.forall_mem_cons.mpr ⟨wk_wsX3_bestReached_0_5, List.forall_mem_cons.mpr ⟨wk_wsX3_bestReached_0_6, List.forall_mem_cons.mpr ⟨wk_wsX3_bestReached_0_7, fun _ h => absurd h List.not_mem_nil⟩⟩⟩⟩) (by decide +kernel)) ggX3_bestReached_X3_layDistances
theorem dX3_bestReached_0 : decode cX3_bestReached 0 = .ok (.aload_n 0, 1) := by decide +kernel
theorem dX3_bestReached_1 : decode cX3_bestReached 1 = .ok (.iload_n 1, 1) := by decide +kernel
theorem dX3_bestReached_2 : decode cX3_bestReached 2 = .ok (.invokevirtual 124, 3) := by decide +kernel
theorem dX3_bestReached_5 : decode cX3_bestReached 5 = .ok (.iload_n 1, 1) := by decide +kernel
theorem dX3_bestReached_6 : decode cX3_bestReached 6 = .ok (.istore_n 2, 1) := by decide +kernel
theorem dX3_bestReached_7 : decode cX3_bestReached 7 = .ok (.iconst 0, 1) := by decide +kernel
theorem dX3_bestReached_8 : decode cX3_bestReached 8 = .ok (.istore_n 3, 1) := by decide +kernel
theorem dX3_bestReached_9 : decode cX3_bestReached 9 = .ok (.iload_n 3, 1) := by decide +kernel
theorem dX3_bestReached_10 : decode cX3_bestReached 10 = .ok (.aload_n 0, 1) := by decide +kernel
theorem dX3_bestReached_11 : decode cX3_bestReached 11 = .ok (.getfield 72, 3) := by decide +kernel
theorem dX3_bestReached_14 : decode cX3_bestReached 14 = .ok (.if_icmp .ge 92, 3) := by decide +kernel
theorem dX3_bestReached_17 : decode cX3_bestReached 17 = .ok (.aload_n 0, 1) := by decide +kernel
theorem dX3_bestReached_18 : decode cX3_bestReached 18 = .ok (.getfield 13, 3) := by decide +kernel
theorem dX3_bestReached_21 : decode cX3_bestReached 21 = .ok (.iload_n 3, 1) := by decide +kernel
theorem dX3_bestReached_22 : decode cX3_bestReached 22 = .ok (.iaload, 1) := by decide +kernel
theorem dX3_bestReached_23 : decode cX3_bestReached 23 = .ok (.aload_n 0, 1) := by decide +kernel
theorem dX3_bestReached_24 : decode cX3_bestReached 24 = .ok (.getfield 13, 3) := by decide +kernel
theorem dX3_bestReached_27 : decode cX3_bestReached 27 = .ok (.iload_n 2, 1) := by decide +kernel
theorem dX3_bestReached_28 : decode cX3_bestReached 28 = .ok (.iaload, 1) := by decide +kernel
theorem dX3_bestReached_29 : decode cX3_bestReached 29 = .ok (.isub, 1) := by decide +kernel
theorem dX3_bestReached_30 : decode cX3_bestReached 30 = .ok (.istore 4, 2) := by decide +kernel
theorem dX3_bestReached_32 : decode cX3_bestReached 32 = .ok (.aload_n 0, 1) := by decide +kernel
theorem dX3_bestReached_33 : decode cX3_bestReached 33 = .ok (.getfield 16, 3) := by decide +kernel
theorem dX3_bestReached_36 : decode cX3_bestReached 36 = .ok (.iload_n 3, 1) := by decide +kernel
theorem dX3_bestReached_37 : decode cX3_bestReached 37 = .ok (.iaload, 1) := by decide +kernel
theorem dX3_bestReached_38 : decode cX3_bestReached 38 = .ok (.aload_n 0, 1) := by decide +kernel
theorem dX3_bestReached_39 : decode cX3_bestReached 39 = .ok (.getfield 16, 3) := by decide +kernel
theorem dX3_bestReached_42 : decode cX3_bestReached 42 = .ok (.iload_n 2, 1) := by decide +kernel
theorem dX3_bestReached_43 : decode cX3_bestReached 43 = .ok (.iaload, 1) := by decide +kernel
theorem dX3_bestReached_44 : decode cX3_bestReached 44 = .ok (.isub, 1) := by decide +kernel
theorem dX3_bestReached_45 : decode cX3_bestReached 45 = .ok (.istore 5, 2) := by decide +kernel
theorem dX3_bestReached_47 : decode cX3_bestReached 47 = .ok (.iload 4, 2) := by decide +kernel
theorem dX3_bestReached_49 : decode cX3_bestReached 49 = .ok (.ifCond .lt 23, 3) := by decide +kernel
theorem dX3_bestReached_52 : decode cX3_bestReached 52 = .ok (.iload 4, 2) := by decide +kernel
theorem dX3_bestReached_54 : decode cX3_bestReached 54 = .ok (.ifCond .ne 22, 3) := by decide +kernel
theorem dX3_bestReached_57 : decode cX3_bestReached 57 = .ok (.iload 5, 2) := by decide +kernel
theorem dX3_bestReached_59 : decode cX3_bestReached 59 = .ok (.ifCond .lt 13, 3) := by decide +kernel
theorem dX3_bestReached_62 : decode cX3_bestReached 62 = .ok (.iload 5, 2) := by decide +kernel
theorem dX3_bestReached_64 : decode cX3_bestReached 64 = .ok (.ifCond .ne 12, 3) := by decide +kernel
theorem dX3_bestReached_67 : decode cX3_bestReached 67 = .ok (.iload_n 3, 1) := by decide +kernel
theorem dX3_bestReached_68 : decode cX3_bestReached 68 = .ok (.iload_n 2, 1) := by decide +kernel
theorem dX3_bestReached_69 : decode cX3_bestReached 69 = .ok (.if_icmp .ge 7, 3) := by decide +kernel
theorem dX3_bestReached_72 : decode cX3_bestReached 72 = .ok (.iconst 1, 1) := by decide +kernel
theorem dX3_bestReached_73 : decode cX3_bestReached 73 = .ok (.goto 4, 3) := by decide +kernel
theorem dX3_bestReached_76 : decode cX3_bestReached 76 = .ok (.iconst 0, 1) := by decide +kernel
theorem dX3_bestReached_77 : decode cX3_bestReached 77 = .ok (.istore 6, 2) := by decide +kernel
theorem dX3_bestReached_79 : decode cX3_bestReached 79 = .ok (.aload_n 0, 1) := by decide +kernel
theorem dX3_bestReached_80 : decode cX3_bestReached 80 = .ok (.getfield 69, 3) := by decide +kernel
theorem dX3_bestReached_83 : decode cX3_bestReached 83 = .ok (.iload_n 3, 1) := by decide +kernel
theorem dX3_bestReached_84 : decode cX3_bestReached 84 = .ok (.iaload, 1) := by decide +kernel
theorem dX3_bestReached_85 : decode cX3_bestReached 85 = .ok (.iconst (-1), 1) := by decide +kernel
theorem dX3_bestReached_86 : decode cX3_bestReached 86 = .ok (.if_icmp .eq 12, 3) := by decide +kernel
theorem dX3_bestReached_89 : decode cX3_bestReached 89 = .ok (.iload 6, 2) := by decide +kernel
theorem dX3_bestReached_91 : decode cX3_bestReached 91 = .ok (.ifCond .eq 7, 3) := by decide +kernel
theorem dX3_bestReached_94 : decode cX3_bestReached 94 = .ok (.iload_n 3, 1) := by decide +kernel
theorem dX3_bestReached_95 : decode cX3_bestReached 95 = .ok (.goto 4, 3) := by decide +kernel
theorem dX3_bestReached_98 : decode cX3_bestReached 98 = .ok (.iload_n 2, 1) := by decide +kernel
theorem dX3_bestReached_99 : decode cX3_bestReached 99 = .ok (.istore_n 2, 1) := by decide +kernel
theorem dX3_bestReached_100 : decode cX3_bestReached 100 = .ok (.iinc 3 1, 3) := by decide +kernel
theorem dX3_bestReached_103 : decode cX3_bestReached 103 = .ok (.goto (-94), 3) := by decide +kernel
theorem dX3_bestReached_106 : decode cX3_bestReached 106 = .ok (.iload_n 2, 1) := by decide +kernel
theorem dX3_bestReached_107 : decode cX3_bestReached 107 = .ok (.ireturn, 1) := by decide +kernel
set_option maxRecDepth 20000 in
theorem ggX3_bestByGraph_X3_asksFor : GoodIn wsX3_bestByGraph wsX3_asksFor := goodIn_sub (List.forall_mem_cons.mpr ⟨wk_wsX3_bestByGraph_0_4, (fun w h => (List.mem_append.mp h).elim ((List.forall_mem_cons.mpr ⟨wk_wsX3_bestByGraph_0_5, List.forall_mem_cons.mpr ⟨wk_wsX3_bestByGraph_0_6, List.forall_mem_cons.mpr ⟨wk_wsX3_bestByGraph_0_7, List.forall_mem_cons.mpr ⟨wk_wsX3_bestByGraph_0_8, List.forall_mem_cons.mpr ⟨wk_wsX3_bestByGraph_0_3, List.forall_mem_cons.mpr ⟨wk_wsX3_bestByGraph_0_9, List.forall_mem_cons.mpr ⟨wk_wsX3_bestByGraph_0_10, List.forall_mem_cons.mpr ⟨wk_wsX3_bestByGraph_0_11, List.forall_mem_cons.mpr ⟨wk_wsX3_bestByGraph_0_12, List.forall_mem_cons.mpr ⟨wk_wsX3_bestByGraph_0_13, fun _ h => absurd h List.not_mem_nil⟩⟩⟩⟩⟩⟩⟩⟩⟩⟩) w) (lf_wsX3_bestByGraph_2 w))⟩) (by decide +kernel)
set_option maxRecDepth 20000 in
theorem gX3_bestByGraph_X3_asksFor : GoodIn wsX3_bestByGraph (wsV RX3 121 RX3 yX3_asksFor wsX3_asksFor) := goodIn_app (goodIn_sub (List.forall_mem_cons.mpr ⟨wk_wsX3_bestByGraph_0_0, List.forall_mem_cons.mpr ⟨wk_wsX3_bestByGraph_0_1, List.forall_mem_cons.mpr ⟨wk_wsX3_bestByGraph_0_2, List.forall_mem_cons.mpr ⟨wk_wsX3_bestByGraph_0_3, fun _ h => absurd h List.not_mem_nil⟩⟩⟩⟩) (by decide +kernel)) ggX3_bestByGraph_X3_asksFor
set_option maxRecDepth 20000 in
theorem ggX3_bestByGraph_X3_bestReached : GoodIn wsX3_bestByGraph wsX3_bestReached := goodIn_sub (List.forall_mem_cons.mpr ⟨wk_wsX3_bestByGraph_0_17, (fun w h => (List.mem_append.mp h).elim ((List.forall_mem_cons.mpr ⟨wk_wsX3_bestByGraph_0_10, List.forall_mem_cons.mpr ⟨wk_wsX3_bestByGraph_0_18, List.forall_mem_cons.mpr ⟨wk_wsX3_bestByGraph_0_19, List.forall_mem_cons.mpr ⟨wk_wsX3_bestByGraph_0_20, List.forall_mem_cons.mpr ⟨wk_wsX3_bestByGraph_0_21, List.forall_mem_cons.mpr ⟨wk_wsX3_bestByGraph_0_22, List.forall_mem_cons.mpr ⟨wk_wsX3_bestByGraph_0_23, List.forall_mem_cons.mpr ⟨wk_wsX3_bestByGraph_0_3, List.forall_mem_cons.mpr ⟨wk_wsX3_bestByGraph_1_0, List.forall_mem_cons.mpr ⟨wk_wsX3_bestByGraph_1_1, List.forall_mem_cons.mpr ⟨wk_wsX3_bestByGraph_1_2, List.forall_mem_cons.mpr ⟨wk_wsX3_bestByGraph_1_3, List.forall_mem_cons.mpr ⟨wk_wsX3_bestByGraph_1_4, List.forall_mem_cons.mpr ⟨wk_wsX3_bestByGraph_1_5, List.forall_mem_cons.mpr ⟨wk_wsX3_bestByGraph_1_6, fun _ h => absurd h List.not_mem_nil⟩⟩⟩⟩⟩⟩⟩⟩⟩⟩⟩⟩⟩⟩⟩) w) (lf_wsX3_bestByGraph_2 w))⟩) (by decide +kernel)
set_option maxRecDepth 20000 in
theorem gX3_bestByGraph_X3_bestReached : GoodIn wsX3_bestByGraph (wsV RX3 127 RX3 yX3_bestReached wsX3_bestReached) := goodIn_app (goodIn_sub (List.forall_mem_cons.mpr ⟨wk_wsX3_bestByGraph_0_14, List.forall_mem_cons.mpr ⟨wk_wsX3_bestByGraph_0_15, List.forall_mem_cons.mpr ⟨wk_wsX3_bestByGraph_0_16, List.forall_mem_cons.mpr ⟨wk_wsX3_bestByGraph_0_3, fun _ h => absurd h List.not_mem_nil⟩⟩⟩⟩) (by decide +kernel)) ggX3_bestByGraph_X3_bestReached
theorem dX3_bestByGraph_0 : decode cX3_bestByGraph 0 = .ok (.aload_n 0, 1) := by decide +kernel
theorem dX3_bestByGraph_1 : decode cX3_bestByGraph 1 = .ok (.iload_n 1, 1) := by decide +kernel
theorem dX3_bestByGraph_2 : decode cX3_bestByGraph 2 = .ok (.invokevirtual 121, 3) := by decide +kernel
theorem dX3_bestByGraph_5 : decode cX3_bestByGraph 5 = .ok (.ifCond .eq 11, 3) := by decide +kernel
theorem dX3_bestByGraph_8 : decode cX3_bestByGraph 8 = .ok (.aload_n 0, 1) := by decide +kernel
theorem dX3_bestByGraph_9 : decode cX3_bestByGraph 9 = .ok (.iload_n 1, 1) := by decide +kernel
theorem dX3_bestByGraph_10 : decode cX3_bestByGraph 10 = .ok (.invokevirtual 127, 3) := by decide +kernel
theorem dX3_bestByGraph_13 : decode cX3_bestByGraph 13 = .ok (.goto 4, 3) := by decide +kernel
theorem dX3_bestByGraph_16 : decode cX3_bestByGraph 16 = .ok (.iconst 0, 1) := by decide +kernel
theorem dX3_bestByGraph_17 : decode cX3_bestByGraph 17 = .ok (.ireturn, 1) := by decide +kernel
set_option maxRecDepth 20000 in
theorem ggX3_stepsByGraph_X3_asksFor : GoodIn wsX3_stepsByGraph wsX3_asksFor := goodIn_sub (List.forall_mem_cons.mpr ⟨wk_wsX3_stepsByGraph_0_5, (fun w h => (List.mem_append.mp h).elim ((List.forall_mem_cons.mpr ⟨wk_wsX3_stepsByGraph_0_6, List.forall_mem_cons.mpr ⟨wk_wsX3_stepsByGraph_0_7, List.forall_mem_cons.mpr ⟨wk_wsX3_stepsByGraph_0_8, List.forall_mem_cons.mpr ⟨wk_wsX3_stepsByGraph_0_9, List.forall_mem_cons.mpr ⟨wk_wsX3_stepsByGraph_0_4, List.forall_mem_cons.mpr ⟨wk_wsX3_stepsByGraph_0_10, List.forall_mem_cons.mpr ⟨wk_wsX3_stepsByGraph_0_11, List.forall_mem_cons.mpr ⟨wk_wsX3_stepsByGraph_0_12, List.forall_mem_cons.mpr ⟨wk_wsX3_stepsByGraph_0_13, List.forall_mem_cons.mpr ⟨wk_wsX3_stepsByGraph_0_14, fun _ h => absurd h List.not_mem_nil⟩⟩⟩⟩⟩⟩⟩⟩⟩⟩) w) (lf_wsX3_stepsByGraph_2 w))⟩) (by decide +kernel)
set_option maxRecDepth 20000 in
theorem gX3_stepsByGraph_X3_asksFor : GoodIn wsX3_stepsByGraph (wsV RX3 121 RX3 yX3_asksFor wsX3_asksFor) := goodIn_app (goodIn_sub (List.forall_mem_cons.mpr ⟨wk_wsX3_stepsByGraph_0_1, List.forall_mem_cons.mpr ⟨wk_wsX3_stepsByGraph_0_2, List.forall_mem_cons.mpr ⟨wk_wsX3_stepsByGraph_0_3, List.forall_mem_cons.mpr ⟨wk_wsX3_stepsByGraph_0_4, fun _ h => absurd h List.not_mem_nil⟩⟩⟩⟩) (by decide +kernel)) ggX3_stepsByGraph_X3_asksFor
set_option maxRecDepth 20000 in
theorem ggX3_stepsByGraph_X3_bestReached : GoodIn wsX3_stepsByGraph wsX3_bestReached := goodIn_sub (List.forall_mem_cons.mpr ⟨wk_wsX3_stepsByGraph_0_18, (fun w h => (List.mem_append.mp h).elim ((List.forall_mem_cons.mpr ⟨wk_wsX3_stepsByGraph_0_11, List.forall_mem_cons.mpr ⟨wk_wsX3_stepsByGraph_0_19, List.forall_mem_cons.mpr ⟨wk_wsX3_stepsByGraph_0_20, List.forall_mem_cons.mpr ⟨wk_wsX3_stepsByGraph_0_0, List.forall_mem_cons.mpr ⟨wk_wsX3_stepsByGraph_0_21, List.forall_mem_cons.mpr ⟨wk_wsX3_stepsByGraph_0_22, List.forall_mem_cons.mpr ⟨wk_wsX3_stepsByGraph_0_23, List.forall_mem_cons.mpr ⟨wk_wsX3_stepsByGraph_0_4, List.forall_mem_cons.mpr ⟨wk_wsX3_stepsByGraph_1_0, List.forall_mem_cons.mpr ⟨wk_wsX3_stepsByGraph_1_1, List.forall_mem_cons.mpr ⟨wk_wsX3_stepsByGraph_1_2, List.forall_mem_cons.mpr ⟨wk_wsX3_stepsByGraph_1_3, List.forall_mem_cons.mpr ⟨wk_wsX3_stepsByGraph_1_4, List.forall_mem_cons.mpr ⟨wk_wsX3_stepsByGraph_1_5, List.forall_mem_cons.mpr ⟨wk_wsX3_stepsByGraph_1_6, fun _ h => absurd h List.not_mem_nil⟩⟩⟩⟩⟩⟩⟩⟩⟩⟩⟩⟩⟩⟩⟩) w) (lf_wsX3_stepsByGraph_2 w))⟩) (by decide +kernel)
set_option maxRecDepth 20000 in
theorem gX3_stepsByGraph_X3_bestReached : GoodIn wsX3_stepsByGraph (wsV RX3 127 RX3 yX3_bestReached wsX3_bestReached) := goodIn_app (goodIn_sub (List.forall_mem_cons.mpr ⟨wk_wsX3_stepsByGraph_0_15, List.forall_mem_cons.mpr ⟨wk_wsX3_stepsByGraph_0_16, List.forall_mem_cons.mpr ⟨wk_wsX3_stepsByGraph_0_17, List.forall_mem_cons.mpr ⟨wk_wsX3_stepsByGraph_0_4, fun _ h => absurd h List.not_mem_nil⟩⟩⟩⟩) (by decide +kernel)) ggX3_stepsByGraph_X3_bestReached
theorem dX3_stepsByGraph_0 : decode cX3_stepsByGraph 0 = .ok (.aload_n 0, 1) := by decide +kernel
theorem dX3_stepsByGraph_1 : decode cX3_stepsByGraph 1 = .ok (.iload_n 1, 1) := by decide +kernel
theorem dX3_stepsByGraph_2 : decode cX3_stepsByGraph 2 = .ok (.invokevirtual 121, 3) := by decide +kernel
theorem dX3_stepsByGraph_5 : decode cX3_stepsByGraph 5 = .ok (.ifCond .eq 16, 3) := by decide +kernel
theorem dX3_stepsByGraph_8 : decode cX3_stepsByGraph 8 = .ok (.aload_n 0, 1) := by decide +kernel
theorem dX3_stepsByGraph_9 : decode cX3_stepsByGraph 9 = .ok (.getfield 69, 3) := by decide +kernel
theorem dX3_stepsByGraph_12 : decode cX3_stepsByGraph 12 = .ok (.aload_n 0, 1) := by decide +kernel
theorem dX3_stepsByGraph_13 : decode cX3_stepsByGraph 13 = .ok (.iload_n 1, 1) := by decide +kernel
theorem dX3_stepsByGraph_14 : decode cX3_stepsByGraph 14 = .ok (.invokevirtual 127, 3) := by decide +kernel
theorem dX3_stepsByGraph_17 : decode cX3_stepsByGraph 17 = .ok (.iaload, 1) := by decide +kernel
theorem dX3_stepsByGraph_18 : decode cX3_stepsByGraph 18 = .ok (.goto 4, 3) := by decide +kernel
theorem dX3_stepsByGraph_21 : decode cX3_stepsByGraph 21 = .ok (.iconst 0, 1) := by decide +kernel
theorem dX3_stepsByGraph_22 : decode cX3_stepsByGraph 22 = .ok (.ireturn, 1) := by decide +kernel
set_option maxRecDepth 20000 in
theorem ggX3_isSettled_X3_bestReached : GoodIn wsX3_isSettled wsX3_bestReached := goodIn_sub (List.forall_mem_cons.mpr ⟨wk_wsX3_isSettled_0_9, (fun w h => (List.mem_append.mp h).elim ((List.forall_mem_cons.mpr ⟨wk_wsX3_isSettled_0_1, List.forall_mem_cons.mpr ⟨wk_wsX3_isSettled_0_10, List.forall_mem_cons.mpr ⟨wk_wsX3_isSettled_0_11, List.forall_mem_cons.mpr ⟨wk_wsX3_isSettled_0_4, List.forall_mem_cons.mpr ⟨wk_wsX3_isSettled_0_12, List.forall_mem_cons.mpr ⟨wk_wsX3_isSettled_0_13, List.forall_mem_cons.mpr ⟨wk_wsX3_isSettled_0_14, List.forall_mem_cons.mpr ⟨wk_wsX3_isSettled_0_8, List.forall_mem_cons.mpr ⟨wk_wsX3_isSettled_0_15, List.forall_mem_cons.mpr ⟨wk_wsX3_isSettled_0_16, List.forall_mem_cons.mpr ⟨wk_wsX3_isSettled_0_17, List.forall_mem_cons.mpr ⟨wk_wsX3_isSettled_0_18, List.forall_mem_cons.mpr ⟨wk_wsX3_isSettled_0_19, List.forall_mem_cons.mpr ⟨wk_wsX3_isSettled_0_20, List.forall_mem_cons.mpr ⟨wk_wsX3_isSettled_0_21, fun _ h => absurd h List.not_mem_nil⟩⟩⟩⟩⟩⟩⟩⟩⟩⟩⟩⟩⟩⟩⟩) w) (lf_wsX3_isSettled_1 w))⟩) (by decide +kernel)
set_option maxRecDepth 20000 in
theorem gX3_isSettled_X3_bestReached : GoodIn wsX3_isSettled (wsV RX3 127 RX3 yX3_bestReached wsX3_bestReached) := goodIn_app (goodIn_sub (List.forall_mem_cons.mpr ⟨wk_wsX3_isSettled_0_5, List.forall_mem_cons.mpr ⟨wk_wsX3_isSettled_0_6, List.forall_mem_cons.mpr ⟨wk_wsX3_isSettled_0_7, List.forall_mem_cons.mpr ⟨wk_wsX3_isSettled_0_8, fun _ h => absurd h List.not_mem_nil⟩⟩⟩⟩) (by decide +kernel)) ggX3_isSettled_X3_bestReached
theorem dX3_isSettled_0 : decode cX3_isSettled 0 = .ok (.aload_n 0, 1) := by decide +kernel
theorem dX3_isSettled_1 : decode cX3_isSettled 1 = .ok (.iconst 0, 1) := by decide +kernel
theorem dX3_isSettled_2 : decode cX3_isSettled 2 = .ok (.putfield 76, 3) := by decide +kernel
theorem dX3_isSettled_5 : decode cX3_isSettled 5 = .ok (.iconst 1, 1) := by decide +kernel
theorem dX3_isSettled_6 : decode cX3_isSettled 6 = .ok (.istore_n 1, 1) := by decide +kernel
theorem dX3_isSettled_7 : decode cX3_isSettled 7 = .ok (.iconst 0, 1) := by decide +kernel
theorem dX3_isSettled_8 : decode cX3_isSettled 8 = .ok (.istore_n 2, 1) := by decide +kernel
theorem dX3_isSettled_9 : decode cX3_isSettled 9 = .ok (.iload_n 2, 1) := by decide +kernel
theorem dX3_isSettled_10 : decode cX3_isSettled 10 = .ok (.aload_n 0, 1) := by decide +kernel
theorem dX3_isSettled_11 : decode cX3_isSettled 11 = .ok (.getfield 72, 3) := by decide +kernel
theorem dX3_isSettled_14 : decode cX3_isSettled 14 = .ok (.if_icmp .ge 50, 3) := by decide +kernel
theorem dX3_isSettled_17 : decode cX3_isSettled 17 = .ok (.aload_n 0, 1) := by decide +kernel
theorem dX3_isSettled_18 : decode cX3_isSettled 18 = .ok (.iload_n 2, 1) := by decide +kernel
theorem dX3_isSettled_19 : decode cX3_isSettled 19 = .ok (.invokevirtual 127, 3) := by decide +kernel
theorem dX3_isSettled_22 : decode cX3_isSettled 22 = .ok (.istore_n 3, 1) := by decide +kernel
theorem dX3_isSettled_23 : decode cX3_isSettled 23 = .ok (.iload_n 1, 1) := by decide +kernel
theorem dX3_isSettled_24 : decode cX3_isSettled 24 = .ok (.ifCond .eq 32, 3) := by decide +kernel
theorem dX3_isSettled_27 : decode cX3_isSettled 27 = .ok (.aload_n 0, 1) := by decide +kernel
theorem dX3_isSettled_28 : decode cX3_isSettled 28 = .ok (.getfield 39, 3) := by decide +kernel
theorem dX3_isSettled_31 : decode cX3_isSettled 31 = .ok (.iload_n 2, 1) := by decide +kernel
theorem dX3_isSettled_32 : decode cX3_isSettled 32 = .ok (.iaload, 1) := by decide +kernel
theorem dX3_isSettled_33 : decode cX3_isSettled 33 = .ok (.iload_n 3, 1) := by decide +kernel
theorem dX3_isSettled_34 : decode cX3_isSettled 34 = .ok (.if_icmp .ne 22, 3) := by decide +kernel
theorem dX3_isSettled_37 : decode cX3_isSettled 37 = .ok (.aload_n 0, 1) := by decide +kernel
theorem dX3_isSettled_38 : decode cX3_isSettled 38 = .ok (.getfield 48, 3) := by decide +kernel
theorem dX3_isSettled_41 : decode cX3_isSettled 41 = .ok (.iload_n 2, 1) := by decide +kernel
theorem dX3_isSettled_42 : decode cX3_isSettled 42 = .ok (.iaload, 1) := by decide +kernel
theorem dX3_isSettled_43 : decode cX3_isSettled 43 = .ok (.aload_n 0, 1) := by decide +kernel
theorem dX3_isSettled_44 : decode cX3_isSettled 44 = .ok (.getfield 69, 3) := by decide +kernel
theorem dX3_isSettled_47 : decode cX3_isSettled 47 = .ok (.iload_n 3, 1) := by decide +kernel
theorem dX3_isSettled_48 : decode cX3_isSettled 48 = .ok (.iaload, 1) := by decide +kernel
theorem dX3_isSettled_49 : decode cX3_isSettled 49 = .ok (.if_icmp .ne 7, 3) := by decide +kernel
theorem dX3_isSettled_52 : decode cX3_isSettled 52 = .ok (.iconst 1, 1) := by decide +kernel
theorem dX3_isSettled_53 : decode cX3_isSettled 53 = .ok (.goto 4, 3) := by decide +kernel
theorem dX3_isSettled_56 : decode cX3_isSettled 56 = .ok (.iconst 0, 1) := by decide +kernel
theorem dX3_isSettled_57 : decode cX3_isSettled 57 = .ok (.istore_n 1, 1) := by decide +kernel
theorem dX3_isSettled_58 : decode cX3_isSettled 58 = .ok (.iinc 2 1, 3) := by decide +kernel
theorem dX3_isSettled_61 : decode cX3_isSettled 61 = .ok (.goto (-52), 3) := by decide +kernel
theorem dX3_isSettled_64 : decode cX3_isSettled 64 = .ok (.iload_n 1, 1) := by decide +kernel
theorem dX3_isSettled_65 : decode cX3_isSettled 65 = .ok (.ireturn, 1) := by decide +kernel
set_option maxRecDepth 20000 in
theorem ggX3_offset_X3_asksFor : GoodIn wsX3_offset wsX3_asksFor := goodIn_sub (List.forall_mem_cons.mpr ⟨wk_wsX3_offset_0_5, (fun w h => (List.mem_append.mp h).elim ((List.forall_mem_cons.mpr ⟨wk_wsX3_offset_0_6, List.forall_mem_cons.mpr ⟨wk_wsX3_offset_0_7, List.forall_mem_cons.mpr ⟨wk_wsX3_offset_0_8, List.forall_mem_cons.mpr ⟨wk_wsX3_offset_0_9, List.forall_mem_cons.mpr ⟨wk_wsX3_offset_0_4, List.forall_mem_cons.mpr ⟨wk_wsX3_offset_0_10, List.forall_mem_cons.mpr ⟨wk_wsX3_offset_0_11, List.forall_mem_cons.mpr ⟨wk_wsX3_offset_0_12, List.forall_mem_cons.mpr ⟨wk_wsX3_offset_0_13, List.forall_mem_cons.mpr ⟨wk_wsX3_offset_0_14, fun _ h => absurd h List.not_mem_nil⟩⟩⟩⟩⟩⟩⟩⟩⟩⟩) w) (lf_wsX3_offset_1 w))⟩) (by decide +kernel)
set_option maxRecDepth 20000 in
theorem gX3_offset_X3_asksFor : GoodIn wsX3_offset (wsV RX3 121 RX3 yX3_asksFor wsX3_asksFor) := goodIn_app (goodIn_sub (List.forall_mem_cons.mpr ⟨wk_wsX3_offset_0_1, List.forall_mem_cons.mpr ⟨wk_wsX3_offset_0_2, List.forall_mem_cons.mpr ⟨wk_wsX3_offset_0_3, List.forall_mem_cons.mpr ⟨wk_wsX3_offset_0_4, fun _ h => absurd h List.not_mem_nil⟩⟩⟩⟩) (by decide +kernel)) ggX3_offset_X3_asksFor
theorem dX3_offset_0 : decode cX3_offset 0 = .ok (.aload_n 0, 1) := by decide +kernel
theorem dX3_offset_1 : decode cX3_offset 1 = .ok (.iload_n 1, 1) := by decide +kernel
theorem dX3_offset_2 : decode cX3_offset 2 = .ok (.invokevirtual 121, 3) := by decide +kernel
theorem dX3_offset_5 : decode cX3_offset 5 = .ok (.ifCond .eq 12, 3) := by decide +kernel
theorem dX3_offset_8 : decode cX3_offset 8 = .ok (.aload_n 0, 1) := by decide +kernel
theorem dX3_offset_9 : decode cX3_offset 9 = .ok (.getfield 22, 3) := by decide +kernel
theorem dX3_offset_12 : decode cX3_offset 12 = .ok (.iload_n 1, 1) := by decide +kernel
theorem dX3_offset_13 : decode cX3_offset 13 = .ok (.laload, 1) := by decide +kernel
theorem dX3_offset_14 : decode cX3_offset 14 = .ok (.goto 4, 3) := by decide +kernel
theorem dX3_offset_17 : decode cX3_offset 17 = .ok (.lconst 0, 1) := by decide +kernel
theorem dX3_offset_18 : decode cX3_offset 18 = .ok (.lreturn, 1) := by decide +kernel
set_option maxRecDepth 20000 in
theorem ggX3_rate_X3_asksFor : GoodIn wsX3_rate wsX3_asksFor := goodIn_sub (List.forall_mem_cons.mpr ⟨wk_wsX3_rate_0_5, (fun w h => (List.mem_append.mp h).elim ((List.forall_mem_cons.mpr ⟨wk_wsX3_rate_0_6, List.forall_mem_cons.mpr ⟨wk_wsX3_rate_0_7, List.forall_mem_cons.mpr ⟨wk_wsX3_rate_0_8, List.forall_mem_cons.mpr ⟨wk_wsX3_rate_0_9, List.forall_mem_cons.mpr ⟨wk_wsX3_rate_0_4, List.forall_mem_cons.mpr ⟨wk_wsX3_rate_0_10, List.forall_mem_cons.mpr ⟨wk_wsX3_rate_0_11, List.forall_mem_cons.mpr ⟨wk_wsX3_rate_0_12, List.forall_mem_cons.mpr ⟨wk_wsX3_rate_0_13, List.forall_mem_cons.mpr ⟨wk_wsX3_rate_0_14, fun _ h => absurd h List.not_mem_nil⟩⟩⟩⟩⟩⟩⟩⟩⟩⟩) w) (lf_wsX3_rate_1 w))⟩) (by decide +kernel)
set_option maxRecDepth 20000 in
theorem gX3_rate_X3_asksFor : GoodIn wsX3_rate (wsV RX3 121 RX3 yX3_asksFor wsX3_asksFor) := goodIn_app (goodIn_sub (List.forall_mem_cons.mpr ⟨wk_wsX3_rate_0_1, List.forall_mem_cons.mpr ⟨wk_wsX3_rate_0_2, List.forall_mem_cons.mpr ⟨wk_wsX3_rate_0_3, List.forall_mem_cons.mpr ⟨wk_wsX3_rate_0_4, fun _ h => absurd h List.not_mem_nil⟩⟩⟩⟩) (by decide +kernel)) ggX3_rate_X3_asksFor
theorem dX3_rate_0 : decode cX3_rate 0 = .ok (.aload_n 0, 1) := by decide +kernel
theorem dX3_rate_1 : decode cX3_rate 1 = .ok (.iload_n 1, 1) := by decide +kernel
theorem dX3_rate_2 : decode cX3_rate 2 = .ok (.invokevirtual 121, 3) := by decide +kernel
theorem dX3_rate_5 : decode cX3_rate 5 = .ok (.ifCond .eq 12, 3) := by decide +kernel
theorem dX3_rate_8 : decode cX3_rate 8 = .ok (.aload_n 0, 1) := by decide +kernel
theorem dX3_rate_9 : decode cX3_rate 9 = .ok (.getfield 26, 3) := by decide +kernel
theorem dX3_rate_12 : decode cX3_rate 12 = .ok (.iload_n 1, 1) := by decide +kernel
theorem dX3_rate_13 : decode cX3_rate 13 = .ok (.laload, 1) := by decide +kernel
theorem dX3_rate_14 : decode cX3_rate 14 = .ok (.goto 4, 3) := by decide +kernel
theorem dX3_rate_17 : decode cX3_rate 17 = .ok (.lconst 0, 1) := by decide +kernel
theorem dX3_rate_18 : decode cX3_rate 18 = .ok (.lreturn, 1) := by decide +kernel
set_option maxRecDepth 20000 in
theorem ggX3_spread_X3_in : GoodIn wsX3_spread wsX3_in := goodIn_sub (List.forall_mem_cons.mpr ⟨wk_wsX3_spread_0_7, (fun _ h => absurd h List.not_mem_nil)⟩) (by decide +kernel)
set_option maxRecDepth 20000 in
theorem gX3_spread_X3_in : GoodIn wsX3_spread (va_wsS RX3 79 yX3_in wsX3_in) := goodIn_app (goodIn_sub (List.forall_mem_cons.mpr ⟨wk_wsX3_spread_0_4, List.forall_mem_cons.mpr ⟨wk_wsX3_spread_0_5, List.forall_mem_cons.mpr ⟨wk_wsX3_spread_0_6, fun _ h => absurd h List.not_mem_nil⟩⟩⟩) (by decide +kernel)) ggX3_spread_X3_in
theorem dX3_spread_0 : decode cX3_spread 0 = .ok (.aload_n 0, 1) := by decide +kernel
theorem dX3_spread_1 : decode cX3_spread 1 = .ok (.iload_n 1, 1) := by decide +kernel
theorem dX3_spread_2 : decode cX3_spread 2 = .ok (.iconst 0, 1) := by decide +kernel
theorem dX3_spread_3 : decode cX3_spread 3 = .ok (.iconst 1, 1) := by decide +kernel
theorem dX3_spread_4 : decode cX3_spread 4 = .ok (.invokestatic 79, 3) := by decide +kernel
theorem dX3_spread_7 : decode cX3_spread 7 = .ok (.ifCond .eq 7, 3) := by decide +kernel
theorem dX3_spread_10 : decode cX3_spread 10 = .ok (.iconst 0, 1) := by decide +kernel
theorem dX3_spread_11 : decode cX3_spread 11 = .ok (.goto 4, 3) := by decide +kernel
theorem dX3_spread_14 : decode cX3_spread 14 = .ok (.iconst 1, 1) := by decide +kernel
theorem dX3_spread_15 : decode cX3_spread 15 = .ok (.putfield 76, 3) := by decide +kernel
theorem dX3_spread_18 : decode cX3_spread 18 = .ok (.lconst 0, 1) := by decide +kernel
theorem dX3_spread_19 : decode cX3_spread 19 = .ok (.lstore_n 2, 1) := by decide +kernel
theorem dX3_spread_20 : decode cX3_spread 20 = .ok (.iconst 0, 1) := by decide +kernel
theorem dX3_spread_21 : decode cX3_spread 21 = .ok (.istore 4, 2) := by decide +kernel
theorem dX3_spread_23 : decode cX3_spread 23 = .ok (.iload 4, 2) := by decide +kernel
theorem dX3_spread_25 : decode cX3_spread 25 = .ok (.aload_n 0, 1) := by decide +kernel
theorem dX3_spread_26 : decode cX3_spread 26 = .ok (.getfield 72, 3) := by decide +kernel
theorem dX3_spread_29 : decode cX3_spread 29 = .ok (.if_icmp .ge 87, 3) := by decide +kernel
theorem dX3_spread_32 : decode cX3_spread 32 = .ok (.aload_n 0, 1) := by decide +kernel
theorem dX3_spread_33 : decode cX3_spread 33 = .ok (.getfield 76, 3) := by decide +kernel
theorem dX3_spread_36 : decode cX3_spread 36 = .ok (.ifCond .ne 80, 3) := by decide +kernel
theorem dX3_spread_39 : decode cX3_spread 39 = .ok (.iconst 0, 1) := by decide +kernel
theorem dX3_spread_40 : decode cX3_spread 40 = .ok (.istore 5, 2) := by decide +kernel
theorem dX3_spread_42 : decode cX3_spread 42 = .ok (.iload 5, 2) := by decide +kernel
theorem dX3_spread_44 : decode cX3_spread 44 = .ok (.aload_n 0, 1) := by decide +kernel
theorem dX3_spread_45 : decode cX3_spread 45 = .ok (.getfield 72, 3) := by decide +kernel
theorem dX3_spread_48 : decode cX3_spread 48 = .ok (.if_icmp .ge 62, 3) := by decide +kernel
theorem dX3_spread_51 : decode cX3_spread 51 = .ok (.aload_n 0, 1) := by decide +kernel
theorem dX3_spread_52 : decode cX3_spread 52 = .ok (.getfield 22, 3) := by decide +kernel
theorem dX3_spread_55 : decode cX3_spread 55 = .ok (.iload 4, 2) := by decide +kernel
theorem dX3_spread_57 : decode cX3_spread 57 = .ok (.laload, 1) := by decide +kernel
theorem dX3_spread_58 : decode cX3_spread 58 = .ok (.aload_n 0, 1) := by decide +kernel
theorem dX3_spread_59 : decode cX3_spread 59 = .ok (.getfield 22, 3) := by decide +kernel
theorem dX3_spread_62 : decode cX3_spread 62 = .ok (.iload 5, 2) := by decide +kernel
theorem dX3_spread_64 : decode cX3_spread 64 = .ok (.laload, 1) := by decide +kernel
theorem dX3_spread_65 : decode cX3_spread 65 = .ok (.lsub, 1) := by decide +kernel
theorem dX3_spread_66 : decode cX3_spread 66 = .ok (.lstore 6, 2) := by decide +kernel
theorem dX3_spread_68 : decode cX3_spread 68 = .ok (.aload_n 0, 1) := by decide +kernel
theorem dX3_spread_69 : decode cX3_spread 69 = .ok (.getfield 7, 3) := by decide +kernel
theorem dX3_spread_72 : decode cX3_spread 72 = .ok (.iload 4, 2) := by decide +kernel
theorem dX3_spread_74 : decode cX3_spread 74 = .ok (.iaload, 1) := by decide +kernel
theorem dX3_spread_75 : decode cX3_spread 75 = .ok (.iload_n 1, 1) := by decide +kernel
theorem dX3_spread_76 : decode cX3_spread 76 = .ok (.if_icmp .ne 26, 3) := by decide +kernel
theorem dX3_spread_79 : decode cX3_spread 79 = .ok (.aload_n 0, 1) := by decide +kernel
theorem dX3_spread_80 : decode cX3_spread 80 = .ok (.getfield 7, 3) := by decide +kernel
theorem dX3_spread_83 : decode cX3_spread 83 = .ok (.iload 5, 2) := by decide +kernel
theorem dX3_spread_85 : decode cX3_spread 85 = .ok (.iaload, 1) := by decide +kernel
theorem dX3_spread_86 : decode cX3_spread 86 = .ok (.iload_n 1, 1) := by decide +kernel
theorem dX3_spread_87 : decode cX3_spread 87 = .ok (.if_icmp .ne 15, 3) := by decide +kernel
theorem dX3_spread_90 : decode cX3_spread 90 = .ok (.lload 6, 2) := by decide +kernel
theorem dX3_spread_92 : decode cX3_spread 92 = .ok (.lload_n 2, 1) := by decide +kernel
theorem dX3_spread_93 : decode cX3_spread 93 = .ok (.lcmp, 1) := by decide +kernel
theorem dX3_spread_94 : decode cX3_spread 94 = .ok (.ifCond .le 8, 3) := by decide +kernel
theorem dX3_spread_97 : decode cX3_spread 97 = .ok (.lload 6, 2) := by decide +kernel
theorem dX3_spread_99 : decode cX3_spread 99 = .ok (.goto 4, 3) := by decide +kernel
theorem dX3_spread_102 : decode cX3_spread 102 = .ok (.lload_n 2, 1) := by decide +kernel
theorem dX3_spread_103 : decode cX3_spread 103 = .ok (.lstore_n 2, 1) := by decide +kernel
theorem dX3_spread_104 : decode cX3_spread 104 = .ok (.iinc 5 1, 3) := by decide +kernel
theorem dX3_spread_107 : decode cX3_spread 107 = .ok (.goto (-65), 3) := by decide +kernel
theorem dX3_spread_110 : decode cX3_spread 110 = .ok (.iinc 4 1, 3) := by decide +kernel
theorem dX3_spread_113 : decode cX3_spread 113 = .ok (.goto (-90), 3) := by decide +kernel
theorem dX3_spread_116 : decode cX3_spread 116 = .ok (.lload_n 2, 1) := by decide +kernel
theorem dX3_spread_117 : decode cX3_spread 117 = .ok (.lreturn, 1) := by decide +kernel
theorem dJ9_max_f86c9_0 : decode cJ9_max_f86c9 0 = .ok (.lload_n 0, 1) := by decide +kernel
theorem dJ9_max_f86c9_1 : decode cJ9_max_f86c9 1 = .ok (.lload_n 2, 1) := by decide +kernel
theorem dJ9_max_f86c9_2 : decode cJ9_max_f86c9 2 = .ok (.lcmp, 1) := by decide +kernel
theorem dJ9_max_f86c9_3 : decode cJ9_max_f86c9 3 = .ok (.ifCond .lt 7, 3) := by decide +kernel
theorem dJ9_max_f86c9_6 : decode cJ9_max_f86c9 6 = .ok (.lload_n 0, 1) := by decide +kernel
theorem dJ9_max_f86c9_7 : decode cJ9_max_f86c9 7 = .ok (.goto 4, 3) := by decide +kernel
theorem dJ9_max_f86c9_10 : decode cJ9_max_f86c9 10 = .ok (.lload_n 2, 1) := by decide +kernel
theorem dJ9_max_f86c9_11 : decode cJ9_max_f86c9 11 = .ok (.lreturn, 1) := by decide +kernel
theorem dJ9_min_f86c9_0 : decode cJ9_min_f86c9 0 = .ok (.lload_n 0, 1) := by decide +kernel
theorem dJ9_min_f86c9_1 : decode cJ9_min_f86c9 1 = .ok (.lload_n 2, 1) := by decide +kernel
theorem dJ9_min_f86c9_2 : decode cJ9_min_f86c9 2 = .ok (.lcmp, 1) := by decide +kernel
theorem dJ9_min_f86c9_3 : decode cJ9_min_f86c9 3 = .ok (.ifCond .gt 7, 3) := by decide +kernel
theorem dJ9_min_f86c9_6 : decode cJ9_min_f86c9 6 = .ok (.lload_n 0, 1) := by decide +kernel
theorem dJ9_min_f86c9_7 : decode cJ9_min_f86c9 7 = .ok (.goto 4, 3) := by decide +kernel
theorem dJ9_min_f86c9_10 : decode cJ9_min_f86c9 10 = .ok (.lload_n 2, 1) := by decide +kernel
theorem dJ9_min_f86c9_11 : decode cJ9_min_f86c9 11 = .ok (.lreturn, 1) := by decide +kernel
abbrev vwCl : List vw_C := [(RX0, TX0, 4), (RX1, TX1, 4), (RX2, TX2, 12), (RX3, TX3, 24)]
