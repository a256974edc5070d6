/-! THE CLAIM OUT OF ONE WALK OF THE LAW'S BODY. Your part is whole_start (and what it stands on); all else here is the same for every law, but numbers. -/
def R_law : String := "TimeNetLaw"
def lw_P (b : Addr) (xs : List Int32) (args : Array Value) (s : State) : Prop := args = #[.ref b] ∧ s.IntsAt b xs ∧ xs.length ≤ 260 ∧ (Jvm.Cond.and given_1 narrow_1).before args s = true
def lw_Q (_ : Array Value) (s : State) (o : Outcome) (t : State) : Prop := o = .returned (some (.int 1)) ∧ Framed s o t [] 600104 7301314
def lw_Z (below : List Frame) (a : Array Value) (s : State) : State → Prop := fun t => ∃ o, t.status = .running ∧ Ended t below o ∧ lw_Q a s o t
/-- the law's own end, with 1 on the stack, nothing written that was there before, its room as the claim has it -/
theorem lw_ret {p : Program} {l : Launch} {e : Env} {s : State} {m : MethodId} {below : List Frame} {meth : Method} {c : Code} {b : Nat} (hx : p.tables.exec = Jvm.exec) (hb : c.code = code) (hr : meth.sig.returnType = ret) (hlocks : meth.locks = false) {pc : Nat} {H : Heap} {ls : Array Slot} (hdg : decode code pc = .ok (.ireturn, 1)) : W p l e room_1 s m #[Value.ref b] below meth c H [] 600104 7301314 (lw_Z below #[Value.ref b] s) (F0 m pc ls [.int 1]) := by
  intro T hT X
  obtain ⟨fs, hret, hrun, hended, hW, hframe⟩ := X.leave (v := some (.int 1)) (hlocks := hlocks) (fun h => by rw [hr] at h; cases h)
  have hmeth' : T.vm.method? m = some meth := X.method'
  refine ⟨T.setFrames fs, ?_, .returned (some (.int 1)), hrun, hended, rfl, ⟨_, rfl⟩, hW, hframe⟩
  jvm_step X.here [X.here.top, hx, hb, hdg, hmeth', hr, ret, narrow_b1]
  (try refine ⟨rfl, ?_⟩); (try refine ⟨rfl, ?_⟩)
  first | (intro acts; rw [hret _ acts rfl rfl rfl]) | rw [hret _ _ rfl rfl rfl]
  exact Steps.refl _
/-- what holds at the law's entry: the machine, the code, the tables' words (any of lw_tbl by 'hts w (by decide +kernel)'), the script of L ints xs at the cell b, what the Statement gives of the start (any of its parts by flat_of_before) -/
def lw_At (p : Program) (s : State) (m : MethodId) (meth : Method) (c : Code) (b L : Nat) (xs : Nat → Int32) : Prop :=
  p.tables.exec = Jvm.exec ∧ c.code = code ∧ meth.sig.returnType = ret ∧ c.maxLocals = 20 ∧ s.vm.findClass R_law = some m.cls ∧ (∀ w ∈ lw_tbl, w.before #[Value.ref b] s = true) ∧ va_X b L xs s s.heap ∧ b < s.heap.size ∧ meth.locks = false ∧ (Jvm.Cond.and given_1 narrow_1).before #[Value.ref b] s = true
/-- both nets: what holds of them at the loop's head, once a node is there -/
def JI (g : EN) (h ka : Nat → Nat) (A : Nat → Prop) (s : State) (H : Heap) (locs : List Loc) : Prop :=
  ∃ (N : Nat) (tk : Int32) (dom : Nat → Int32) (gr : Nat → Int32) (va : Nat → Int32) (dr : Nat → Int32) (off : Nat → Int64) (rt : Nat → Int64) (cnt : Int32) (lk : Nat → Int32) (dl : Nat → Int32) (td : Nat → Int32) (K : KT) (E : KT) (ds : Nat → Int32) (nn : Nat → Int32) (aa : Nat → Int32) (ll : Nat → Int32) (yy : Nat → Int64) (tt : Nat → Int32) (kk : Nat → Int64) (oo : Nat → Int64), cC g ((cNet g h N tk dom gr va dr off rt cnt lk dl td K E ds) ++ (lNet g ka nn aa ll yy tt kk oo)) A s H locs ∧ JV N tk dom gr va dr off rt cnt lk dl td K nn aa ll yy tt kk oo ∧ 0 < N
theorem dly_rng {y : Nat → Int64} {dl : Nat → Int32} {i j : Nat} (h : LY y dl) (hi : i < 10) (hj : j < 10) (hne : ¬ i = j) : inR (-100000) (dl (i * 10 + j) - dl (j * 10 + i)) 100000 := by
  have key : ∀ u v : Nat, u ≤ 100000 → v ≤ 100000 → inR (-100000) (nI u - nI v) 100000 := by
    intro u v hu hv
    constructor
    · rw [Int32.le_iff_toInt_le, pk_sub_toInt (by omega) (by omega)]
      show (-100000 : Int) ≤ _
      omega
    · rw [Int32.le_iff_toInt_le, pk_sub_toInt (by omega) (by omega)]
      show _ ≤ (100000 : Int)
      omega
  rcases Nat.lt_trichotomy i j with c | c | c
  · obtain ⟨u, v, hu, hv, e1, e2, -⟩ := h i j hi hj c
    rw [e1, e2]; exact key u v hu hv
  · exact absurd c hne
  · obtain ⟨u, v, hu, hv, e1, e2, -⟩ := h j i hj hi c
    rw [e1, e2]; exact key v u hv hu
theorem dif_rng {a : Nat} (h : a ≤ 200000) : inR (-100000) (nI a - nI 100000) 100000 := by
  constructor
  · rw [Int32.le_iff_toInt_le, pk_sub_toInt (by omega) (by omega)]
    show (-100000 : Int) ≤ _
    omega
  · rw [Int32.le_iff_toInt_le, pk_sub_toInt (by omega) (by omega)]
    show _ ≤ (100000 : Int)
    omega
theorem dif_rng2 {a : Nat} (h : a ≤ 200) : inR (-100) (nI a - nI 100) 100 := by
  constructor
  · rw [Int32.le_iff_toInt_le, pk_sub_toInt (by omega) (by omega)]
    show (-100 : Int) ≤ _
    omega
  · rw [Int32.le_iff_toInt_le, pk_sub_toInt (by omega) (by omega)]
    show _ ≤ (100 : Int)
    omega
theorem dif_rng3 {a : Nat} (h : a ≤ 2000000) : inR (-1000000) (nI a - nI 1000000) 1000000 := by
  constructor
  · rw [Int32.le_iff_toInt_le, pk_sub_toInt (by omega) (by omega)]
    show (-1000000 : Int) ≤ _
    omega
  · rw [Int32.le_iff_toInt_le, pk_sub_toInt (by omega) (by omega)]
    show _ ≤ (1000000 : Int)
    omega
