/-! the law's own net: what its arrays say of the class's -/
/-! bits (kit/laws/BITS.to-paste's family began this) -/
def bt (x : Int32) (i : Nat) : Bool := x.toBitVec.getLsbD i
theorem b_ext {x y : Int32} (h : ∀ i, i < 32 → bt x i = bt y i) : x = y := Int32.toBitVec_inj.mp (BitVec.eq_of_getLsbD_eq (fun i hi => h i hi))
theorem b_or (x y : Int32) (i : Nat) : bt (x ||| y) i = (bt x i || bt y i) := by unfold bt; rw [Int32.toBitVec_or, BitVec.getLsbD_or]
theorem b_and (x y : Int32) (i : Nat) : bt (x &&& y) i = (bt x i && bt y i) := by unfold bt; rw [Int32.toBitVec_and, BitVec.getLsbD_and]
theorem b_xor (x y : Int32) (i : Nat) : bt (x ^^^ y) i = (bt x i ^^ bt y i) := by unfold bt; rw [Int32.toBitVec_xor, BitVec.getLsbD_xor]
theorem b_m1 : ∀ i, i < 32 → bt (-1) i = true := by decide +kernel
theorem b_0 (i : Nat) : bt 0 i = false := BitVec.getLsbD_zero
theorem s_l : ∀ n, n < 32 → ((nI n &&& 31).toBitVec.smod 32).toNat = n := by decide +kernel
theorem b_shl (n : Nat) (hn : n < 32) (x : Int32) {i : Nat} (hi : i < 32) : bt (x <<< (nI n &&& 31)) i = (decide (n ≤ i) && bt x (i - n)) := by
  unfold bt
  rw [Int32.toBitVec_shiftLeft]
  show (x.toBitVec <<< ((nI n &&& 31).toBitVec.smod 32).toNat).getLsbD i = _
  rw [s_l n hn, BitVec.getLsbD_shiftLeft]
  rcases Nat.lt_or_ge i n with h | h
  · simp [h, Nat.not_le.mpr h]
  · simp [hi, h, Nat.not_lt.mpr h]
theorem b_sshr (n : Nat) (hn : n < 32) (x : Int32) {i : Nat} (hi : i < 32) : bt (x >>> (nI n &&& 31)) i = if n + i < 32 then bt x (n + i) else bt x 31 := by
  unfold bt
  rw [Int32.toBitVec_shiftRight]
  show (x.toBitVec.sshiftRight ((nI n &&& 31).toBitVec.smod 32).toNat).getLsbD i = _
  rw [s_l n hn, BitVec.getLsbD_sshiftRight, BitVec.msb_eq_getLsbD_last]
  simp [hi]
theorem b_one0 : bt 1 0 = true := by decide +kernel
theorem b_one : ∀ i, i < 32 → ¬ i = 0 → bt 1 i = false := by decide +kernel
/-- one bit of a set, as the law reads it -/
theorem sh1 {x : Int32} {j : Nat} (hj : j < 32) : (x >>> (nI j &&& 31)) &&& nI 1 = nI (if bt x j = true then 1 else 0) := by
  show (x >>> (nI j &&& 31)) &&& 1 = _
  apply b_ext
  intro i hi
  rw [b_and, b_sshr j hj x hi]
  by_cases e : i = 0
  · subst e
    rw [if_pos (by omega), Nat.add_zero, b_one0, Bool.and_true]
    by_cases c : bt x j = true
    · rw [if_pos c, c]; exact b_one0.symm
    · rw [if_neg c]; exact ((Bool.not_eq_true _).mp c).trans (b_0 0).symm
  · rw [b_one i hi e, Bool.and_false]
    by_cases c : bt x j = true
    · rw [if_pos c]; exact (b_one i hi e).symm
    · rw [if_neg c]; exact (b_0 i).symm
theorem sh1_t {x : Int32} {j : Nat} (hj : j < 32) (h : bt x j = true) : (x >>> (nI j &&& 31)) &&& nI 1 = nI 1 := by rw [sh1 hj, if_pos h]
theorem sh1_f {x : Int32} {j : Nat} (hj : j < 32) (h : ¬ bt x j = true) : (x >>> (nI j &&& 31)) &&& nI 1 = nI 0 := by rw [sh1 hj, if_neg h]
theorem shl1 {i j : Nat} (hj : j < 32) (hi : i < 32) : bt (nI 1 <<< (nI j &&& 31)) i = decide (i = j) := by
  show bt ((1 : Int32) <<< (nI j &&& 31)) i = _
  rw [b_shl j hj 1 hi]
  by_cases e : i = j
  · subst e
    rw [Nat.sub_self, b_one0, decide_eq_true (Nat.le_refl i), decide_eq_true rfl]; rfl
  · rw [decide_eq_false e]
    by_cases c : j ≤ i
    · rw [b_one (i - j) (by omega) (by omega), Bool.and_false]
    · rw [decide_eq_false c]; rfl
/-- node by node: who is linked with whom -/
def LB (l lk : Nat → Int32) : Prop := ∀ i j, i < 10 → j < 10 → (bt (l i) j = true ↔ lk (i * 10 + j) = 1)
theorem LB_0 : LB (fun _ => 0) (fun _ => 0) := fun i j _ _ => by
  show bt 0 j = true ↔ _
  rw [b_0]
  exact ⟨fun h => (by cases h), fun h => absurd (show (0 : Int32) = 1 from h) (by decide)⟩
theorem upd_ij {f : Nat → Int32} {i j a b : Nat} {v : Int32} (hi : i < 10) (hj : j < 10) (ha : a < 10) (hb : b < 10) : upd (upd f (i * 10 + j) v) (j * 10 + i) v (a * 10 + b) = if (a = i ∧ b = j) ∨ (a = j ∧ b = i) then v else f (a * 10 + b) := by
  by_cases c1 : a * 10 + b = j * 10 + i
  · rw [c1, pk_us, if_pos (Or.inr (by omega))]
  · rw [pk_un c1]
    by_cases c2 : a * 10 + b = i * 10 + j
    · rw [c2, pk_us, if_pos (Or.inl (by omega))]
    · rw [pk_un c2, if_neg (by omega)]
theorem LB_lay {l lk : Nat → Int32} {i j : Nat} (hi : i < 10) (hj : j < 10) (hne : ¬ i = j) (h : LB l lk) : LB (upd (upd l i (l i ||| (nI 1 <<< (nI j &&& 31)))) j (upd l i (l i ||| (nI 1 <<< (nI j &&& 31))) j ||| (nI 1 <<< (nI i &&& 31)))) (upd (upd lk (i * 10 + j) 1) (j * 10 + i) 1) := by
  intro a b ha hb
  rw [upd_ij hi hj ha hb]
  by_cases c : a = j
  · subst c
    rw [pk_us, pk_un (fun h9 => hne h9.symm), b_or, shl1 (by omega) (by omega)]
    by_cases c2 : b = i
    · subst c2
      rw [if_pos (Or.inr ⟨rfl, rfl⟩), decide_eq_true rfl, Bool.or_true]; exact ⟨fun _ => rfl, fun _ => rfl⟩
    · rw [if_neg (by omega), decide_eq_false c2, Bool.or_false]; exact h a b ha hb
  · rw [pk_un c]
    by_cases c2 : a = i
    · subst c2
      rw [pk_us, b_or, shl1 (by omega) (by omega)]
      by_cases c3 : b = j
      · subst c3
        rw [if_pos (Or.inl ⟨rfl, rfl⟩), decide_eq_true rfl, Bool.or_true]; exact ⟨fun _ => rfl, fun _ => rfl⟩
      · rw [if_neg (by omega), decide_eq_false c3, Bool.or_false]; exact h a b ha hb
    · rw [pk_un c2, if_neg (by omega)]; exact h a b ha hb
theorem b_clr {x : Int32} {i j : Nat} (hj : j < 32) (hi : i < 32) : bt (x &&& ((nI 1 <<< (nI j &&& 31)) ^^^ (-1))) i = (bt x i && !decide (i = j)) := by
  rw [b_and, b_xor, shl1 hj hi, b_m1 i hi, Bool.xor_true]
theorem LB_cut {l lk : Nat → Int32} {i j : Nat} (hi : i < 10) (hj : j < 10) (hne : ¬ i = j) (h : LB l lk) : LB (upd (upd l i (l i &&& ((nI 1 <<< (nI j &&& 31)) ^^^ (-1)))) j (upd l i (l i &&& ((nI 1 <<< (nI j &&& 31)) ^^^ (-1))) j &&& ((nI 1 <<< (nI i &&& 31)) ^^^ (-1)))) (upd (upd lk (i * 10 + j) 0) (j * 10 + i) 0) := by
  have h01 : ∀ {P : Prop}, (false = true ↔ P) ↔ ¬ P := fun {P} => ⟨fun h p => (by cases h.mpr p), fun h => ⟨fun h9 => (by cases h9), fun h9 => absurd h9 h⟩⟩
  intro a b ha hb
  rw [upd_ij hi hj ha hb]
  by_cases c : a = j
  · subst c
    rw [pk_us, pk_un (fun h9 => hne h9.symm), b_clr (by omega) (by omega)]
    by_cases c2 : b = i
    · subst c2
      rw [if_pos (Or.inr ⟨rfl, rfl⟩), decide_eq_true rfl, Bool.not_true, Bool.and_false]; exact h01.mpr (by decide)
    · rw [if_neg (by omega), decide_eq_false c2, Bool.not_false, Bool.and_true]; exact h a b ha hb
  · rw [pk_un c]
    by_cases c2 : a = i
    · subst c2
      rw [pk_us, b_clr (by omega) (by omega)]
      by_cases c3 : b = j
      · subst c3
        rw [if_pos (Or.inl ⟨rfl, rfl⟩), decide_eq_true rfl, Bool.not_true, Bool.and_false]; exact h01.mpr (by decide)
      · rw [if_neg (by omega), decide_eq_false c3, Bool.not_false, Bool.and_true]; exact h a b ha hb
    · rw [pk_un c2, if_neg (by omega)]; exact h a b ha hb
/-! the law's clocks and domains -/
def LA (N : Nat) (a dom gr va dr : Nat → Int32) : Prop := ∀ i, i < N → a (4 * i) = dom i ∧ a (4 * i + 1) = gr i ∧ a (4 * i + 2) = va i ∧ a (4 * i + 3) = dr i
noncomputable def rkn (gr va : Nat → Int32) (i : Nat) : Nat := (rk gr va i).toNatClampNeg
theorem rkn_val {gr va : Nat → Int32} (hg : rng gr va) {i : Nat} (hi : i < 10) : rk gr va i = nI (rkn gr va i) ∧ rkn gr va i < 2562560 ∧ rkn gr va i % 10 = i ∧ ∃ x y : Nat, x ≤ 255 ∧ y ≤ 1000 ∧ gr i = nI x ∧ va i = nI y ∧ rkn gr va i = (x * 1001 + y) * 10 + i := by
  obtain ⟨a, b, ha, hb, ea, eb, er⟩ := rk_val hg hi
  have e : rkn gr va i = (a * 1001 + b) * 10 + i := by unfold rkn; rw [er, nI_clamp (by omega)]
  exact ⟨by rw [er, e], by omega, by omega, a, b, ha, hb, ea, eb, e⟩
theorem rkn_btr {gr va : Nat → Int32} (hg : rng gr va) {i j : Nat} (hi : i < 10) (hj : j < 10) : rkn gr va i < rkn gr va j ↔ btr gr va i j := by
  obtain ⟨e1, h1, -⟩ := rkn_val hg hi
  obtain ⟨e2, h2, -⟩ := rkn_val hg hj
  rw [← rk_btr hg hi hj, e1, e2, nI_ltI (by omega) (by omega)]
/-! what a node knows, as one number -/
def LK1 (K : KT) (v : Int64) (i b : Nat) : Prop := ∃ r s q : Nat, r < 2562560 ∧ s ≤ 9 ∧ q ≤ b ∧ (s = 0 → q = 0) ∧ K.1 i = nI (r % 10) ∧ K.2.1 i = nI r ∧ K.2.2.1 i = nI s ∧ K.2.2.2 i = nI q - 1 ∧ v = lN (r * 110 + s * 11 + q)
def LK (N : Nat) (K : KT) (k : Nat → Int64) : Prop := ∀ i, i < N → LK1 K (k i) i N
theorem LK1.congr {K K' : KT} {v : Int64} {i b : Nat} (h : LK1 K v i b) (e : selk K' i = selk K i) : LK1 K' v i b := by
  obtain ⟨e1, e2, e3, e4⟩ := selk_ext e
  obtain ⟨r, s, q, h1, h2, h3, h4, h5, h6, h7, h8, h9⟩ := h
  exact ⟨r, s, q, h1, h2, h3, h4, e1.trans h5, e2.trans h6, e3.trans h7, e4.trans h8, h9⟩
theorem LK1.wide {K : KT} {v : Int64} {i b b' : Nat} (h : LK1 K v i b) (hb : b ≤ b') : LK1 K v i b' := by
  obtain ⟨r, s, q, h1, h2, h3, h4⟩ := h
  exact ⟨r, s, q, h1, h2, Nat.le_trans h3 hb, h4⟩
theorem LK1_st {gr va : Nat → Int32} (hg : rng gr va) {K : KT} {i b : Nat} (hi : i < 10) : LK1 (kst K i (rk gr va i)) (lN (rkn gr va i * 110)) i b := by
  obtain ⟨e1, e2, e3, e4⟩ := kst_at (K := K) (i := i) (r := rk gr va i)
  obtain ⟨h1, h2, h3, -⟩ := rkn_val hg hi
  exact ⟨rkn gr va i, 0, 0, h2, by omega, by omega, fun _ => rfl, by rw [h3]; exact e1, e2.trans h1, e3, e4, congrArg lN (by omega)⟩
theorem nI_m1 {q : Nat} (hq : q ≤ 10) {j : Nat} (hj : j < 10) : nI q - 1 = nI j ↔ q = j + 1 := by
  cases q with
  | zero =>
    constructor
    · intro h
      exact absurd (show nI j = -1 from h.symm) (nI_ne_m1 (by omega))
    · intro h; omega
  | succ q =>
    rw [nI_pred, nI_eq (by omega) (by omega)]
    omega
theorem nI_m1_ge {q : Nat} (hq : q ≤ 10) : 0 ≤ nI q - 1 ↔ 1 ≤ q := by
  cases q with
  | zero => exact ⟨fun h => absurd h (by decide), fun h => by omega⟩
  | succ q =>
    rw [nI_pred]
    exact ⟨fun _ => by omega, fun _ => nI_pos' (by omega)⟩
/-- listening: the law's number keeps step -/
theorem LK1_lis {dom lk gr va : Nat → Int32} {N : Nat} {K : KT} {i t : Nat} {v w : Int64} (hN : N ≤ 10) (hi : i < N) (ht : t < N) (h : LK1 (klis dom lk (rk gr va i) K K i t) v i t) (hw : LK1 K w t N) :
    (klc dom lk K i t → ∀ r' s' q', w = lN (r' * 110 + s' * 11 + q') → r' < 2562560 → s' ≤ 9 → q' ≤ 10 → (lN (r' * 110 + (s' + 1) * 11 + (t + 1)) < v → LK1 (klis dom lk (rk gr va i) K K i (t + 1)) (lN (r' * 110 + (s' + 1) * 11 + (t + 1))) i (t + 1)) ∧ (¬ lN (r' * 110 + (s' + 1) * 11 + (t + 1)) < v → LK1 (klis dom lk (rk gr va i) K K i (t + 1)) v i (t + 1))) ∧
    (¬ klc dom lk K i t → LK1 (klis dom lk (rk gr va i) K K i (t + 1)) v i (t + 1)) := by
  obtain ⟨r, s, q, h1, h2, h3, h4, h5, h6, h7, h8, h9⟩ := id h
  refine ⟨fun c r' s' q' ew hr' hs' hq' => ?_, fun c => ?_⟩
  · obtain ⟨r1, s1, q1, g1, g2, g3, g4, g5, g6, g7, g8, g9⟩ := hw
    have e0 : r' * 110 + s' * 11 + q' = r1 * 110 + s1 * 11 + q1 := (pk_lEQ (by omega) (by omega)).mp (ew.symm.trans g9)
    have er : r' = r1 := by omega
    have es : s' = s1 := by omega
    subst er; subst es
    have hs9 : s' < 9 := by
      have h10 := c.2.1
      rw [g7] at h10
      exact (nI_ltI (b := 9) (by omega) (by decide)).mp h10
    have hc : ktc (klis dom lk (rk gr va i) K K i t) K i t ↔ (r' < r ∨ r' = r ∧ s' + 1 < s) := by
      unfold ktc
      rw [g6, g7, h6, h7, nI_1, nI_ltI (by omega) (by omega), nI_eq (by omega) (by omega), nI_ltI (by omega) (by omega)]
    rw [h9, pk_lLT (by omega) (by omega)]
    constructor
    · intro hlt
      have hk : ktc (klis dom lk (rk gr va i) K K i t) K i t := hc.mpr (by omega)
      obtain ⟨e1, e2, e3, e4⟩ := ktk_at hk
      rw [klis_t c]
      exact ⟨r', s' + 1, t + 1, hr', by omega, Nat.le_refl _, fun h10 => by omega, e1.trans g5, e2.trans g6, e3.trans (by rw [g7, nI_1]), e4.trans (nI_pred t).symm, rfl⟩
    · intro hlt
      rw [klis_t c, ktk_no (fun h10 => hlt (by have h11 := hc.mp h10; omega)), ← h9]
      exact h.wide (by omega)
  · rw [klis_f c]
    exact h.wide (by omega)
/-! reached: a set of bits -/
def SB (N : Nat) (P : Nat → Prop) (r : Int32) : Prop := ∀ j, j < N → (bt r j = true ↔ P j)
theorem SB_1 {N s : Nat} (hN : N ≤ 10) (hs : s < N) {dom lk : Nat → Int32} : SB N (rch N dom lk s 0) (nI 1 <<< (nI s &&& 31)) := by
  intro j hj
  rw [shl1 (by omega) (by omega), decide_eq_true_eq]
  exact Iff.rfl
theorem SB_or {N : Nat} {P P' : Nat → Prop} {x y : Int32} (h : SB N P x) (h' : SB N P' y) : SB N (fun j => P j ∨ P' j) (x ||| y) := by
  intro j hj
  rw [b_or, Bool.or_eq_true, h j hj, h' j hj]
theorem SB_0 {N : Nat} {P : Nat → Prop} (h : ∀ j, ¬ P j) : SB N P (nI 0) := by
  intro j hj
  show bt 0 j = true ↔ _
  rw [b_0]
  exact ⟨fun h9 => (by cases h9), fun h9 => absurd h9 (h j)⟩
theorem SB.to {N : Nat} {P P' : Nat → Prop} {x : Int32} (h : SB N P x) (e : ∀ j, j < N → (P j ↔ P' j)) : SB N P' x := fun j hj => (h j hj).trans (e j hj)
/-- what the pairs below q give -/
def mor (N : Nat) (dom lk : Nat → Int32) (s d q j : Nat) : Prop := ∃ z, z < q ∧ rch N dom lk s d (z / N) ∧ nb dom lk (z / N) (z % N) ∧ z % N = j
theorem mor_0 {N s d j : Nat} {dom lk : Nat → Int32} : ¬ mor N dom lk s d 0 j := fun ⟨_, h, _⟩ => absurd h (Nat.not_lt_zero _)
theorem mor_yes {N s d q : Nat} {dom lk : Nat → Int32} {x : Int32} (hN : N ≤ 10) (hN0 : 0 < N) (h : SB N (mor N dom lk s d q) x) (hr : rch N dom lk s d (q / N)) (hn : nb dom lk (q / N) (q % N)) : SB N (mor N dom lk s d (q + 1)) (x ||| (nI 1 <<< (nI (q % N) &&& 31))) := by
  have hm := Nat.mod_lt q hN0
  intro j hj
  rw [b_or, shl1 (by omega) (by omega), Bool.or_eq_true, h j hj, decide_eq_true_eq]
  constructor
  · rintro (⟨z, h1, h2⟩ | h1)
    · exact ⟨z, by omega, h2⟩
    · exact ⟨q, Nat.lt_succ_self _, hr, hn, h1.symm⟩
  · rintro ⟨z, h1, h2, h3, h4⟩
    by_cases e : z = q
    · subst e; exact Or.inr h4.symm
    · exact Or.inl ⟨z, by omega, h2, h3, h4⟩
theorem mor_no {N s d q : Nat} {dom lk : Nat → Int32} {x : Int32} (h : SB N (mor N dom lk s d q) x) (hn : ¬ (rch N dom lk s d (q / N) ∧ nb dom lk (q / N) (q % N))) : SB N (mor N dom lk s d (q + 1)) (x ||| nI 0) := by
  intro j hj
  rw [b_or, show bt (nI 0) j = false from b_0 j, Bool.or_false, h j hj]
  constructor
  · rintro ⟨z, h1, h2⟩
    exact ⟨z, by omega, h2⟩
  · rintro ⟨z, h1, h2, h3, h4⟩
    by_cases e : z = q
    · subst e; exact absurd ⟨h2, h3⟩ hn
    · exact ⟨z, by omega, h2, h3, h4⟩
theorem mor_all {N s d j : Nat} {dom lk : Nat → Int32} (hN0 : 0 < N) (hj : j < N) : (rch N dom lk s d j ∨ mor N dom lk s d (N * N) j) ↔ rch N dom lk s (d + 1) j := by
  constructor
  · rintro (h | ⟨z, h1, h2, h3, h4⟩)
    · exact Or.inl h
    · exact Or.inr ⟨z / N, Nat.div_lt_of_lt_mul h1, h2, h4 ▸ h3⟩
  · rintro (h | ⟨i, h1, h2, h3⟩)
    · exact Or.inl h
    · have e1 : (N * i + j) / N = i := by rw [Nat.mul_add_div hN0, Nat.div_eq_of_lt hj, Nat.add_zero]
      have e2 : (N * i + j) % N = j := by rw [Nat.mul_add_mod, Nat.mod_eq_of_lt hj]
      refine Or.inr ⟨N * i + j, ?_, by rw [e1]; exact h2, by rw [e1, e2]; exact h3, e2⟩
      have h4 : N * (i + 1) ≤ N * N := Nat.mul_le_mul_left N h1
      rw [Nat.mul_add, Nat.mul_one] at h4
      omega
/-- reached at all, as distances are: 0 or none -/
noncomputable def fr (N : Nat) (dom lk : Nat → Int32) (s : Nat) : Nat → Int32 := fun j => @ite Int32 (rch N dom lk s 9 j) (Classical.propDecidable _) 0 (-1)
theorem fr_m1 {N s j : Nat} {dom lk : Nat → Int32} : fr N dom lk s j = -1 ↔ ¬ rch N dom lk s 9 j := by
  unfold fr
  by_cases c : rch N dom lk s 9 j
  · rw [@if_pos _ (Classical.propDecidable _) c]
    exact ⟨fun h => absurd h (by decide), fun h => absurd c h⟩
  · rw [@if_neg _ (Classical.propDecidable _) c]
    exact ⟨fun _ => c, fun _ => rfl⟩
theorem fr_self {N s : Nat} {dom lk : Nat → Int32} : ¬ fr N dom lk s s = -1 := fun h => fr_m1.mp h (rch_le (d := 0) (by omega) rfl)
theorem dist_m1 {N s j : Nat} {dom lk f : Nat → Int32} (hN : N ≤ 10) (hj : j < N) (h : isDist N dom lk s f) : f j = -1 ↔ fr N dom lk s j = -1 := by
  rw [fr_m1]
  rcases h j hj with ⟨h1, h2⟩ | ⟨k, h1, h2, h3, h4⟩
  · exact ⟨fun _ => h2 9, fun _ => h1⟩
  · rw [h2]
    exact ⟨fun h9 => absurd h9 (nI_ne_m1 (by omega)), fun h9 => absurd (rch_le (by omega) h3) h9⟩
/-- the law's best and far are the graph's -/
theorem best_far {N i w k : Nat} {dom lk gr va : Nat → Int32} (hN : N ≤ 10) (hb : isBest N gr va (fr N dom lk i) w) (hk : rch N dom lk i k w) (hm : ∀ k', k' < k → ¬ rch N dom lk i k' w) {w' : Nat} {d : Int32} (hg : rng gr va) (h : bestBy N dom lk gr va i w' d) : w' = w ∧ d = nI k := by
  obtain ⟨f, h1, h2, h3⟩ := h
  obtain ⟨g1, g2, g3⟩ := id h2
  have hb' : isBest N gr va (fr N dom lk i) w' := ⟨g1, fun h9 => g2 ((dist_m1 hN g1 h1).mpr h9), fun j hj h9 => g3 j hj (fun h8 => h9 ((dist_m1 hN hj h1).mp h8))⟩
  obtain rfl := isBest_uniq hN hg (fun _ _ => rfl) hb' hb
  refine ⟨rfl, ?_⟩
  rcases h1 w' g1 with ⟨e1, -⟩ | ⟨k2, e1, e2, e3, e4⟩
  · exact absurd e1 g2
  · rw [← h3, e2]
    rcases Nat.lt_trichotomy k k2 with c | c | c
    · exact absurd hk (e4 k c)
    · rw [c]
    · exact absurd e3 (hm k2 c)
/-! delays and told differences: one place for a pair -/
def prn (i j : Nat) : Nat := if j < i then i * (i - 1) / 2 + j else j * (j - 1) / 2 + i
theorem prn_sym : ∀ i, i < 10 → ∀ j, j < 10 → prn i j = prn j i := by decide +kernel
theorem prn_lt : ∀ i, i < 10 → ∀ j, j < 10 → ¬ i = j → prn i j < 45 := by decide +kernel
theorem prn_tri : ∀ j, j < 10 → ∀ b, b < j → b * (b - 1) / 2 + b ≤ j * (j - 1) / 2 := by decide +kernel
theorem prn_hi {i j : Nat} (h : i < j) : prn i j = j * (j - 1) / 2 + i := by unfold prn; rw [if_neg (by omega)]
theorem prn_inj (i : Nat) (_ : i < 10) (j : Nat) (hj : j < 10) (a : Nat) (_ : a < 10) (b : Nat) (hb : b < 10) (h1 : i < j) (h2 : a < b) (e : prn i j = prn a b) : i = a ∧ j = b := by
  rw [prn_hi h1, prn_hi h2] at e
  rcases Nat.lt_trichotomy j b with c | c | c
  · have h3 := prn_tri b hb j c
    omega
  · subst c
    omega
  · have h3 := prn_tri j hj b c
    omega
def LY (y : Nat → Int64) (dl : Nat → Int32) : Prop := ∀ i j, i < 10 → j < 10 → i < j → ∃ u v : Nat, u ≤ 100000 ∧ v ≤ 100000 ∧ dl (i * 10 + j) = nI u ∧ dl (j * 10 + i) = nI v ∧ y (prn i j) = lN (u * 100001 + v)
def LT (t td : Nat → Int32) : Prop := ∀ i j, i < 10 → j < 10 → i < j → t (prn i j) = td (i * 10 + j) ∧ td (j * 10 + i) = -td (i * 10 + j)
theorem LY_0 : LY (fun _ => 0) (fun _ => 0) := fun i j _ _ _ => ⟨0, 0, by omega, by omega, rfl, rfl, rfl⟩
theorem LT_0 : LT (fun _ => 0) (fun _ => 0) := fun i j _ _ _ => ⟨rfl, show (0 : Int32) = -0 from by decide⟩
theorem upd2 {f : Nat → Int32} {i j a b : Nat} {v w : Int32} (hi : i < 10) (hj : j < 10) (ha : a < 10) (hb : b < 10) (hij : ¬ i = j) : upd (upd f (i * 10 + j) v) (j * 10 + i) w (a * 10 + b) = if a = i ∧ b = j then v else if a = j ∧ b = i then w else f (a * 10 + b) := by
  by_cases c1 : a * 10 + b = j * 10 + i
  · rw [c1, pk_us, if_neg (by omega), if_pos (by omega)]
  · rw [pk_un c1]
    by_cases c2 : a * 10 + b = i * 10 + j
    · rw [c2, pk_us, if_pos (by omega)]
    · rw [pk_un c2, if_neg (by omega), if_neg (by omega)]
/-- a link is laid: from the lower to the higher number u, back v -/
theorem LY_lay {y : Nat → Int64} {dl : Nat → Int32} {i j u v : Nat} (hi : i < 10) (hj : j < 10) (hne : ¬ i = j) (hu : u ≤ 100000) (hv : v ≤ 100000) (h : LY y dl) : LY (vp_updL y (prn i j) (lN (if i < j then u * 100001 + v else v * 100001 + u))) (upd (upd dl (i * 10 + j) (nI u)) (j * 10 + i) (nI v)) := by
  intro a b ha hb hab
  rw [upd2 hi hj ha hb hne, upd2 hi hj hb ha hne]
  rcases Nat.lt_or_ge i j with c | c
  · rw [if_pos c]
    by_cases e : a = i ∧ b = j
    · rw [if_pos e, if_neg (show ¬ (b = i ∧ a = j) by omega), if_pos (show b = j ∧ a = i from ⟨e.2, e.1⟩), e.1, e.2, pk_uLs]
      exact ⟨u, v, hu, hv, rfl, rfl, rfl⟩
    · rw [if_neg e, if_neg (show ¬ (a = j ∧ b = i) by omega), if_neg (show ¬ (b = i ∧ a = j) by omega), if_neg (show ¬ (b = j ∧ a = i) from fun h9 => e ⟨h9.2, h9.1⟩), pk_uLn (fun h9 => e (prn_inj a ha b hb i hi j hj hab c h9))]
      exact h a b ha hb hab
  · have c' : j < i := by omega
    rw [if_neg (show ¬ i < j by omega), prn_sym i hi j hj]
    by_cases e : a = j ∧ b = i
    · rw [if_neg (show ¬ (a = i ∧ b = j) by omega), if_pos e, if_pos (show b = i ∧ a = j from ⟨e.2, e.1⟩), e.1, e.2, pk_uLs]
      exact ⟨v, u, hv, hu, rfl, rfl, rfl⟩
    · rw [if_neg (show ¬ (a = i ∧ b = j) by omega), if_neg e, if_neg (show ¬ (b = i ∧ a = j) from fun h9 => e ⟨h9.2, h9.1⟩), if_neg (show ¬ (b = j ∧ a = i) by omega), pk_uLn (fun h9 => e (prn_inj a ha b hb j hj i hi hab c' h9))]
      exact h a b ha hb hab
theorem neg_neg32 (x : Int32) : - -x = x := Int32.neg_neg
/-- a difference is told -/
theorem LT_tell {t td : Nat → Int32} {i j : Nat} {d : Int32} (hi : i < 10) (hj : j < 10) (hne : ¬ i = j) (h : LT t td) : LT (upd t (prn i j) (if i < j then d else -d)) (upd (upd td (i * 10 + j) d) (j * 10 + i) (-d)) := by
  intro a b ha hb hab
  rw [upd2 hi hj ha hb hne, upd2 hi hj hb ha hne]
  rcases Nat.lt_or_ge i j with c | c
  · rw [if_pos c]
    by_cases e : a = i ∧ b = j
    · rw [if_pos e, if_neg (show ¬ (b = i ∧ a = j) by omega), if_pos (show b = j ∧ a = i from ⟨e.2, e.1⟩), e.1, e.2, pk_us]
      exact ⟨rfl, rfl⟩
    · rw [if_neg e, if_neg (show ¬ (a = j ∧ b = i) by omega), if_neg (show ¬ (b = i ∧ a = j) by omega), if_neg (show ¬ (b = j ∧ a = i) from fun h9 => e ⟨h9.2, h9.1⟩), pk_un (fun h9 => e (prn_inj a ha b hb i hi j hj hab c h9))]
      exact h a b ha hb hab
  · have c' : j < i := by omega
    rw [if_neg (show ¬ i < j by omega), prn_sym i hi j hj]
    by_cases e : a = j ∧ b = i
    · rw [if_neg (show ¬ (a = i ∧ b = j) by omega), if_pos e, if_pos (show b = i ∧ a = j from ⟨e.2, e.1⟩), e.1, e.2, pk_us]
      exact ⟨rfl, (neg_neg32 d).symm⟩
    · rw [if_neg (show ¬ (a = i ∧ b = j) by omega), if_neg e, if_neg (show ¬ (b = i ∧ a = j) from fun h9 => e ⟨h9.2, h9.1⟩), if_neg (show ¬ (b = j ∧ a = i) by omega), pk_un (fun h9 => e (prn_inj a ha b hb j hj i hi hab c' h9))]
      exact h a b ha hb hab
/-! offsets and rates -/
def LO (o off rt : Nat → Int64) : Prop := ∀ i, i < 10 → o i = off i ∧ o (10 + i) = rt i
theorem LO_0 : LO (fun _ => 0) (fun _ => 0) (fun _ => 0) := fun _ _ => ⟨rfl, rfl⟩
theorem LO_off {o off rt : Nat → Int64} {i : Nat} {x : Int64} (hi : i < 10) (h : LO o off rt) : LO (vp_updL o i x) (vp_updL off i x) rt := by
  intro j hj
  refine ⟨?_, (pk_uLn (by omega)).trans (h j hj).2⟩
  by_cases e : j = i
  · subst e; rw [pk_uLs, pk_uLs]
  · rw [pk_uLn e, pk_uLn e]; exact (h j hj).1
theorem LO_rt {o off rt : Nat → Int64} {i : Nat} {x : Int64} (hi : i < 10) (h : LO o off rt) : LO (vp_updL o (10 + i) x) off (vp_updL rt i x) := by
  intro j hj
  refine ⟨(pk_uLn (by omega)).trans (h j hj).1, ?_⟩
  by_cases e : j = i
  · subst e; rw [pk_uLs, pk_uLs]
  · rw [pk_uLn (by omega), pk_uLn e]; exact (h j hj).2
/-! steering by places -/
def lst (N : Nat) (S P dl td : Nat → Int32) (o : OR) : Nat → Nat → OR
  | 0, _ => o
  | d + 1, i => stN N S P dl td (d + 1) (stD N S P dl td o d) (if i < N then i else N)
theorem lst_0 {N d : Nat} {S P dl td : Nat → Int32} {o : OR} : lst N S P dl td o d 0 = stD N S P dl td o (d - 1) := by
  cases d with
  | zero => rfl
  | succ d =>
    show stN N S P dl td (d + 1) (stD N S P dl td o d) (if 0 < N then 0 else N) = _
    have e : (if 0 < N then 0 else N) = 0 := by
      by_cases c : 0 < N
      · rw [if_pos c]
      · rw [if_neg c]; omega
    rw [e]; rfl
theorem lst_10 {N d : Nat} {S P dl td : Nat → Int32} {o : OR} (hN : N ≤ 10) : lst N S P dl td o d 10 = stD N S P dl td o d := by
  cases d with
  | zero => rfl
  | succ d =>
    show stN N S P dl td (d + 1) (stD N S P dl td o d) (if 10 < N then 10 else N) = _
    rw [if_neg (by omega)]; rfl
theorem lst_next {N z : Nat} {S P dl td : Nat → Int32} {o : OR} (hN : N ≤ 10) : lst N S P dl td o ((z + 1) / 10) ((z + 1) % 10) = lst N S P dl td o (z / 10) (z % 10 + 1) := by
  by_cases c : z % 10 = 9
  · have e1 : (z + 1) / 10 = z / 10 + 1 := by omega
    have e2 : (z + 1) % 10 = 0 := by omega
    rw [e1, e2, c, lst_0, lst_10 hN, Nat.add_sub_cancel]
  · have e1 : (z + 1) / 10 = z / 10 := by omega
    have e2 : (z + 1) % 10 = z % 10 + 1 := by omega
    rw [e1, e2]
/-- a node that isn't steered at this place -/
theorem lst_skip {N d i : Nat} {S P dl td : Nat → Int32} {o : OR} (hN : N ≤ 10) (h : ¬ i < N ∨ ¬ S i = nI d ∨ P i = -1 ∨ d = 0) : lst N S P dl td o d (i + 1) = lst N S P dl td o d i := by
  cases d with
  | zero => rfl
  | succ d =>
    show stN N S P dl td (d + 1) (stD N S P dl td o d) (if i + 1 < N then i + 1 else N) = stN N S P dl td (d + 1) (stD N S P dl td o d) (if i < N then i else N)
    by_cases c : i < N
    · have e : (if i + 1 < N then i + 1 else N) = i + 1 := by
        by_cases c2 : i + 1 < N
        · rw [if_pos c2]
        · rw [if_neg c2]; omega
      rw [e, if_pos c]
      rcases h with h | h | h | h
      · exact absurd c h
      · exact stN_skip hN (Or.inr h)
      · exact stN_skip hN (Or.inl h)
      · omega
    · rw [if_neg c, if_neg (by omega)]
theorem lst_take {N d i q : Nat} {S P dl td : Nat → Int32} {o : OR} (hN : N ≤ 10) (hi : i < N) (hq : q < N) (hd : 0 < d) (hs : S i = nI d) (hp : P i = nI q) : lst N S P dl td o d (i + 1) = stq dl td (lst N S P dl td o d i) q i := by
  cases d with
  | zero => omega
  | succ d =>
    show stN N S P dl td (d + 1) (stD N S P dl td o d) (if i + 1 < N then i + 1 else N) = stq dl td (stN N S P dl td (d + 1) (stD N S P dl td o d) (if i < N then i else N)) q i
    have e : (if i + 1 < N then i + 1 else N) = i + 1 := by
      by_cases c2 : i + 1 < N
      · rw [if_pos c2]
      · rw [if_neg c2]; omega
    rw [e, if_pos hi]
    exact stN_take hN hq hp hs
/-! the spread -/
def spf (dom : Nat → Int32) (off : Nat → Int64) (x : Int32) : Nat → Nat × Int64 × Int64
  | 0 => (0, 0, 0)
  | k + 1 => if dom k = x then ((spf dom off x k).1 + 1, if (spf dom off x k).1 = 0 ∨ off k < (spf dom off x k).2.1 then off k else (spf dom off x k).2.1, if (spf dom off x k).1 = 0 ∨ (spf dom off x k).2.2 < off k then off k else (spf dom off x k).2.2) else spf dom off x k
def sprd (dom : Nat → Int32) (off : Nat → Int64) (x : Int32) (N : Nat) : Int64 := (spf dom off x N).2.2 - (spf dom off x N).2.1
theorem spf_t {dom : Nat → Int32} {off : Nat → Int64} {x : Int32} {k c : Nat} {lo hi : Int64} (h : spf dom off x k = (c, lo, hi)) (e : dom k = x) {lo' hi' : Int64} (h1 : (c = 0 ∨ off k < lo) ∧ lo' = off k ∨ ¬ (c = 0 ∨ off k < lo) ∧ lo' = lo) (h2 : (c = 0 ∨ hi < off k) ∧ hi' = off k ∨ ¬ (c = 0 ∨ hi < off k) ∧ hi' = hi) : spf dom off x (k + 1) = (c + 1, lo', hi') := by
  simp only [spf, h]
  rw [if_pos e]
  rcases h1 with ⟨a, rfl⟩ | ⟨a, rfl⟩ <;> rcases h2 with ⟨b, rfl⟩ | ⟨b, rfl⟩
  · rw [if_pos a, if_pos b]
  · rw [if_pos a, if_neg b]
  · rw [if_neg a, if_pos b]
  · rw [if_neg a, if_neg b]
theorem spf_f {dom : Nat → Int32} {off : Nat → Int64} {x : Int32} {k : Nat} (e : ¬ dom k = x) : spf dom off x (k + 1) = spf dom off x k := if_neg e
theorem spf_le {dom : Nat → Int32} {off : Nat → Int64} {x : Int32} : ∀ k, (spf dom off x k).1 ≤ k := by
  intro k
  induction k with
  | zero => exact Nat.le_refl _
  | succ k ih =>
    by_cases c : dom k = x
    · simp only [spf]
      rw [if_pos c]
      show (spf dom off x k).1 + 1 ≤ k + 1
      omega
    · rw [spf_f c]; omega
