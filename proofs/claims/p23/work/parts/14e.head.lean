theorem ex1_no {E n : String} {P : Prop} (h : ex1 E n P) (hp : P) : False := h.2 hp
theorem ex2_no {E n1 n2 : String} {P1 P2 : Prop} (h : ex2 E n1 n2 P1 P2) (h1 : P1) (h2 : P2) : False := h.elim (fun h9 => h9.2 h1) (fun h9 => h9.2.2 h2)
theorem inR_n {a b : Nat} (hb : b < 2 ^ 31) (h : a ≤ b) : inR 0 (nI a) (nI b) := ⟨nI_pos' (by omega), (nI_leI (by omega) hb).mpr h⟩
theorem inR_dm {a : Nat} (h : a < 2) : inR 0 (nI a) 1 := inR_n (b := 1) (by decide) (by omega)
theorem bP_uniq {r r' : Int32} {P : Prop} (h : bP r P) (h' : bP r' P) : r' = r := by
  rcases h with ⟨rfl, h⟩ | ⟨rfl, h⟩ <;> rcases h' with ⟨rfl, h'⟩ | ⟨rfl, h'⟩ <;> first | rfl | exact absurd ‹P› ‹¬ P›
theorem bP.z {r : Int32} {P : Prop} (h : bP r P) (e : r = 0) : ¬ P := h.elim (fun h9 => absurd (h9.1.symm.trans e) (by decide)) And.right
theorem bP.nz {r : Int32} {P : Prop} (h : bP r P) (e : ¬ r = 0) : P := h.elim And.right (fun h9 => absurd h9.1 e)
/-- how many places of the matrix are taken -/
def cl (lk : Nat → Int32) : Nat → Nat
  | 0 => 0
  | k + 1 => cl lk k + if lk k = 1 then 1 else 0
/-- the law's net is the class's -/
def JV (N : Nat) (tk : Int32) (dom gr va dr : Nat → Int32) (off rt : Nat → Int64) (cnt : Int32) (lk dl td : Nat → Int32) (K : KT) (nn aa ll : Nat → Int32) (yy : Nat → Int64) (tt : Nat → Int32) (kk oo : Nat → Int64) : Prop :=
  N ≤ 10 ∧ rng gr va ∧ b01 lk ∧ (∀ i, i < 10 → ¬ lk (i * 10 + i) = 1) ∧ sym lk ∧ nn 0 = nI N ∧ nn 1 = cnt ∧ nn 2 = tk ∧ LA N aa dom gr va dr ∧ LB ll lk ∧ LY yy dl ∧ LT tt td ∧ LK N K kk ∧ LO oo off rt ∧ ∃ C, C ≤ 50 ∧ cnt = nI C ∧ cl lk 100 = 2 * C
theorem fr_in {N s j : Nat} {dom lk : Nat → Int32} (h : ¬ fr N dom lk s j = -1) : rch N dom lk s 9 j := by
  refine Classical.byContradiction (fun h9 => h (fr_m1.mpr h9))
