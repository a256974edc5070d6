/-! the pure picture: what the methods do, in functions and relations of natural numbers -/
theorem nI_max {a : Nat} (h : a ≤ 10) : a < 2 ^ 31 := Nat.lt_of_le_of_lt h (by decide)
/-- x is the number of a node -/
def okN (N : Nat) (x : Int32) : Prop := ∃ i, i < N ∧ x = nI i
theorem okN_of {N : Nat} {x : Int32} (hN : N ≤ 10) (h0 : ¬ x < 0) (h1 : x < nI N) : okN N x := by
  obtain ⟨j, hj, rfl⟩ := nI_of h0
  exact ⟨j, (nI_ltI hj (nI_max hN)).mp h1, rfl⟩
theorem okN_no0 {N : Nat} {x : Int32} (hN : N ≤ 10) (h0 : x < 0) : ¬ okN N x := by
  rintro ⟨i, hi, rfl⟩
  exact nI_pos (Nat.lt_trans hi (nI_max hN)) h0
theorem okN_no1 {N : Nat} {x : Int32} (hN : N ≤ 10) (h1 : nI N ≤ x) : ¬ okN N x := by
  rintro ⟨i, hi, rfl⟩
  exact nI_ge hi (nI_max hN) h1
def bP (r : Int32) (P : Prop) : Prop := (r = 1 ∧ P) ∨ (r = 0 ∧ ¬ P)
theorem bP.b {r : Int32} {P : Prop} (h : bP r P) : r = 0 ∨ r = 1 := h.elim (fun h => Or.inr h.1) (fun h => Or.inl h.1)
theorem bP.iff {r : Int32} {P P' : Prop} (h : bP r P) (e : P ↔ P') : bP r P' := h.imp (fun h => ⟨h.1, e.mp h.2⟩) (fun h => ⟨h.1, fun h9 => h.2 (e.mpr h9)⟩)
theorem bP.t {P : Prop} (h : P) : bP 1 P := Or.inl ⟨rfl, h⟩
theorem bP.f {P : Prop} (h : ¬ P) : bP 0 P := Or.inr ⟨rfl, h⟩
def b01 (f : Nat → Int32) : Prop := ∀ k, f k = 0 ∨ f k = 1
/-- a place of the matrix -/
theorem ix_mul (i j : Nat) : nI i * 10 + nI j = nI (i * 10 + j) := by
  rw [show (10 : Int32) = nI 10 from rfl, pk_mul, nI_add]
theorem ix_mul' (i j : Nat) : 10 * nI i + nI j = nI (i * 10 + j) := by
  rw [show (10 : Int32) = nI 10 from rfl, pk_mul, nI_add, Nat.mul_comm]
theorem ix_lt {i j N : Nat} (hN : N ≤ 10) (hi : i < N) (hj : j < N) : i * 10 + j < 100 := by omega
abbrev nb (dom lk : Nat → Int32) (i j : Nat) : Prop := dom i = dom j ∧ lk (i * 10 + j) = 1
def rk (gr va : Nat → Int32) (i : Nat) : Int32 := (gr i * 1001 + va i) * 10 + nI i
def kst (K : KT) (i : Nat) (r : Int32) : KT := (upd K.1 i (nI i), upd K.2.1 i r, upd K.2.2.1 i 0, upd K.2.2.2 i (-1))
abbrev ktc (K E : KT) (i t : Nat) : Prop := E.2.1 t < K.2.1 i ∨ E.2.1 t = K.2.1 i ∧ E.2.2.1 t + 1 < K.2.2.1 i
def ktk (K E : KT) (i t : Nat) : KT := if ktc K E i t then (upd K.1 i (E.1 t), upd K.2.1 i (E.2.1 t), upd K.2.2.1 i (E.2.2.1 t + 1), upd K.2.2.2 i (nI t)) else K
def kfp (gr va : Nat → Int32) (K : KT) (i j : Nat) : KT := if K.2.2.2 i = nI j then kst K i (rk gr va i) else K
abbrev klc (dom lk : Nat → Int32) (E : KT) (i t : Nat) : Prop := nb dom lk i t ∧ (E.2.2.1 t < 9 ∧ ¬ E.2.2.2 t = nI i)
def klis (dom lk : Nat → Int32) (r : Int32) (K E : KT) (i : Nat) : Nat → KT
  | 0 => kst K i r
  | t + 1 => if klc dom lk E i t then ktk (klis dom lk r K E i t) E i t else klis dom lk r K E i t
def kann (dom lk gr va : Nat → Int32) (N : Nat) (K E : KT) : Nat → KT
  | 0 => K
  | i + 1 => klis dom lk (rk gr va i) (kann dom lk gr va N K E i) E i N
theorem klis_t {dom lk : Nat → Int32} {r : Int32} {K E : KT} {i t : Nat} (h : klc dom lk E i t) : klis dom lk r K E i (t + 1) = ktk (klis dom lk r K E i t) E i t := if_pos h
theorem klis_f {dom lk : Nat → Int32} {r : Int32} {K E : KT} {i t : Nat} (h : ¬ klc dom lk E i t) : klis dom lk r K E i (t + 1) = klis dom lk r K E i t := if_neg h
/-- the five rows of the reference -/
def mst (K : KM) (gr va : Nat → Int32) (i : Nat) : KM := (upd K.1 i (nI i), upd K.2.1 i (gr i), upd K.2.2.1 i (va i), upd K.2.2.2.1 i 0, upd K.2.2.2.2 i (-1))
abbrev mbt (K X : KM) (t i : Nat) : Prop := K.2.1 t < X.2.1 i ∨ K.2.1 t = X.2.1 i ∧ (K.2.2.1 t < X.2.2.1 i ∨ K.2.2.1 t = X.2.2.1 i ∧ (K.1 t < X.1 i ∨ K.1 t = X.1 i ∧ K.2.2.2.1 t + 1 < X.2.2.2.1 i))
def mtk (K X : KM) (i t : Nat) : KM := (upd X.1 i (K.1 t), upd X.2.1 i (K.2.1 t), upd X.2.2.1 i (K.2.2.1 t), upd X.2.2.2.1 i (K.2.2.2.1 t + 1), upd X.2.2.2.2 i (nI t))
abbrev mlc (dom lk : Nat → Int32) (K : KM) (i t : Nat) : Prop := nb dom lk i t ∧ (K.2.2.2.1 t < 9 ∧ ¬ K.2.2.2.2 t = nI i)
def mlis (dom lk gr va : Nat → Int32) (K X : KM) (i : Nat) : Nat → KM
  | 0 => mst X gr va i
  | t + 1 => if mlc dom lk K i t ∧ mbt K (mlis dom lk gr va K X i t) t i then mtk K (mlis dom lk gr va K X i t) i t else mlis dom lk gr va K X i t
def mann (dom lk gr va : Nat → Int32) (N : Nat) (K X : KM) : Nat → KM
  | 0 => X
  | i + 1 => mlis dom lk gr va K (mann dom lk gr va N K X i) i N
/-- the reference's copying back -/
def mcp (K X : KM) : Nat → KM
  | 0 => K
  | i + 1 => (upd (mcp K X i).1 i (X.1 i), upd (mcp K X i).2.1 i (X.2.1 i), upd (mcp K X i).2.2.1 i (X.2.2.1 i), upd (mcp K X i).2.2.2.1 i (X.2.2.2.1 i), upd (mcp K X i).2.2.2.2 i (X.2.2.2.2 i))
/-- reached over at most d links -/
def rch (N : Nat) (dom lk : Nat → Int32) (s : Nat) : Nat → Nat → Prop
  | 0, j => j = s
  | d + 1, j => rch N dom lk s d j ∨ ∃ i, i < N ∧ rch N dom lk s d i ∧ nb dom lk i j
/-- the distances up to d are laid -/
def isLev (N : Nat) (dom lk : Nat → Int32) (s d : Nat) (f : Nat → Int32) : Prop := ∀ j, j < N → (f j = -1 ∧ ¬ rch N dom lk s d j) ∨ ∃ k, k ≤ d ∧ f j = nI k ∧ rch N dom lk s k j ∧ ∀ k', k' < k → ¬ rch N dom lk s k' j
/-- all distances are laid -/
def isDist (N : Nat) (dom lk : Nat → Int32) (s : Nat) (f : Nat → Int32) : Prop := ∀ j, j < N → (f j = -1 ∧ ∀ k, ¬ rch N dom lk s k j) ∨ ∃ k, k < N ∧ f j = nI k ∧ rch N dom lk s k j ∧ ∀ k', k' < k → ¬ rch N dom lk s k' j
/-- the better clock -/
def btr (gr va : Nat → Int32) (i j : Nat) : Prop := gr i < gr j ∨ gr i = gr j ∧ (va i < va j ∨ va i = va j ∧ i < j)
/-- the best of those that are reached -/
def isBest (N : Nat) (gr va f : Nat → Int32) (w : Nat) : Prop := w < N ∧ ¬ f w = -1 ∧ ∀ j, j < N → ¬ f j = -1 → ¬ btr gr va j w
def bestBy (N : Nat) (dom lk gr va : Nat → Int32) (i w : Nat) (d : Int32) : Prop := ∃ f, isDist N dom lk i f ∧ isBest N gr va f w ∧ f w = d
/-- the ranges of classes and variances -/
def rng (gr va : Nat → Int32) : Prop := ∀ i, (∃ a, a ≤ 255 ∧ gr i = nI a) ∧ ∃ b, b ≤ 1000 ∧ va i = nI b
/-- the error of a link, what is measured, a node's steering -/
def lerr (dl td : Nat → Int32) (q i : Nat) : Int32 := (dl (q * 10 + i) - dl (i * 10 + q) - td (q * 10 + i)) / 2
def lmea (dl td : Nat → Int32) (off : Nat → Int64) (q i : Nat) : Int64 := off i - off q + (lerr dl td q i).toInt64
abbrev OR : Type := (Nat → Int64) × (Nat → Int64)
def stq (dl td : Nat → Int32) (o : OR) (q i : Nat) : OR := (vp_updL o.1 i (o.1 i - lmea dl td o.1 q i / 2), vp_updL o.2 i (o.2 i - lmea dl td o.1 q i / 16))
def stf (N : Nat) (P dl td : Nat → Int32) (o : OR) (i : Nat) : OR := if 0 ≤ P i ∧ P i < nI N then stq dl td o (P i).toNatClampNeg i else o
def stN (N : Nat) (S P dl td : Nat → Int32) (d : Nat) (o : OR) : Nat → OR
  | 0 => o
  | i + 1 => if S i = nI d then stf N P dl td (stN N S P dl td d o i) i else stN N S P dl td d o i
def stD (N : Nat) (S P dl td : Nat → Int32) (o : OR) : Nat → OR
  | 0 => o
  | d + 1 => stN N S P dl td (d + 1) (stD N S P dl td o d) N
def drf (dr : Nat → Int32) (rt off : Nat → Int64) : Nat → Nat → Int64
  | 0 => off
  | i + 1 => vp_updL (drf dr rt off i) i (drf dr rt off i i + ((dr i).toInt64 + rt i))
