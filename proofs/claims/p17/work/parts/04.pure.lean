/-! the pure picture: what the methods do, in functions and relations of natural numbers -/
theorem nI_max {a : Nat} (h : a ≤ 10) : a < 2 ^ 31 := Nat.lt_of_le_of_lt h (by decide)
/-- x is the number of a node -/
def okN (N : Nat) (x : Int32) : Prop := ∃ i, i < N ∧ x = nI i
theorem okN_of {N : Nat} {x : Int32} (hN : N ≤ 10) (h0 : ¬ x < 0) (h1 : x < nI N) : okN N x := by
  obtain ⟨j, hj, rfl⟩ := nI_of h0
  exact ⟨j, (nI_ltI hj (nI_max hN)).mp h1, rfl⟩
theorem okN_no0 {N : Nat} {x : Int32} (hN : N ≤ 10) (h0 : x < 0) : ¬ okN N x := by
  rintro ⟨i, hi, rfl⟩
  exact nI_pos (Nat.lt_trans hi (nI_max hN)) h0
theorem okN_no1 {N : Nat} {x : Int32} (hN : N ≤ 10) (h1 : nI N ≤ x) : ¬ okN N x := by
  rintro ⟨i, hi, rfl⟩
  exact nI_ge hi (nI_max hN) h1
def bP (r : Int32) (P : Prop) : Prop := (r = 1 ∧ P) ∨ (r = 0 ∧ ¬ P)
theorem bP.b {r : Int32} {P : Prop} (h : bP r P) : r = 0 ∨ r = 1 := h.elim (fun h => Or.inr h.1) (fun h => Or.inl h.1)
theorem bP.iff {r : Int32} {P P' : Prop} (h : bP r P) (e : P ↔ P') : bP r P' := h.imp (fun h => ⟨h.1, e.mp h.2⟩) (fun h => ⟨h.1, fun h9 => h.2 (e.mpr h9)⟩)
theorem bP.t {P : Prop} (h : P) : bP 1 P := Or.inl ⟨rfl, h⟩
theorem bP.f {P : Prop} (h : ¬ P) : bP 0 P := Or.inr ⟨rfl, h⟩
def b01 (f : Nat → Int32) : Prop := ∀ k, f k = 0 ∨ f k = 1
/-- a place of the matrix -/
theorem ix_mul (i j : Nat) : nI i * 10 + nI j = nI (i * 10 + j) := by
  rw [show (10 : Int32) = nI 10 from rfl, pk_mul, nI_add]
theorem ix_mul' (i j : Nat) : 10 * nI i + nI j = nI (i * 10 + j) := by
  rw [show (10 : Int32) = nI 10 from rfl, pk_mul, nI_add, Nat.mul_comm]
theorem ix_lt {i j N : Nat} (hN : N ≤ 10) (hi : i < N) (hj : j < N) : i * 10 + j < 100 := by omega
abbrev nb (dom lk : Nat → Int32) (i j : Nat) : Prop := dom i = dom j ∧ lk (i * 10 + j) = 1
def rk (gr va : Nat → Int32) (i : Nat) : Int32 := (gr i * 1001 + va i) * 10 + nI i
def kst (K : KT) (i : Nat) (r : Int32) : KT := (upd K.1 i (nI i), upd K.2.1 i r, upd K.2.2.1 i 0, upd K.2.2.2 i (-1))
abbrev ktc (K E : KT) (i t : Nat) : Prop := E.2.1 t < K.2.1 i ∨ E.2.1 t = K.2.1 i ∧ E.2.2.1 t + 1 < K.2.2.1 i
def ktk (K E : KT) (i t : Nat) : KT := if ktc K E i t then (upd K.1 i (E.1 t), upd K.2.1 i (E.2.1 t), upd K.2.2.1 i (E.2.2.1 t + 1), upd K.2.2.2 i (nI t)) else K
def kfp (gr va : Nat → Int32) (K : KT) (i j : Nat) : KT := if K.2.2.2 i = nI j then kst K i (rk gr va i) else K
abbrev klc (dom lk : Nat → Int32) (E : KT) (i t : Nat) : Prop := nb dom lk i t ∧ (E.2.2.1 t < 9 ∧ ¬ E.2.2.2 t = nI i)
def klis (dom lk : Nat → Int32) (r : Int32) (K E : KT) (i : Nat) : Nat → KT
  | 0 => kst K i r
  | t + 1 => if klc dom lk E i t then ktk (klis dom lk r K E i t) E i t else klis dom lk r K E i t
def kann (dom lk gr va : Nat → Int32) (N : Nat) (K E : KT) : Nat → KT
  | 0 => K
  | i + 1 => klis dom lk (rk gr va i) (kann dom lk gr va N K E i) E i N
theorem klis_t {dom lk : Nat → Int32} {r : Int32} {K E : KT} {i t : Nat} (h : klc dom lk E i t) : klis dom lk r K E i (t + 1) = ktk (klis dom lk r K E i t) E i t := if_pos h
theorem klis_f {dom lk : Nat → Int32} {r : Int32} {K E : KT} {i t : Nat} (h : ¬ klc dom lk E i t) : klis dom lk r K E i (t + 1) = klis dom lk r K E i t := if_neg h
/-- the five rows of the reference -/
def mst (K : KM) (gr va : Nat → Int32) (i : Nat) : KM := (upd K.1 i (nI i), upd K.2.1 i (gr i), upd K.2.2.1 i (va i), upd K.2.2.2.1 i 0, upd K.2.2.2.2 i (-1))
abbrev mbt (K X : KM) (t i : Nat) : Prop := K.2.1 t < X.2.1 i ∨ K.2.1 t = X.2.1 i ∧ (K.2.2.1 t < X.2.2.1 i ∨ K.2.2.1 t = X.2.2.1 i ∧ (K.1 t < X.1 i ∨ K.1 t = X.1 i ∧ K.2.2.2.1 t + 1 < X.2.2.2.1 i))
def mtk (K X : KM) (i t : Nat) : KM := (upd X.1 i (K.1 t), upd X.2.1 i (K.2.1 t), upd X.2.2.1 i (K.2.2.1 t), upd X.2.2.2.1 i (K.2.2.2.1 t + 1), upd X.2.2.2.2 i (nI t))
abbrev mlc (dom lk : Nat → Int32) (K : KM) (i t : Nat) : Prop := nb dom lk i t ∧ (K.2.2.2.1 t < 9 ∧ ¬ K.2.2.2.2 t = nI i)
def mlis (dom lk gr va : Nat → Int32) (K X : KM) (i : Nat) : Nat → KM
  | 0 => mst X gr va i
  | t + 1 => if mlc dom lk K i t ∧ mbt K (mlis dom lk gr va K X i t) t i then mtk K (mlis dom lk gr va K X i t) i t else mlis dom lk gr va K X i t
def mann (dom lk gr va : Nat → Int32) (N : Nat) (K X : KM) : Nat → KM
  | 0 => X
  | i + 1 => mlis dom lk gr va K (mann dom lk gr va N K X i) i N
/-- the reference's copying back -/
def mcp (K X : KM) : Nat → KM
  | 0 => K
  | i + 1 => (upd (mcp K X i).1 i (X.1 i), upd (mcp K X i).2.1 i (X.2.1 i), upd (mcp K X i).2.2.1 i (X.2.2.1 i), upd (mcp K X i).2.2.2.1 i (X.2.2.2.1 i), upd (mcp K X i).2.2.2.2 i (X.2.2.2.2 i))
/-- reached over at most d links -/
def rch (N : Nat) (dom lk : Nat → Int32) (s : Nat) : Nat → Nat → Prop
  | 0, j => j = s
  | d + 1, j => rch N dom lk s d j ∨ ∃ i, i < N ∧ rch N dom lk s d i ∧ nb dom lk i j
/-- the distances up to d are laid -/
def isLev (N : Nat) (dom lk : Nat → Int32) (s d : Nat) (f : Nat → Int32) : Prop := ∀ j, j < N → (f j = -1 ∧ ¬ rch N dom lk s d j) ∨ ∃ k, k ≤ d ∧ f j = nI k ∧ rch N dom lk s k j ∧ ∀ k', k' < k → ¬ rch N dom lk s k' j
/-- all distances are laid -/
def isDist (N : Nat) (dom lk : Nat → Int32) (s : Nat) (f : Nat → Int32) : Prop := ∀ j, j < N → (f j = -1 ∧ ∀ k, ¬ rch N dom lk s k j) ∨ ∃ k, k < N ∧ f j = nI k ∧ rch N dom lk s k j ∧ ∀ k', k' < k → ¬ rch N dom lk s k' j
/-- the better clock -/
def btr (gr va : Nat → Int32) (i j : Nat) : Prop := gr i < gr j ∨ gr i = gr j ∧ (va i < va j ∨ va i = va j ∧ i < j)
/-- the best of those that are reached -/
def isBest (N : Nat) (gr va f : Nat → Int32) (w : Nat) : Prop := w < N ∧ ¬ f w = -1 ∧ ∀ j, j < N → ¬ f j = -1 → ¬ btr gr va j w
def bestBy (N : Nat) (dom lk gr va : Nat → Int32) (i w : Nat) (d : Int32) : Prop := ∃ f, isDist N dom lk i f ∧ isBest N gr va f w ∧ f w = d
/-- the ranges of classes and variances -/
def rng (gr va : Nat → Int32) : Prop := ∀ i, (∃ a, a ≤ 255 ∧ gr i = nI a) ∧ ∃ b, b ≤ 1000 ∧ va i = nI b
/-- the error of a link, what is measured, a node's steering -/
def lerr (dl td : Nat → Int32) (q i : Nat) : Int32 := (dl (q * 10 + i) - dl (i * 10 + q) - td (q * 10 + i)) / 2
def lmea (dl td : Nat → Int32) (off : Nat → Int64) (q i : Nat) : Int64 := off i - off q + (lerr dl td q i).toInt64
abbrev OR : Type := (Nat → Int64) × (Nat → Int64)
def stq (dl td : Nat → Int32) (o : OR) (q i : Nat) : OR := (vp_updL o.1 i (o.1 i - lmea dl td o.1 q i / 2), vp_updL o.2 i (o.2 i - lmea dl td o.1 q i / 16))
def stf (N : Nat) (P dl td : Nat → Int32) (o : OR) (i : Nat) : OR := if 0 ≤ P i ∧ P i < nI N then stq dl td o (P i).toNatClampNeg i else o
def stN (N : Nat) (S P dl td : Nat → Int32) (d : Nat) (o : OR) : Nat → OR
  | 0 => o
  | i + 1 => if S i = nI d then stf N P dl td (stN N S P dl td d o i) i else stN N S P dl td d o i
def stD (N : Nat) (S P dl td : Nat → Int32) (o : OR) : Nat → OR
  | 0 => o
  | d + 1 => stN N S P dl td (d + 1) (stD N S P dl td o d) N
def drf (dr : Nat → Int32) (rt off : Nat → Int64) : Nat → Nat → Int64
  | 0 => off
  | i + 1 => vp_updL (drf dr rt off i) i (drf dr rt off i i + ((dr i).toInt64 + rt i))
theorem ctr_lt {a b : Nat} (ha : a ≤ 100) (hb : b ≤ 100) (c : ¬ nI b ≤ nI a) : a < b := by
  rcases Nat.lt_or_ge a b with h | h
  · exact h
  · exact absurd ((nI_leI (by omega) (by omega)).mpr h) c
theorem ctr_ge {a b : Nat} (ha : a ≤ 100) (hb : b ≤ 100) (c : nI b ≤ nI a) : b ≤ a := (nI_leI (by omega) (by omega)).mp c
theorem nle {a b : Int32} (h : ¬ a ≤ b) : b < a := Int32.not_le.mp h
theorem nlt {a b : Int32} (h : a < b) : ¬ b ≤ a := Int32.not_le.mpr h
theorem okN_iff {N : Nat} {x : Int32} (hN : N ≤ 10) : okN N x ↔ 0 ≤ x ∧ x < nI N := by
  constructor
  · rintro ⟨i, hi, rfl⟩
    have hn := nI_max hN
    exact ⟨nI_pos' (Nat.lt_trans hi hn), nI_lt hi hn⟩
  · rintro ⟨h1, h2⟩
    exact okN_of hN (Int32.not_lt.mpr h1) h2
theorem stf_q {N : Nat} {P dl td : Nat → Int32} {o : OR} {i q : Nat} (hN : N ≤ 10) (hq : q < N) (e : P i = nI q) : stf N P dl td o i = stq dl td o q i := by
  have h := (okN_iff hN).mp ⟨q, hq, e⟩
  unfold stf
  rw [if_pos h, e, nI_clamp (Nat.lt_trans hq (nI_max hN))]
theorem stf_n {N : Nat} {P dl td : Nat → Int32} {o : OR} {i : Nat} (hN : N ≤ 10) (h : ¬ okN N (P i)) : stf N P dl td o i = o := by
  unfold stf
  rw [if_neg (fun h9 => h ((okN_iff hN).mpr h9))]
/-- copied up to k -/
def cpK (K E : KT) (k : Nat) : Prop := ∀ j, j < k → E.1 j = K.1 j ∧ E.2.1 j = K.2.1 j ∧ E.2.2.1 j = K.2.2.1 j ∧ E.2.2.2 j = K.2.2.2 j
theorem cpK_0 {K E : KT} : cpK K E 0 := fun _ h => absurd h (Nat.not_lt_zero _)
theorem cpK_s {K E : KT} {k : Nat} (h : cpK K E k) : cpK K (upd E.1 k (K.1 k), upd E.2.1 k (K.2.1 k), upd E.2.2.1 k (K.2.2.1 k), upd E.2.2.2 k (K.2.2.2 k)) (k + 1) := by
  intro j hj
  by_cases e : j = k
  · subst e
    exact ⟨pk_us, pk_us, pk_us, pk_us⟩
  · obtain ⟨h1, h2, h3, h4⟩ := h j (by omega)
    exact ⟨(pk_un e).trans h1, (pk_un e).trans h2, (pk_un e).trans h3, (pk_un e).trans h4⟩
/-- a level's laying, up to node a -/
def isPar (N : Nat) (dom lk : Nat → Int32) (d : Nat) (f0 : Nat → Int32) (a : Nat) (f : Nat → Int32) : Prop := ∀ j, j < N → ((f0 j = -1 ∧ ∃ i, i < a ∧ f0 i = nI d ∧ nb dom lk i j) → f j = nI (d + 1)) ∧ (¬ (f0 j = -1 ∧ ∃ i, i < a ∧ f0 i = nI d ∧ nb dom lk i j) → f j = f0 j)
/-- the neighbours of a, up to node j -/
def isRn (N : Nat) (dom lk : Nat → Int32) (a D : Nat) (f0 : Nat → Int32) (j : Nat) (f : Nat → Int32) : Prop := ∀ x, x < N → ((x < j ∧ f0 x = -1 ∧ nb dom lk a x) → f x = nI D) ∧ (¬ (x < j ∧ f0 x = -1 ∧ nb dom lk a x) → f x = f0 x)
theorem nI_ne_m1 {a : Nat} (h : a ≤ 100) : ¬ nI a = -1 := by
  intro e
  have h1 := nI_pos' (n := a) (by omega)
  rw [e] at h1
  exact absurd h1 (by decide)
theorem isRn_0 {N : Nat} {dom lk : Nat → Int32} {a D : Nat} {f0 : Nat → Int32} : isRn N dom lk a D f0 0 f0 := fun x _ => ⟨fun h => absurd h.1 (Nat.not_lt_zero _), fun _ => rfl⟩
/-- node j itself isn't touched yet -/
theorem isRn_at {N : Nat} {dom lk : Nat → Int32} {a D : Nat} {f0 f : Nat → Int32} {j : Nat} (hj : j < N) (h : isRn N dom lk a D f0 j f) : f j = f0 j := (h j hj).2 (fun h9 => absurd h9.1 (Nat.lt_irrefl _))
theorem isRn_skip {N : Nat} {dom lk : Nat → Int32} {a D : Nat} {f0 f : Nat → Int32} {j : Nat} (h : isRn N dom lk a D f0 j f) (hn : ¬ (f0 j = -1 ∧ nb dom lk a j)) : isRn N dom lk a D f0 (j + 1) f := by
  intro x hx
  have h9 : (x < j + 1 ∧ f0 x = -1 ∧ nb dom lk a x) → (x < j ∧ f0 x = -1 ∧ nb dom lk a x) := by
    rintro ⟨h1, h2⟩
    by_cases e : x = j
    · subst e; exact absurd h2 hn
    · exact ⟨by omega, h2⟩
  exact ⟨fun h1 => (h x hx).1 (h9 h1), fun h1 => (h x hx).2 (fun h2 => h1 ⟨by omega, h2.2⟩)⟩
theorem isRn_set {N : Nat} {dom lk : Nat → Int32} {a D : Nat} {f0 f : Nat → Int32} {j : Nat} (h : isRn N dom lk a D f0 j f) (hy : f0 j = -1 ∧ nb dom lk a j) : isRn N dom lk a D f0 (j + 1) (upd f j (nI D)) := by
  intro x hx
  by_cases e : x = j
  · subst e
    exact ⟨fun _ => pk_us, fun h1 => absurd ⟨Nat.lt_succ_self _, hy⟩ h1⟩
  · rw [pk_un e]
    exact ⟨fun h1 => (h x hx).1 ⟨by omega, h1.2⟩, fun h1 => (h x hx).2 (fun h2 => h1 ⟨by omega, h2.2⟩)⟩
theorem isPar_0 {N : Nat} {dom lk : Nat → Int32} {d : Nat} {f0 : Nat → Int32} : isPar N dom lk d f0 0 f0 := fun j _ => ⟨fun h => absurd h.2.choose_spec.1 (Nat.not_lt_zero _), fun _ => rfl⟩
/-- node a's own distance isn't touched by the level -/
theorem isPar_at {N : Nat} {dom lk : Nat → Int32} {d : Nat} {f0 f : Nat → Int32} {a x : Nat} (hd : d ≤ 10) (hx : x < N) (h : isPar N dom lk d f0 a f) : f x = nI d ↔ f0 x = nI d := by
  by_cases c : f0 x = -1 ∧ ∃ i, i < a ∧ f0 i = nI d ∧ nb dom lk i x
  · rw [(h x hx).1 c, c.1]
    constructor
    · intro e; exact absurd ((nI_eq (by omega) (by omega)).mp e) (by omega)
    · intro e; exact absurd e.symm (nI_ne_m1 (by omega))
  · rw [(h x hx).2 c]
theorem isPar_skip {N : Nat} {dom lk : Nat → Int32} {d : Nat} {f0 f : Nat → Int32} {a : Nat} (h : isPar N dom lk d f0 a f) (hn : ¬ f0 a = nI d) : isPar N dom lk d f0 (a + 1) f := by
  intro j hj
  have h9 : (f0 j = -1 ∧ ∃ i, i < a + 1 ∧ f0 i = nI d ∧ nb dom lk i j) → (f0 j = -1 ∧ ∃ i, i < a ∧ f0 i = nI d ∧ nb dom lk i j) := by
    rintro ⟨h1, i, h2, h3, h4⟩
    by_cases e : i = a
    · subst e; exact absurd h3 hn
    · exact ⟨h1, i, by omega, h3, h4⟩
  exact ⟨fun h1 => (h j hj).1 (h9 h1), fun h1 => (h j hj).2 (fun ⟨h2, i, h3, h4⟩ => h1 ⟨h2, i, by omega, h4⟩)⟩
theorem isPar_set {N : Nat} {dom lk : Nat → Int32} {d : Nat} {f0 f f' : Nat → Int32} {a : Nat} (hd : d ≤ 10) (h : isPar N dom lk d f0 a f) (hy : f0 a = nI d) (hr : isRn N dom lk a (d + 1) f N f') : isPar N dom lk d f0 (a + 1) f' := by
  intro j hj
  by_cases c : f0 j = -1 ∧ ∃ i, i < a ∧ f0 i = nI d ∧ nb dom lk i j
  · have e1 := (h j hj).1 c
    have e2 : f' j = nI (d + 1) := by
      rw [(hr j hj).2 (fun h9 => absurd (e1 ▸ h9.2.1) (nI_ne_m1 (by omega)))]
      exact e1
    exact ⟨fun _ => e2, fun h1 => absurd ⟨c.1, c.2.choose, by have := c.2.choose_spec.1; omega, c.2.choose_spec.2⟩ h1⟩
  · have e1 := (h j hj).2 c
    by_cases c2 : f0 j = -1 ∧ nb dom lk a j
    · refine ⟨fun _ => (hr j hj).1 ⟨hj, e1.trans c2.1, c2.2⟩, fun h1 => absurd ⟨c2.1, a, Nat.lt_succ_self _, hy, c2.2⟩ h1⟩
    · refine ⟨?_, fun _ => ((hr j hj).2 (fun h9 => c2 ⟨e1 ▸ h9.2.1, h9.2.2⟩)).trans e1⟩
      rintro ⟨h1, i, h2, h3, h4⟩
      by_cases e : i = a
      · subst e; exact absurd ⟨h1, h4⟩ c2
      · exact absurd ⟨h1, i, by omega, h3, h4⟩ c
theorem rch_mono {N : Nat} {dom lk : Nat → Int32} {s d j : Nat} (h : rch N dom lk s d j) : rch N dom lk s (d + 1) j := Or.inl h
theorem rch_le {N : Nat} {dom lk : Nat → Int32} {s d d' j : Nat} (hd : d ≤ d') (h : rch N dom lk s d j) : rch N dom lk s d' j := by
  induction d' with
  | zero => have : d = 0 := by omega
            subst this; exact h
  | succ n ih =>
    by_cases e : d = n + 1
    · subst e; exact h
    · exact rch_mono (ih (by omega))
theorem isLev_0 {N : Nat} {dom lk : Nat → Int32} {s : Nat} {f : Nat → Int32} (h : ∀ j, j < N → f j = -1) : isLev N dom lk s 0 (upd f s 0) := by
  intro j hj
  by_cases e : j = s
  · subst e
    exact Or.inr ⟨0, Nat.le_refl _, pk_us, rfl, fun k' hk => absurd hk (Nat.not_lt_zero _)⟩
  · exact Or.inl ⟨(pk_un e).trans (h j hj), e⟩
/-- a level more -/
theorem isLev_s {N : Nat} {dom lk : Nat → Int32} {s d : Nat} {f0 f : Nat → Int32} (hd : d < 10) (h0 : isLev N dom lk s d f0) (h : isPar N dom lk d f0 N f) : isLev N dom lk s (d + 1) f := by
  intro j hj
  -- who lies at d exactly
  have hat : ∀ i, i < N → (f0 i = nI d ↔ rch N dom lk s d i ∧ ∀ k', k' < d → ¬ rch N dom lk s k' i) := by
    intro i hi
    constructor
    · intro e
      rcases h0 i hi with ⟨h1, h2⟩ | ⟨k, h1, h2, h3, h4⟩
      · exact absurd (e.symm.trans h1) (nI_ne_m1 (by omega))
      · have : k = d := (nI_eq (by omega) (by omega)).mp (h2.symm.trans e)
        subst this; exact ⟨h3, h4⟩
    · rintro ⟨h5, h6⟩
      rcases h0 i hi with ⟨h1, h2⟩ | ⟨k, h1, h2, h3, h4⟩
      · exact absurd h5 h2
      · by_cases e : k = d
        · subst e; exact h2
        · exact absurd h3 (h6 k (by omega))
  rcases h0 j hj with ⟨h1, h2⟩ | ⟨k, h1, h2, h3, h4⟩
  · by_cases c : ∃ i, i < N ∧ f0 i = nI d ∧ nb dom lk i j
    · refine Or.inr ⟨d + 1, Nat.le_refl _, (h j hj).1 ⟨h1, c⟩, ?_, ?_⟩
      · obtain ⟨i, hi, e, hn⟩ := c
        exact Or.inr ⟨i, hi, ((hat i hi).mp e).1, hn⟩
      · intro k' hk h9
        exact h2 (rch_le (by omega) h9)
    · refine Or.inl ⟨((h j hj).2 (fun h9 => c h9.2)).trans h1, ?_⟩
      rintro (h9 | ⟨i, hi, h9, hn⟩)
      · exact h2 h9
      · refine c ⟨i, hi, (hat i hi).mpr ⟨h9, fun k' hk h8 => h2 ?_⟩, hn⟩
        exact rch_le (d := k' + 1) (by omega) (Or.inr ⟨i, hi, h8, hn⟩)
  · refine Or.inr ⟨k, by omega, ((h j hj).2 (fun h9 => absurd (h2.symm.trans h9.1) (nI_ne_m1 (by omega)))).trans h2, h3, h4⟩
/-- as many different numbers under N: at most N -/
theorem pigeon : ∀ (n : Nat) (f : Nat → Nat), (∀ i, i ≤ n → f i < n) → (∀ i j, i ≤ n → j ≤ n → f i = f j → i = j) → False := by
  intro n
  induction n with
  | zero => intro f h _; exact absurd (h 0 (Nat.le_refl _)) (Nat.not_lt_zero _)
  | succ n ih =>
    intro f h hi
    -- take the value at n+1 out
    refine ih (fun i => if f i = n then f (n + 1) else f i) (fun i hin => ?_) (fun i j hin hjn e => ?_)
    · by_cases c : f i = n
      · simp only [c, if_true]
        have h1 := h (n + 1) (Nat.le_refl _)
        have h2 : f (n + 1) ≠ n := fun h9 => by have := hi i (n + 1) (by omega) (Nat.le_refl _) (c.trans h9.symm); omega
        omega
      · simp only [c, if_false]
        have h1 := h i (by omega)
        omega
    · by_cases c : f i = n
      · by_cases c2 : f j = n
        · exact hi i j (by omega) (by omega) (c.trans c2.symm)
        · simp only [c, c2, if_true, if_false] at e
          have := hi (n + 1) j (Nat.le_refl _) (by omega) e
          omega
      · by_cases c2 : f j = n
        · simp only [c, c2, if_true, if_false] at e
          have := hi i (n + 1) (by omega) (Nat.le_refl _) e
          omega
        · simp only [c, c2, if_false] at e
          exact hi i j (by omega) (by omega) e
/-- who is first reached over d + 1 links, is a neighbour of one first reached over d -/
theorem rch_chain {N : Nat} {dom lk : Nat → Int32} {s : Nat} : ∀ (d j : Nat), (j < N ∧ rch N dom lk s d j ∧ ∀ k', k' < d → ¬ rch N dom lk s k' j) → ∃ f : Nat → Nat, (∀ i, i ≤ d → f i < N) ∧ ∀ i, i ≤ d → rch N dom lk s i (f i) ∧ ∀ k', k' < i → ¬ rch N dom lk s k' (f i) := by
  intro d
  induction d with
  | zero =>
    rintro j ⟨h1, h2, h3⟩
    refine ⟨fun _ => j, fun _ _ => h1, fun i hi => ?_⟩
    have : i = 0 := by omega
    subst this; exact ⟨h2, h3⟩
  | succ d ih =>
    rintro j ⟨h1, h2, h3⟩
    rcases h2 with h2 | ⟨i, hi, h4, hn⟩
    · exact absurd h2 (h3 d (Nat.lt_succ_self _))
    · have h5 : ∀ k', k' < d → ¬ rch N dom lk s k' i := fun k' hk h9 => h3 (k' + 1) (by omega) (Or.inr ⟨i, hi, h9, hn⟩)
      obtain ⟨f, f1, f2⟩ := ih i ⟨hi, h4, h5⟩
      refine ⟨fun x => if x = d + 1 then j else f x, fun x hx => ?_, fun x hx => ?_⟩
      · by_cases c : x = d + 1
        · simp only [c, if_true]; exact h1
        · simp only [c, if_false]; exact f1 x (by omega)
      · by_cases c : x = d + 1
        · subst c
          simp only [if_true]; exact ⟨Or.inr ⟨i, hi, h4, hn⟩, h3⟩
        · simp only [c, if_false]; exact f2 x (by omega)
/-- nobody is N or more links away -/
theorem rch_top {N : Nat} {dom lk : Nat → Int32} {s d j : Nat} (hj : j < N) (h : rch N dom lk s d j) (hm : ∀ k', k' < d → ¬ rch N dom lk s k' j) : d < N := by
  rcases Nat.lt_or_ge d N with c | c
  · exact c
  · obtain ⟨f, f1, f2⟩ := rch_chain d j ⟨hj, h, hm⟩
    refine (pigeon N f (fun i hi => f1 i (by omega)) (fun x y hx hy e => ?_)).elim
    rcases Nat.lt_trichotomy x y with c1 | c1 | c1
    · exact absurd (e ▸ (f2 x (by omega)).1) ((f2 y (by omega)).2 x c1)
    · exact c1
    · exact absurd (e ▸ (f2 y (by omega)).1) ((f2 x (by omega)).2 y c1)
theorem rch_min {N : Nat} {dom lk : Nat → Int32} {s : Nat} : ∀ (d j : Nat), rch N dom lk s d j → ∃ k, k ≤ d ∧ rch N dom lk s k j ∧ ∀ k', k' < k → ¬ rch N dom lk s k' j := by
  intro d j h
  obtain ⟨k, h1, h2⟩ := pk_least (fun k => rch N dom lk s k j) ⟨d, h⟩
  refine ⟨k, ?_, h1, h2⟩
  rcases Nat.lt_or_ge d k with c | c
  · exact absurd h (h2 d c)
  · exact c
/-- laid up to N - 1 or farther: all is laid -/
theorem lev_dist {N : Nat} {dom lk : Nat → Int32} {s d : Nat} {f : Nat → Int32} (hd : N ≤ d + 1) (h : isLev N dom lk s d f) : isDist N dom lk s f := by
  intro j hj
  rcases h j hj with ⟨h1, h2⟩ | ⟨k, h1, h2, h3, h4⟩
  · refine Or.inl ⟨h1, fun k hk => ?_⟩
    obtain ⟨k2, h5, h6, h7⟩ := rch_min k j hk
    have h8 := rch_top hj h6 h7
    exact h2 (rch_le (by omega) h6)
  · exact Or.inr ⟨k, rch_top hj h3 h4, h2, h3, h4⟩
theorem isDist_uniq {N : Nat} {dom lk : Nat → Int32} {s : Nat} {f f' : Nat → Int32} (h : isDist N dom lk s f) (h' : isDist N dom lk s f') : ∀ j, j < N → f j = f' j := by
  intro j hj
  rcases h j hj with ⟨h1, h2⟩ | ⟨k, h1, h2, h3, h4⟩ <;> rcases h' j hj with ⟨g1, g2⟩ | ⟨k', g1, g2, g3, g4⟩
  · exact h1.trans g1.symm
  · exact absurd g3 (h2 _)
  · exact absurd h3 (g2 _)
  · have : k = k' := by
      rcases Nat.lt_trichotomy k k' with c | c | c
      · exact absurd h3 (g4 k c)
      · exact c
      · exact absurd g3 (h4 k' c)
    subst this; exact h2.trans g2.symm
theorem isDist_self {N : Nat} {dom lk : Nat → Int32} {s : Nat} {f : Nat → Int32} (hN : N ≤ 10) (hs : s < N) (h : isDist N dom lk s f) : ¬ f s = -1 := by
  rcases h s hs with ⟨_, h2⟩ | ⟨k, h1, h2, _⟩
  · exact absurd (rfl : rch N dom lk s 0 s) (h2 0)
  · rw [h2]; exact nI_ne_m1 (by omega)
/-- ranks are the clocks' order -/
theorem rk_val {gr va : Nat → Int32} (hg : rng gr va) {i : Nat} (hi : i < 10) : ∃ a b : Nat, a ≤ 255 ∧ b ≤ 1000 ∧ gr i = nI a ∧ va i = nI b ∧ rk gr va i = nI ((a * 1001 + b) * 10 + i) := by
  obtain ⟨⟨a, ha, ea⟩, ⟨b, hb, eb⟩⟩ := hg i
  refine ⟨a, b, ha, hb, ea, eb, ?_⟩
  unfold rk
  rw [ea, eb, show (1001 : Int32) = nI 1001 from rfl, show (10 : Int32) = nI 10 from rfl, pk_mul, nI_add, pk_mul, nI_add]
theorem rk_btr {gr va : Nat → Int32} (hg : rng gr va) {i j : Nat} (hi : i < 10) (hj : j < 10) : rk gr va i < rk gr va j ↔ btr gr va i j := by
  obtain ⟨a, b, ha, hb, ea, eb, er⟩ := rk_val hg hi
  obtain ⟨a', b', ha', hb', ea', eb', er'⟩ := rk_val hg hj
  unfold btr
  rw [er, er', ea, eb, ea', eb', nI_ltI (by omega) (by omega), nI_ltI (by omega) (by omega), nI_ltI (by omega) (by omega), nI_eq (by omega) (by omega), nI_eq (by omega) (by omega)]
  omega
theorem btr_irr {gr va : Nat → Int32} (hg : rng gr va) {i : Nat} (hi : i < 10) : ¬ btr gr va i i := fun h => absurd ((rk_btr hg hi hi).mpr h) (Int32.lt_irrefl)
theorem btr_trans {gr va : Nat → Int32} (hg : rng gr va) {i j k : Nat} (hi : i < 10) (hj : j < 10) (hk : k < 10) (h1 : btr gr va i j) (h2 : btr gr va j k) : btr gr va i k :=
  (rk_btr hg hi hk).mp (Int32.lt_trans ((rk_btr hg hi hj).mpr h1) ((rk_btr hg hj hk).mpr h2))
theorem btr_total {gr va : Nat → Int32} (hg : rng gr va) {i j : Nat} (hi : i < 10) (hj : j < 10) (h1 : ¬ btr gr va i j) (h2 : ¬ btr gr va j i) : i = j := by
  obtain ⟨a, b, ha, hb, ea, eb, er⟩ := rk_val hg hi
  obtain ⟨a', b', ha', hb', ea', eb', er'⟩ := rk_val hg hj
  rw [← rk_btr hg hi hj, er, er', nI_ltI (by omega) (by omega)] at h1
  rw [← rk_btr hg hj hi, er, er', nI_ltI (by omega) (by omega)] at h2
  omega
theorem isBest_uniq {N : Nat} {gr va f f' : Nat → Int32} {w w' : Nat} (hN : N ≤ 10) (hg : rng gr va) (e : ∀ j, j < N → f j = f' j) (h : isBest N gr va f w) (h' : isBest N gr va f' w') : w = w' := by
  obtain ⟨h1, h2, h3⟩ := h
  obtain ⟨g1, g2, g3⟩ := h'
  exact btr_total hg (by omega) (by omega) (g3 w h1 (by rw [← e w h1]; exact h2)) (h3 w' g1 (by rw [e w' g1]; exact g2))
theorem bestBy_uniq {N : Nat} {dom lk gr va : Nat → Int32} {i w w' : Nat} {d d' : Int32} (hN : N ≤ 10) (hg : rng gr va) (h : bestBy N dom lk gr va i w d) (h' : bestBy N dom lk gr va i w' d') : w = w' ∧ d = d' := by
  obtain ⟨f, h1, h2, h3⟩ := h
  obtain ⟨f', g1, g2, g3⟩ := h'
  have e := isDist_uniq h1 g1
  have ew := isBest_uniq hN hg e h2 g2
  subst ew
  exact ⟨rfl, by rw [← h3, ← g3]; exact e w h2.1⟩
/-- the best among those below k -/
def bestTo (gr va f : Nat → Int32) (N k w : Nat) : Prop := w < N ∧ ¬ f w = -1 ∧ ∀ j, j < k → ¬ f j = -1 → ¬ btr gr va j w
theorem bestTo_skip {gr va f : Nat → Int32} {N k w : Nat} (h : bestTo gr va f N k w) (hn : f k = -1 ∨ ¬ btr gr va k w) : bestTo gr va f N (k + 1) w := by
  obtain ⟨h1, h2, h3⟩ := h
  refine ⟨h1, h2, fun j hj hf => ?_⟩
  by_cases e : j = k
  · subst e; exact hn.elim (fun h9 => absurd h9 hf) id
  · exact h3 j (by omega) hf
theorem bestTo_take {gr va f : Nat → Int32} {N k w : Nat} (hN : N ≤ 10) (hk : k < N) (hg : rng gr va) (h : bestTo gr va f N k w) (hf : ¬ f k = -1) (hb : btr gr va k w) : bestTo gr va f N (k + 1) k := by
  obtain ⟨h1, h2, h3⟩ := h
  refine ⟨hk, hf, fun j hj hfj h9 => ?_⟩
  by_cases e : j = k
  · subst e; exact btr_irr hg (by omega) h9
  · exact h3 j (by omega) hfj (btr_trans hg (by omega) (by omega) (by omega) h9 hb)
/-- argument tests: what is returned or thrown by their order -/
abbrev inR (a v b : Int32) : Prop := a ≤ v ∧ v ≤ b
def ex1 (E n1 : String) (P1 : Prop) : Prop := E = n1 ∧ ¬ P1
def ex2 (E n1 n2 : String) (P1 P2 : Prop) : Prop := (E = n1 ∧ ¬ P1) ∨ (E = n2 ∧ P1 ∧ ¬ P2)
def ex3 (E n1 n2 n3 : String) (P1 P2 P3 : Prop) : Prop := (E = n1 ∧ ¬ P1) ∨ (E = n2 ∧ P1 ∧ ¬ P2) ∨ (E = n3 ∧ P1 ∧ P2 ∧ ¬ P3)
def lkd (lk : Nat → Int32) (x y : Int32) : Prop := lk (x.toNatClampNeg * 10 + y.toNatClampNeg) = 1
theorem lkd_n {lk : Nat → Int32} {i j : Nat} (hi : i < 10) (hj : j < 10) : lkd lk (nI i) (nI j) ↔ lk (i * 10 + j) = 1 := by
  unfold lkd
  rw [nI_clamp (Nat.lt_trans hi (by decide)), nI_clamp (Nat.lt_trans hj (by decide))]
/-- listening asks only for what the tellers knew -/
theorem klis_congr {dom lk : Nat → Int32} {r : Int32} {K E E' : KT} {i n : Nat} : ∀ t, t ≤ n → (∀ j, j < n → E'.1 j = E.1 j ∧ E'.2.1 j = E.2.1 j ∧ E'.2.2.1 j = E.2.2.1 j ∧ E'.2.2.2 j = E.2.2.2 j) → klis dom lk r K E' i t = klis dom lk r K E i t := by
  intro t
  induction t with
  | zero => intro _ _; rfl
  | succ t ih =>
    intro ht h
    have e := ih (by omega) h
    obtain ⟨h1, h2, h3, h4⟩ := h t (by omega)
    simp only [klis, ktk, ktc, klc, e, h1, h2, h3, h4]
theorem kann_congr {dom lk gr va : Nat → Int32} {N : Nat} {K E : KT} (hN : N ≤ 10) (h : cpK K E 10) : ∀ i, kann dom lk gr va N K E i = kann dom lk gr va N K K i := by
  intro i
  have key : ∀ (K0 : KT) (r : Int32) (i : Nat), klis dom lk r K0 E i N = klis dom lk r K0 K i N := fun K0 r i => klis_congr N (Nat.le_refl _) (fun j hj => h j (by omega))
  -- the start is the same row K; what is heard may differ behind the nodes alone
  induction i with
  | zero => rfl
  | succ i ih =>
    simp only [kann]
    rw [key, ih]
/-- one tick of the class's rows -/
def tk1 (dom lk gr va dr dl td : Nat → Int32) (N : Nat) (o : OR × KT) : OR × KT :=
  (stD N (kann dom lk gr va N o.2 o.2 N).2.2.1 (kann dom lk gr va N o.2 o.2 N).2.2.2 dl td (drf dr o.1.2 o.1.1 N, o.1.2) 9, kann dom lk gr va N o.2 o.2 N)
def tkN (dom lk gr va dr dl td : Nat → Int32) (N : Nat) (o : OR × KT) : Nat → OR × KT
  | 0 => o
  | k + 1 => tk1 dom lk gr va dr dl td N (tkN dom lk gr va dr dl td N o k)
theorem tkN_s {dom lk gr va dr dl td : Nat → Int32} {N k : Nat} {o : OR × KT} {of1 rt1 : Nat → Int64} {K1 : KT} {u : OR × KT × KT} (hN : N ≤ 10) (h : ((of1, rt1), K1) = tkN dom lk gr va dr dl td N o k)
    (hu : cpK K1 u.2.2 10 ∧ u.2.1 = kann dom lk gr va N K1 u.2.2 N ∧ u.1 = stD N u.2.1.2.2.1 u.2.1.2.2.2 dl td (drf dr rt1 of1 N, rt1) 9) : (u.1, u.2.1) = tkN dom lk gr va dr dl td N o (k + 1) := by
  obtain ⟨h1, h2, h3⟩ := hu
  rw [kann_congr hN h1] at h2
  rw [h2] at h3
  simp only [tkN, ← h, tk1]
  rw [← h2, h3, h2]
theorem tick_of {t : Int32} (h : inR 1 t 50) : ∃ T, 1 ≤ T ∧ T ≤ 50 ∧ t = nI T := by
  obtain ⟨h1, h2⟩ := h
  have h0 : ¬ t < 0 := fun h9 => by
    have := Int32.lt_of_le_of_lt h1 h9
    exact absurd this (by decide)
  obtain ⟨j, hj, rfl⟩ := nI_of h0
  exact ⟨j, (nI_leI (a := 1) (by decide) hj).mp h1, (nI_leI (b := 50) hj (by decide)).mp h2, rfl⟩
/-- the port's state -/
def prt (dom lk S P : Nat → Int32) (i j : Nat) : Int32 := if ¬ nb dom lk i j then 0 else if P i = nI j then 1 else if P j = nI i ∨ (S i < S j ∨ S i = S j ∧ i < j) then 2 else 3
/-- a node is settled -/
def stl (N : Nat) (dom lk gr va kN kS : Nat → Int32) (i : Nat) : Prop := ∃ w d, bestBy N dom lk gr va i w d ∧ kN i = nI w ∧ kS i = d
theorem stl_no {N : Nat} {dom lk gr va kN kS : Nat → Int32} {i w : Nat} {d : Int32} (hN : N ≤ 10) (hg : rng gr va) (hb : bestBy N dom lk gr va i w d) (h : ¬ kN i = nI w ∨ ¬ kS i = d) : ¬ stl N dom lk gr va kN kS i := by
  rintro ⟨w', d', h1, h2, h3⟩
  obtain ⟨rfl, rfl⟩ := bestBy_uniq hN hg hb h1
  exact h.elim (fun h9 => h9 h2) (fun h9 => h9 h3)
/-! the reference -/
def cd1 (k : Int32) (P1 : Prop) : Prop := (k = 1 ∧ ¬ P1) ∨ (k = 0 ∧ P1)
def cd2 (k : Int32) (P1 P2 : Prop) : Prop := (k = 1 ∧ ¬ P1) ∨ (k = 2 ∧ P1 ∧ ¬ P2) ∨ (k = 0 ∧ P1 ∧ P2)
def cd3 (k : Int32) (P1 P2 P3 : Prop) : Prop := (k = 1 ∧ ¬ P1) ∨ (k = 2 ∧ P1 ∧ ¬ P2) ∨ (k = 3 ∧ P1 ∧ P2 ∧ ¬ P3) ∨ (k = 0 ∧ P1 ∧ P2 ∧ P3)
theorem cd1_uniq {k k' : Int32} {P1 : Prop} (h : cd1 k P1) (h' : cd1 k' P1) : k = k' := by
  rcases h with ⟨rfl, h⟩ | ⟨rfl, h⟩ <;> rcases h' with ⟨rfl, h'⟩ | ⟨rfl, h'⟩ <;> first | rfl | (exact absurd ‹P1› ‹¬ P1›)
theorem cd2_uniq {k k' : Int32} {P1 P2 : Prop} (h : cd2 k P1 P2) (h' : cd2 k' P1 P2) : k = k' := by
  rcases h with ⟨rfl, h⟩ | ⟨rfl, h, g⟩ | ⟨rfl, h, g⟩ <;> rcases h' with ⟨rfl, h'⟩ | ⟨rfl, h', g'⟩ | ⟨rfl, h', g'⟩ <;> first | rfl | (exact absurd ‹P1› ‹¬ P1›) | (exact absurd ‹P2› ‹¬ P2›)
theorem cd3_uniq {k k' : Int32} {P1 P2 P3 : Prop} (h : cd3 k P1 P2 P3) (h' : cd3 k' P1 P2 P3) : k = k' := by
  rcases h with ⟨rfl, h⟩ | ⟨rfl, h, g⟩ | ⟨rfl, h, g, j⟩ | ⟨rfl, h, g, j⟩ <;> rcases h' with ⟨rfl, h'⟩ | ⟨rfl, h', g'⟩ | ⟨rfl, h', g', j'⟩ | ⟨rfl, h', g', j'⟩ <;> first | rfl | (exact absurd ‹P1› ‹¬ P1›) | (exact absurd ‹P2› ‹¬ P2›) | (exact absurd ‹P3› ‹¬ P3›)
theorem in_okN {N : Nat} {x : Int32} (hN : N ≤ 10) : inR 0 x (nI N - 1) ↔ okN N x := by
  cases N with
  | zero =>
    constructor
    · rintro ⟨h1, h2⟩
      exact absurd (Int32.le_trans h1 h2) (by decide)
    · rintro ⟨i, hi, _⟩
      exact absurd hi (Nat.not_lt_zero _)
  | succ n =>
    rw [nI_pred]
    constructor
    · rintro ⟨h1, h2⟩
      obtain ⟨j, hj, rfl⟩ := nI_of (Int32.not_lt.mpr h1)
      exact ⟨j, by have := (nI_leI hj (by omega)).mp h2; omega, rfl⟩
    · rintro ⟨i, hi, rfl⟩
      exact ⟨nI_pos' (by omega), nI_le (by omega) (by omega)⟩
theorem lex_ne {a b : Int32} {P : Prop} (h : ¬ a = b) : (a < b ∨ a = b ∧ P) ↔ a < b := ⟨fun h9 => h9.elim id (fun h8 => absurd h8.1 h), Or.inl⟩
theorem lex_eq {a b : Int32} {P : Prop} (h : a = b) : (a < b ∨ a = b ∧ P) ↔ P := ⟨fun h9 => h9.elim (fun h8 => by rw [h] at h8; exact absurd h8 Int32.lt_irrefl) And.right, fun h9 => Or.inr ⟨h, h9⟩⟩
def mfp (gr va : Nat → Int32) (K : KM) (i j : Nat) : KM := if K.2.2.2.2 i = nI j then mst K gr va i else K
theorem mlis_t {dom lk gr va : Nat → Int32} {K X : KM} {i t : Nat} (h : mlc dom lk K i t ∧ mbt K (mlis dom lk gr va K X i t) t i) : mlis dom lk gr va K X i (t + 1) = mtk K (mlis dom lk gr va K X i t) i t := if_pos h
theorem mlis_f {dom lk gr va : Nat → Int32} {K X : KM} {i t : Nat} (h : ¬ (mlc dom lk K i t ∧ mbt K (mlis dom lk gr va K X i t) t i)) : mlis dom lk gr va K X i (t + 1) = mlis dom lk gr va K X i t := if_neg h
/-- parents are nodes or none -/
def parOK (N : Nat) (P : Nat → Int32) : Prop := ∀ j, j < N → P j = -1 ∨ ∃ q, q < N ∧ P j = nI q
/-- what node i lies at in five rows -/
def sel (X : KM) (i : Nat) : Int32 × Int32 × Int32 × Int32 × Int32 := (X.1 i, X.2.1 i, X.2.2.1 i, X.2.2.2.1 i, X.2.2.2.2 i)
theorem sel_ext {X Y : KM} {i : Nat} (h : sel X i = sel Y i) : X.1 i = Y.1 i ∧ X.2.1 i = Y.2.1 i ∧ X.2.2.1 i = Y.2.2.1 i ∧ X.2.2.2.1 i = Y.2.2.2.1 i ∧ X.2.2.2.2 i = Y.2.2.2.2 i := by
  simp only [sel, Prod.mk.injEq] at h
  exact h
theorem mst_sel {X : KM} {gr va : Nat → Int32} {i : Nat} : sel (mst X gr va i) i = (nI i, gr i, va i, 0, -1) := by
  simp only [sel, mst, pk_us]
theorem mst_out {X : KM} {gr va : Nat → Int32} {i j : Nat} (h : j ≠ i) : sel (mst X gr va i) j = sel X j := by
  simp only [sel, mst, pk_un h]
theorem mtk_sel {K X : KM} {i t : Nat} : sel (mtk K X i t) i = (K.1 t, K.2.1 t, K.2.2.1 t, K.2.2.2.1 t + 1, nI t) := by
  simp only [sel, mtk, pk_us]
theorem mtk_out {K X : KM} {i t j : Nat} (h : j ≠ i) : sel (mtk K X i t) j = sel X j := by
  simp only [sel, mtk, pk_un h]
theorem mlis_out {dom lk gr va : Nat → Int32} {K X : KM} {i j : Nat} (h : j ≠ i) : ∀ t, sel (mlis dom lk gr va K X i t) j = sel X j := by
  intro t
  induction t with
  | zero => exact mst_out h
  | succ t ih =>
    by_cases c : mlc dom lk K i t ∧ mbt K (mlis dom lk gr va K X i t) t i
    · rw [mlis_t c, mtk_out h, ih]
    · rw [mlis_f c, ih]
theorem mbt_congr {K X Y : KM} {t i : Nat} (h : sel X i = sel Y i) : mbt K X t i ↔ mbt K Y t i := by
  obtain ⟨h1, h2, h3, h4, -⟩ := sel_ext h
  simp only [mbt, h1, h2, h3, h4]
theorem mlis_in {dom lk gr va : Nat → Int32} {K X Y : KM} {i : Nat} : ∀ t, sel (mlis dom lk gr va K X i t) i = sel (mlis dom lk gr va K Y i t) i := by
  intro t
  induction t with
  | zero => exact mst_sel.trans mst_sel.symm
  | succ t ih =>
    by_cases c : mlc dom lk K i t ∧ mbt K (mlis dom lk gr va K X i t) t i
    · have c' : mlc dom lk K i t ∧ mbt K (mlis dom lk gr va K Y i t) t i := ⟨c.1, (mbt_congr ih).mp c.2⟩
      rw [mlis_t c, mlis_t c', mtk_sel, mtk_sel]
    · have c' : ¬ (mlc dom lk K i t ∧ mbt K (mlis dom lk gr va K Y i t) t i) := fun h9 => c ⟨h9.1, (mbt_congr ih).mpr h9.2⟩
      rw [mlis_f c, mlis_f c', ih]
theorem mann_in {dom lk gr va : Nat → Int32} {N : Nat} {K X : KM} : ∀ n j, (j < n → sel (mann dom lk gr va N K X n) j = sel (mlis dom lk gr va K K j N) j) ∧ (¬ j < n → sel (mann dom lk gr va N K X n) j = sel X j) := by
  intro n
  induction n with
  | zero => exact fun j => ⟨fun h => absurd h (Nat.not_lt_zero _), fun _ => rfl⟩
  | succ n ih =>
    intro j
    by_cases e : j = n
    · subst e
      exact ⟨fun _ => mlis_in N, fun h => absurd (Nat.lt_succ_self _) h⟩
    · have h1 : sel (mann dom lk gr va N K X (n + 1)) j = sel (mann dom lk gr va N K X n) j := mlis_out e N
      exact ⟨fun h => h1.trans ((ih j).1 (by omega)), fun h => h1.trans ((ih j).2 (by omega))⟩
theorem mcp_sel {K X : KM} : ∀ n j, (j < n → sel (mcp K X n) j = sel X j) ∧ (¬ j < n → sel (mcp K X n) j = sel K j) := by
  intro n
  induction n with
  | zero => exact fun j => ⟨fun h => absurd h (Nat.not_lt_zero _), fun _ => rfl⟩
  | succ n ih =>
    intro j
    by_cases e : j = n
    · subst e
      exact ⟨fun _ => by simp only [sel, mcp, pk_us], fun h => absurd (Nat.lt_succ_self _) h⟩
    · have h1 : sel (mcp K X (n + 1)) j = sel (mcp K X n) j := by simp only [sel, mcp, pk_un e]
      exact ⟨fun h => h1.trans ((ih j).1 (by omega)), fun h => h1.trans ((ih j).2 (by omega))⟩
/-- an announcement's outcome, row by row -/
def mAnn (dom lk gr va : Nat → Int32) (N : Nat) (K : KM) : KM :=
  (fun j => if j < N then (mlis dom lk gr va K K j N).1 j else K.1 j, fun j => if j < N then (mlis dom lk gr va K K j N).2.1 j else K.2.1 j, fun j => if j < N then (mlis dom lk gr va K K j N).2.2.1 j else K.2.2.1 j, fun j => if j < N then (mlis dom lk gr va K K j N).2.2.2.1 j else K.2.2.2.1 j, fun j => if j < N then (mlis dom lk gr va K K j N).2.2.2.2 j else K.2.2.2.2 j)
theorem mAnn_eq {dom lk gr va : Nat → Int32} {N : Nat} {K X : KM} : mcp K (mann dom lk gr va N K X N) N = mAnn dom lk gr va N K := by
  have h : ∀ j, sel (mcp K (mann dom lk gr va N K X N) N) j = sel (mAnn dom lk gr va N K) j := by
    intro j
    by_cases c : j < N
    · rw [(mcp_sel N j).1 c, (mann_in N j).1 c]
      simp only [sel, mAnn, c, if_true]
    · rw [(mcp_sel N j).2 c]
      simp only [sel, mAnn, c, if_false]
  have e1 : ∀ {f g : Nat → Int32}, (∀ j, f j = g j) → f = g := fun h => funext h
  refine Prod.ext (e1 fun j => (sel_ext (h j)).1) (Prod.ext (e1 fun j => (sel_ext (h j)).2.1) (Prod.ext (e1 fun j => (sel_ext (h j)).2.2.1) (Prod.ext (e1 fun j => (sel_ext (h j)).2.2.2.1) (e1 fun j => (sel_ext (h j)).2.2.2.2))))
theorem mlis_par {dom lk gr va : Nat → Int32} {K X : KM} {i N : Nat} : ∀ t, t ≤ N → (mlis dom lk gr va K X i t).2.2.2.2 i = -1 ∨ ∃ q, q < N ∧ (mlis dom lk gr va K X i t).2.2.2.2 i = nI q := by
  intro t
  induction t with
  | zero => exact fun _ => Or.inl pk_us
  | succ t ih =>
    intro ht
    by_cases c : mlc dom lk K i t ∧ mbt K (mlis dom lk gr va K X i t) t i
    · rw [mlis_t c]
      exact Or.inr ⟨t, by omega, pk_us⟩
    · rw [mlis_f c]
      exact ih (by omega)
theorem mAnn_par {dom lk gr va : Nat → Int32} {N : Nat} {K : KM} : parOK N (mAnn dom lk gr va N K).2.2.2.2 := by
  intro j hj
  simp only [mAnn, hj, if_true]
  exact mlis_par N (Nat.le_refl _)
def mtk1 (dom lk gr va dr dl td : Nat → Int32) (N : Nat) (o : OR × KM) : OR × KM :=
  (stD N (mAnn dom lk gr va N o.2).2.2.2.1 (mAnn dom lk gr va N o.2).2.2.2.2 dl td (drf dr o.1.2 o.1.1 N, o.1.2) 9, mAnn dom lk gr va N o.2)
def mtkN (dom lk gr va dr dl td : Nat → Int32) (N : Nat) (o : OR × KM) : Nat → OR × KM
  | 0 => o
  | k + 1 => mtk1 dom lk gr va dr dl td N (mtkN dom lk gr va dr dl td N o k)
theorem okN_m1 {N : Nat} (hN : N ≤ 10) : ¬ okN N (-1) := by
  rintro ⟨i, hi, e⟩
  exact nI_ne_m1 (by omega) e.symm
/-- steering skips who has no parent -/
theorem stN_skip {N d i : Nat} {S P dl td : Nat → Int32} {o : OR} (hN : N ≤ 10) (h : P i = -1 ∨ ¬ S i = nI d) : stN N S P dl td d o (i + 1) = stN N S P dl td d o i := by
  by_cases c : S i = nI d
  · have hp : P i = -1 := h.elim id (fun h9 => absurd c h9)
    show (if S i = nI d then _ else _) = _
    rw [if_pos c]
    exact stf_n hN (by rw [hp]; exact okN_m1 hN)
  · show (if S i = nI d then _ else _) = _
    rw [if_neg c]
theorem stN_take {N d i q : Nat} {S P dl td : Nat → Int32} {o : OR} (hN : N ≤ 10) (hq : q < N) (e : P i = nI q) (hs : S i = nI d) : stN N S P dl td d o (i + 1) = stq dl td (stN N S P dl td d o i) q i := by
  show (if S i = nI d then _ else _) = _
  rw [if_pos hs]
  exact stf_q hN hq e
/-- the reference's level, up to node a -/
def isParM (N : Nat) (dom lk : Nat → Int32) (d : Nat) (f0 : Nat → Int32) (a : Nat) (f : Nat → Int32) : Prop := ∀ x, x < N → ((x < a ∧ f0 x = -1 ∧ ∃ i, i < N ∧ f0 i = nI d ∧ nb dom lk x i) → f x = nI (d + 1)) ∧ (¬ (x < a ∧ f0 x = -1 ∧ ∃ i, i < N ∧ f0 i = nI d ∧ nb dom lk x i) → f x = f0 x)
/-- within a level: node a, up to the other one z -/
def isInn (N : Nat) (dom lk : Nat → Int32) (d a : Nat) (g : Nat → Int32) (z : Nat) (f : Nat → Int32) : Prop := (∀ x, x < N → ¬ x = a → f x = g x) ∧ ((f a = g a ∧ (g a = -1 → ∀ i, i < z → ¬ (g i = nI d ∧ nb dom lk a i))) ∨ (g a = -1 ∧ f a = nI (d + 1) ∧ ∃ i, i < N ∧ g i = nI d ∧ nb dom lk a i))
theorem isInn_0 {N : Nat} {dom lk : Nat → Int32} {d a : Nat} {g : Nat → Int32} : isInn N dom lk d a g 0 g := ⟨fun _ _ _ => rfl, Or.inl ⟨rfl, fun _ i h => absurd h (Nat.not_lt_zero _)⟩⟩
theorem isInn_m1 {N : Nat} {dom lk : Nat → Int32} {d a z : Nat} {g f : Nat → Int32} (hd : d ≤ 10) (h : isInn N dom lk d a g z f) (e : f a = -1) : g a = -1 ∧ ∀ i, i < z → ¬ (g i = nI d ∧ nb dom lk a i) := by
  rcases h.2 with ⟨h1, h2⟩ | ⟨h1, h2, h3⟩
  · exact ⟨h1.symm.trans e, h2 (h1.symm.trans e)⟩
  · exact absurd (h2.symm.trans e) (nI_ne_m1 (by omega))
theorem isInn_at {N : Nat} {dom lk : Nat → Int32} {d a z : Nat} {g f : Nat → Int32} (hd : d ≤ 10) (hz : z < N) (h : isInn N dom lk d a g z f) (e : f a = -1) : f z = g z := by
  by_cases c : z = a
  · subst c; exact e.trans (isInn_m1 hd h e).1.symm
  · exact h.1 z hz c
theorem isInn_no {N : Nat} {dom lk : Nat → Int32} {d a z : Nat} {g f : Nat → Int32} (hd : d ≤ 10) (hz : z < N) (h : isInn N dom lk d a g z f) (e : f a = -1) (hn : ¬ (f z = nI d ∧ nb dom lk a z)) : isInn N dom lk d a g (z + 1) (upd f a (-1)) := by
  obtain ⟨h1, h2⟩ := isInn_m1 hd h e
  refine ⟨fun x hx hne => (pk_un hne).trans (h.1 x hx hne), Or.inl ⟨pk_us.trans h1.symm, fun _ i hi => ?_⟩⟩
  by_cases c : i = z
  · subst c
    rw [isInn_at hd hz h e] at hn
    exact hn
  · exact h2 i (by omega)
theorem isInn_yes {N : Nat} {dom lk : Nat → Int32} {d a z : Nat} {g f : Nat → Int32} (hd : d ≤ 10) (hz : z < N) (h : isInn N dom lk d a g z f) (e : f a = -1) (hy : f z = nI d) (hn : nb dom lk a z) : isInn N dom lk d a g (z + 1) (upd f a (nI (d + 1))) := by
  obtain ⟨h1, h2⟩ := isInn_m1 hd h e
  exact ⟨fun x hx hne => (pk_un hne).trans (h.1 x hx hne), Or.inr ⟨h1, pk_us, z, hz, (isInn_at hd hz h e).symm.trans hy, hn⟩⟩
theorem isParM_0 {N : Nat} {dom lk : Nat → Int32} {d : Nat} {f0 : Nat → Int32} : isParM N dom lk d f0 0 f0 := fun x _ => ⟨fun h => absurd h.1 (Nat.not_lt_zero _), fun _ => rfl⟩
/-- who lies at d now, lay at d before the level -/
theorem isParM_at {N : Nat} {dom lk : Nat → Int32} {d : Nat} {f0 f : Nat → Int32} {a x : Nat} (hd : d ≤ 10) (hx : x < N) (h : isParM N dom lk d f0 a f) : f x = nI d ↔ f0 x = nI d := by
  by_cases c : x < a ∧ f0 x = -1 ∧ ∃ i, i < N ∧ f0 i = nI d ∧ nb dom lk x i
  · rw [(h x hx).1 c, c.2.1]
    constructor
    · intro e; exact absurd ((nI_eq (by omega) (by omega)).mp e) (by omega)
    · intro e; exact absurd e.symm (nI_ne_m1 (by omega))
  · rw [(h x hx).2 c]
/-- the inner loop's end: through all, or found, or laid before -/
theorem isParM_s {N : Nat} {dom lk : Nat → Int32} {d : Nat} {f0 g f : Nat → Int32} {a z : Nat} (hd : d ≤ 10) (ha : a < N) (h : isParM N dom lk d f0 a g) (hi : isInn N dom lk d a g z f) (he : z = N ∨ ¬ f a = -1) : isParM N dom lk d f0 (a + 1) f := by
  have ga : g a = f0 a := (h a ha).2 (fun h9 => absurd h9.1 (Nat.lt_irrefl _))
  intro x hx
  by_cases c : x = a
  · subst c
    rcases hi.2 with ⟨h1, h2⟩ | ⟨h1, h2, i, h3, h4, h5⟩
    · refine ⟨fun ⟨_, e1, i, h3, h4, h5⟩ => ?_, fun _ => h1.trans ga⟩
      rcases he with he | he
      · subst he
        exact absurd ⟨(isParM_at hd h3 h).mpr h4, h5⟩ (h2 (ga.trans e1) i h3)
      · exact absurd (h1.trans (ga.trans e1)) he
    · exact ⟨fun _ => h2, fun h9 => absurd ⟨Nat.lt_succ_self _, ga.symm.trans h1, i, h3, (isParM_at hd h3 h).mp h4, h5⟩ h9⟩
  · rw [hi.1 x hx c]
    exact ⟨fun h9 => (h x hx).1 ⟨by omega, h9.2⟩, fun h9 => (h x hx).2 (fun h8 => h9 ⟨by omega, h8.2⟩)⟩
def sym (lk : Nat → Int32) : Prop := ∀ i j, i < 10 → j < 10 → lk (i * 10 + j) = lk (j * 10 + i)
theorem nb_sym {dom lk : Nat → Int32} (h : sym lk) {i j : Nat} (hi : i < 10) (hj : j < 10) (hn : nb dom lk i j) : nb dom lk j i := ⟨hn.1.symm, (h j i hj hi).trans hn.2⟩
theorem isPar_ofM {N : Nat} {dom lk : Nat → Int32} {d : Nat} {f0 f : Nat → Int32} (hN : N ≤ 10) (hs : sym lk) (h : isParM N dom lk d f0 N f) : isPar N dom lk d f0 N f := by
  intro j hj
  have e : (f0 j = -1 ∧ ∃ i, i < N ∧ f0 i = nI d ∧ nb dom lk i j) ↔ (j < N ∧ f0 j = -1 ∧ ∃ i, i < N ∧ f0 i = nI d ∧ nb dom lk j i) := by
    constructor
    · rintro ⟨h1, i, h2, h3, h4⟩
      exact ⟨hj, h1, i, h2, h3, nb_sym hs (by omega) (by omega) h4⟩
    · rintro ⟨_, h1, i, h2, h3, h4⟩
      exact ⟨h1, i, h2, h3, nb_sym hs (by omega) (by omega) h4⟩
  rw [e]
  exact h j hj
theorem isLev_M0 {N : Nat} {dom lk : Nat → Int32} {s : Nat} {f : Nat → Int32} (h : ∀ j, j < N → (j = s → f j = 0) ∧ (¬ j = s → f j = -1)) : isLev N dom lk s 0 f := by
  intro j hj
  by_cases e : j = s
  · exact Or.inr ⟨0, Nat.le_refl _, (h j hj).1 e, e, fun k' hk => absurd hk (Nat.not_lt_zero _)⟩
  · exact Or.inl ⟨(h j hj).2 e, e⟩
/-- differences of small numbers -/
theorem dif_lt {a b : Nat} (ha : a ≤ 1000) (hb : b ≤ 1000) : nI a - nI b < 0 ↔ nI a < nI b := by
  rw [Int32.lt_iff_toInt_lt, pk_sub_toInt (by omega) (by omega), Int32.lt_iff_toInt_lt, nI_toInt (by omega), nI_toInt (by omega)]
  show (a : Int) - b < 0 ↔ _
  omega
theorem dif_eq {a b : Nat} (ha : a ≤ 1000) (hb : b ≤ 1000) : nI a - nI b = 0 ↔ nI a = nI b := by
  rw [← Int32.toInt_inj, pk_sub_toInt (by omega) (by omega), ← Int32.toInt_inj, nI_toInt (by omega), nI_toInt (by omega)]
  show (a : Int) - b = 0 ↔ _
  omega
theorem gr_lt {gr va : Nat → Int32} (hg : rng gr va) (i j : Nat) : gr i - gr j < 0 ↔ gr i < gr j := by
  obtain ⟨⟨a, ha, ea⟩, -⟩ := hg i
  obtain ⟨⟨b, hb, eb⟩, -⟩ := hg j
  rw [ea, eb]; exact dif_lt (by omega) (by omega)
theorem gr_eq {gr va : Nat → Int32} (hg : rng gr va) (i j : Nat) : gr i - gr j = 0 ↔ gr i = gr j := by
  obtain ⟨⟨a, ha, ea⟩, -⟩ := hg i
  obtain ⟨⟨b, hb, eb⟩, -⟩ := hg j
  rw [ea, eb]; exact dif_eq (by omega) (by omega)
theorem va_lt {gr va : Nat → Int32} (hg : rng gr va) (i j : Nat) : va i - va j < 0 ↔ va i < va j := by
  obtain ⟨-, ⟨a, ha, ea⟩⟩ := hg i
  obtain ⟨-, ⟨b, hb, eb⟩⟩ := hg j
  rw [ea, eb]; exact dif_lt (by omega) (by omega)
theorem va_eq {gr va : Nat → Int32} (hg : rng gr va) (i j : Nat) : va i - va j = 0 ↔ va i = va j := by
  obtain ⟨-, ⟨a, ha, ea⟩⟩ := hg i
  obtain ⟨-, ⟨b, hb, eb⟩⟩ := hg j
  rw [ea, eb]; exact dif_eq (by omega) (by omega)
