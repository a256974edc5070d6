/-! the class's rows and the reference's hold the same -/
/-- one row: the rank is class, variance and number of what is known -/
def rel1 (K : KT) (M : KM) (j : Nat) : Prop := K.1 j = M.1 j ∧ K.2.2.1 j = M.2.2.2.1 j ∧ K.2.2.2 j = M.2.2.2.2 j ∧ ∃ a b c : Nat, a ≤ 255 ∧ b ≤ 1000 ∧ c < 10 ∧ M.2.1 j = nI a ∧ M.2.2.1 j = nI b ∧ M.1 j = nI c ∧ K.2.1 j = nI ((a * 1001 + b) * 10 + c)
def Rk (N : Nat) (K : KT) (M : KM) : Prop := K.1 = M.1 ∧ K.2.2.1 = M.2.2.2.1 ∧ K.2.2.2 = M.2.2.2.2 ∧ ∀ j, j < N → rel1 K M j
def selk (X : KT) (i : Nat) : Int32 × Int32 × Int32 × Int32 := (X.1 i, X.2.1 i, X.2.2.1 i, X.2.2.2 i)
theorem selk_ext {X Y : KT} {i : Nat} (h : selk X i = selk Y i) : X.1 i = Y.1 i ∧ X.2.1 i = Y.2.1 i ∧ X.2.2.1 i = Y.2.2.1 i ∧ X.2.2.2 i = Y.2.2.2 i := by
  simp only [selk, Prod.mk.injEq] at h
  exact h
theorem rel1_congr {K K' : KT} {M M' : KM} {j : Nat} (h : selk K' j = selk K j) (h' : sel M' j = sel M j) (hr : rel1 K M j) : rel1 K' M' j := by
  obtain ⟨e1, e2, e3, e4⟩ := selk_ext h
  obtain ⟨f1, f2, f3, f4, f5⟩ := sel_ext h'
  obtain ⟨h1, h2, h3, a, b, c, h4, h5, h6, h7, h8, h9, h10⟩ := hr
  exact ⟨by rw [e1, f1]; exact h1, by rw [e3, f4]; exact h2, by rw [e4, f5]; exact h3, a, b, c, h4, h5, h6, by rw [f2]; exact h7, by rw [f3]; exact h8, by rw [f1]; exact h9, by rw [e2]; exact h10⟩
theorem kst_in {K : KT} {i : Nat} {r : Int32} : selk (kst K i r) i = (nI i, r, 0, -1) := by
  simp only [selk, kst, pk_us]
theorem kst_out {K : KT} {i j : Nat} {r : Int32} (h : j ≠ i) : selk (kst K i r) j = selk K j := by
  simp only [selk, kst, pk_un h]
theorem kst_at {K : KT} {i : Nat} {r : Int32} : (kst K i r).1 i = nI i ∧ (kst K i r).2.1 i = r ∧ (kst K i r).2.2.1 i = 0 ∧ (kst K i r).2.2.2 i = -1 := ⟨pk_us, pk_us, pk_us, pk_us⟩
theorem mst_at {X : KM} {gr va : Nat → Int32} {i : Nat} : (mst X gr va i).1 i = nI i ∧ (mst X gr va i).2.1 i = gr i ∧ (mst X gr va i).2.2.1 i = va i ∧ (mst X gr va i).2.2.2.1 i = 0 ∧ (mst X gr va i).2.2.2.2 i = -1 := ⟨pk_us, pk_us, pk_us, pk_us, pk_us⟩
theorem mtk_at {K X : KM} {i t : Nat} : (mtk K X i t).1 i = K.1 t ∧ (mtk K X i t).2.1 i = K.2.1 t ∧ (mtk K X i t).2.2.1 i = K.2.2.1 t ∧ (mtk K X i t).2.2.2.1 i = K.2.2.2.1 t + 1 ∧ (mtk K X i t).2.2.2.2 i = nI t := ⟨pk_us, pk_us, pk_us, pk_us, pk_us⟩
theorem rel1_st {gr va : Nat → Int32} {K : KT} {M : KM} {i : Nat} (hg : rng gr va) (hi : i < 10) : rel1 (kst K i (rk gr va i)) (mst M gr va i) i := by
  obtain ⟨e1, e2, e3, e4⟩ := kst_at (K := K) (i := i) (r := rk gr va i)
  obtain ⟨f1, f2, f3, f4, f5⟩ := mst_at (X := M) (gr := gr) (va := va) (i := i)
  obtain ⟨a, b, ha, hb, ea, eb, er⟩ := rk_val hg hi
  exact ⟨e1.trans f1.symm, e3.trans f4.symm, e4.trans f5.symm, a, b, i, ha, hb, hi, f2.trans ea, f3.trans eb, f1, e2.trans er⟩
theorem Rk_st {N : Nat} {gr va : Nat → Int32} {K : KT} {M : KM} {i : Nat} (hg : rng gr va) (hi : i < 10) (h : Rk N K M) : Rk N (kst K i (rk gr va i)) (mst M gr va i) := by
  obtain ⟨h1, h2, h3, h4⟩ := h
  refine ⟨by simp only [kst, mst, h1], by simp only [kst, mst, h2], by simp only [kst, mst, h3], fun j hj => ?_⟩
  by_cases e : j = i
  · subst e; exact rel1_st hg hi
  · exact rel1_congr (kst_out e) (mst_out e) (h4 j hj)
theorem Rk_add {N : Nat} {gr va : Nat → Int32} {K : KT} {M : KM} (hg : rng gr va) (hN : N < 10) (h : Rk N K M) : Rk (N + 1) (kst K N (rk gr va N)) (mst M gr va N) := by
  obtain ⟨h1, h2, h3, h4⟩ := h
  refine ⟨by simp only [kst, mst, h1], by simp only [kst, mst, h2], by simp only [kst, mst, h3], fun j hj => ?_⟩
  by_cases e : j = N
  · subst e; exact rel1_st hg hN
  · exact rel1_congr (kst_out e) (mst_out e) (h4 j (by omega))
theorem Rk_fp {N : Nat} {gr va : Nat → Int32} {K : KT} {M : KM} {i j : Nat} (hg : rng gr va) (hi : i < 10) (h : Rk N K M) : Rk N (kfp gr va K i j) (mfp gr va M i j) := by
  unfold kfp mfp
  rw [h.2.2.1]
  by_cases c : M.2.2.2.2 i = nI j
  · rw [if_pos c, if_pos c]; exact Rk_st hg hi h
  · rw [if_neg c, if_neg c]; exact h
/-- listening -/
theorem ktk_in {K E : KT} {i t : Nat} (h : ktc K E i t) : selk (ktk K E i t) i = (E.1 t, E.2.1 t, E.2.2.1 t + 1, nI t) := by
  unfold ktk
  rw [if_pos h]
  simp only [selk, pk_us]
theorem ktk_at {K E : KT} {i t : Nat} (h : ktc K E i t) : (ktk K E i t).1 i = E.1 t ∧ (ktk K E i t).2.1 i = E.2.1 t ∧ (ktk K E i t).2.2.1 i = E.2.2.1 t + 1 ∧ (ktk K E i t).2.2.2 i = nI t := by
  unfold ktk
  rw [if_pos h]
  exact ⟨pk_us, pk_us, pk_us, pk_us⟩
theorem ktk_out {K E : KT} {i t j : Nat} (h : j ≠ i) : selk (ktk K E i t) j = selk K j := by
  unfold ktk
  by_cases c : ktc K E i t
  · rw [if_pos c]; simp only [selk, pk_un h]
  · rw [if_neg c]
theorem ktk_no {K E : KT} {i t : Nat} (h : ¬ ktc K E i t) : ktk K E i t = K := if_neg h
theorem klis_out {dom lk : Nat → Int32} {r : Int32} {K E : KT} {i j : Nat} (h : j ≠ i) : ∀ t, selk (klis dom lk r K E i t) j = selk K j := by
  intro t
  induction t with
  | zero => exact kst_out h
  | succ t ih =>
    by_cases c : klc dom lk E i t
    · rw [klis_t c, ktk_out h, ih]
    · rw [klis_f c, ih]
theorem klis_in {dom lk : Nat → Int32} {r : Int32} {K K' E : KT} {i : Nat} : ∀ t, selk (klis dom lk r K E i t) i = selk (klis dom lk r K' E i t) i := by
  intro t
  induction t with
  | zero => exact kst_in.trans kst_in.symm
  | succ t ih =>
    by_cases c : klc dom lk E i t
    · rw [klis_t c, klis_t c]
      obtain ⟨e1, e2, e3, e4⟩ := selk_ext ih
      have ec : ktc (klis dom lk r K E i t) E i t ↔ ktc (klis dom lk r K' E i t) E i t := by simp only [ktc, e2, e3]
      by_cases c2 : ktc (klis dom lk r K E i t) E i t
      · rw [ktk_in c2, ktk_in (ec.mp c2)]
      · rw [ktk_no c2, ktk_no (fun h9 => c2 (ec.mpr h9))]; exact ih
    · rw [klis_f c, klis_f c, ih]
theorem kann_in {dom lk gr va : Nat → Int32} {N : Nat} {K E : KT} : ∀ n j, (j < n → selk (kann dom lk gr va N K E n) j = selk (klis dom lk (rk gr va j) K E j N) j) ∧ (¬ j < n → selk (kann dom lk gr va N K E n) j = selk K j) := by
  intro n
  induction n with
  | zero => exact fun j => ⟨fun h => absurd h (Nat.not_lt_zero _), fun _ => rfl⟩
  | succ n ih =>
    intro j
    by_cases e : j = n
    · subst e
      exact ⟨fun _ => klis_in N, fun h => absurd (Nat.lt_succ_self _) h⟩
    · have h1 : selk (kann dom lk gr va N K E (n + 1)) j = selk (kann dom lk gr va N K E n) j := klis_out e N
      exact ⟨fun h => h1.trans ((ih j).1 (by omega)), fun h => h1.trans ((ih j).2 (by omega))⟩
theorem rank_lt {a b c a' b' c' : Nat} (ha : a ≤ 255) (hb : b ≤ 1000) (hc : c < 10) (ha' : a' ≤ 255) (hb' : b' ≤ 1000) (hc' : c' < 10) :
    nI ((a * 1001 + b) * 10 + c) < nI ((a' * 1001 + b') * 10 + c') ↔ (nI a < nI a' ∨ nI a = nI a' ∧ (nI b < nI b' ∨ nI b = nI b' ∧ nI c < nI c')) := by
  rw [nI_ltI (by omega) (by omega), nI_ltI (by omega) (by omega), nI_ltI (by omega) (by omega), nI_ltI (by omega) (by omega), nI_eq (by omega) (by omega), nI_eq (by omega) (by omega)]
  omega
theorem rank_eq {a b c a' b' c' : Nat} (ha : a ≤ 255) (hb : b ≤ 1000) (hc : c < 10) (ha' : a' ≤ 255) (hb' : b' ≤ 1000) (hc' : c' < 10) :
    nI ((a * 1001 + b) * 10 + c) = nI ((a' * 1001 + b') * 10 + c') ↔ (nI a = nI a' ∧ nI b = nI b' ∧ nI c = nI c') := by
  rw [nI_eq (by omega) (by omega), nI_eq (by omega) (by omega), nI_eq (by omega) (by omega), nI_eq (by omega) (by omega)]
  omega
/-- the same is found better -/
theorem ktc_mbt {K' E : KT} {X M : KM} {i t : Nat} (h : rel1 K' X i) (he : rel1 E M t) : ktc K' E i t ↔ mbt M X t i := by
  obtain ⟨h1, h2, h3, a, b, c, ha, hb, hc, e1, e2, e3, e4⟩ := h
  obtain ⟨g1, g2, g3, a', b', c', ha', hb', hc', f1, f2, f3, f4⟩ := he
  unfold ktc mbt
  rw [e4, f4, e1, e2, e3, f1, f2, f3, h2, g2, rank_lt ha' hb' hc' ha hb hc, rank_eq ha' hb' hc' ha hb hc]
  constructor
  · rintro ((x1 | ⟨x2, x3 | ⟨x4, x5⟩⟩) | ⟨⟨x6, x7, x8⟩, x9⟩)
    · exact Or.inl x1
    · exact Or.inr ⟨x2, Or.inl x3⟩
    · exact Or.inr ⟨x2, Or.inr ⟨x4, Or.inl x5⟩⟩
    · exact Or.inr ⟨x6, Or.inr ⟨x7, Or.inr ⟨x8, x9⟩⟩⟩
  · rintro (x1 | ⟨x2, x3 | ⟨x4, x5 | ⟨x6, x7⟩⟩⟩)
    · exact Or.inl (Or.inl x1)
    · exact Or.inl (Or.inr ⟨x2, Or.inl x3⟩)
    · exact Or.inl (Or.inr ⟨x2, Or.inr ⟨x4, x5⟩⟩)
    · exact Or.inr ⟨⟨x2, x4, x6⟩, x7⟩
theorem rel1_lis {dom lk gr va : Nat → Int32} {N : Nat} {K : KT} {M : KM} {i : Nat} (hN : N ≤ 10) (hi : i < 10) (hg : rng gr va) (h : Rk N K M) : ∀ t, t ≤ N → rel1 (klis dom lk (rk gr va i) K K i t) (mlis dom lk gr va M M i t) i := by
  intro t
  induction t with
  | zero => exact fun _ => rel1_st hg hi
  | succ t ih =>
    intro ht
    have h0 := ih (by omega)
    have het := h.2.2.2 t (by omega)
    have hc : klc dom lk K i t ↔ mlc dom lk M i t := by simp only [klc, mlc, h.2.1, h.2.2.1]
    by_cases c : klc dom lk K i t
    · rw [klis_t c]
      by_cases c2 : ktc (klis dom lk (rk gr va i) K K i t) K i t
      · rw [mlis_t ⟨hc.mp c, (ktc_mbt h0 het).mp c2⟩]
        obtain ⟨e1, e2, e3, e4⟩ := ktk_at c2
        obtain ⟨f1, f2, f3, f4, f5⟩ := mtk_at (K := M) (X := mlis dom lk gr va M M i t) (i := i) (t := t)
        obtain ⟨g1, g2, g3, a', b', c', ha', hb', hc', k1, k2, k3, k4⟩ := het
        exact ⟨by rw [e1, f1, g1], by rw [e3, f4, g2], by rw [e4, f5], a', b', c', ha', hb', hc', by rw [f2]; exact k1, by rw [f3]; exact k2, by rw [f1]; exact k3, by rw [e2]; exact k4⟩
      · rw [ktk_no c2, mlis_f (fun h9 => c2 ((ktc_mbt h0 het).mpr h9.2))]
        exact h0
    · rw [klis_f c, mlis_f (fun h9 => c (hc.mpr h9.1))]
      exact h0
theorem mAnn_sel {dom lk gr va : Nat → Int32} {N : Nat} {M : KM} {j : Nat} : (j < N → sel (mAnn dom lk gr va N M) j = sel (mlis dom lk gr va M M j N) j) ∧ (¬ j < N → sel (mAnn dom lk gr va N M) j = sel M j) := by
  constructor
  · intro c; simp only [sel, mAnn, c, if_true]
  · intro c; simp only [sel, mAnn, c, if_false]
theorem Rk_ann {dom lk gr va : Nat → Int32} {N : Nat} {K : KT} {M : KM} (hN : N ≤ 10) (hg : rng gr va) (h : Rk N K M) : Rk N (kann dom lk gr va N K K N) (mAnn dom lk gr va N M) := by
  have hr : ∀ j, j < N → rel1 (kann dom lk gr va N K K N) (mAnn dom lk gr va N M) j := fun j hj =>
    rel1_congr ((kann_in N j).1 hj) (mAnn_sel.1 hj) (rel1_lis hN (by omega) hg h N (Nat.le_refl _))
  have ho : ∀ j, ¬ j < N → selk (kann dom lk gr va N K K N) j = selk K j ∧ sel (mAnn dom lk gr va N M) j = sel M j := fun j hj => ⟨(kann_in N j).2 hj, mAnn_sel.2 hj⟩
  refine ⟨funext fun j => ?_, funext fun j => ?_, funext fun j => ?_, hr⟩
  · by_cases c : j < N
    · exact (hr j c).1
    · rw [(selk_ext (ho j c).1).1, (sel_ext (ho j c).2).1, h.1]
  · by_cases c : j < N
    · exact (hr j c).2.1
    · rw [(selk_ext (ho j c).1).2.2.1, (sel_ext (ho j c).2).2.2.2.1, h.2.1]
  · by_cases c : j < N
    · exact (hr j c).2.2.1
    · rw [(selk_ext (ho j c).1).2.2.2, (sel_ext (ho j c).2).2.2.2.2, h.2.2.1]
theorem Rk_tick {dom lk gr va dr dl td : Nat → Int32} {N : Nat} {o : OR} {K : KT} {M : KM} (hN : N ≤ 10) (hg : rng gr va) (h : Rk N K M) : ∀ k, (tkN dom lk gr va dr dl td N (o, K) k).1 = (mtkN dom lk gr va dr dl td N (o, M) k).1 ∧ Rk N (tkN dom lk gr va dr dl td N (o, K) k).2 (mtkN dom lk gr va dr dl td N (o, M) k).2 := by
  intro k
  induction k with
  | zero => exact ⟨rfl, h⟩
  | succ k ih =>
    have ha := Rk_ann (dom := dom) (lk := lk) hN hg ih.2
    refine ⟨?_, ha⟩
    simp only [tkN, mtkN, tk1, mtk1]
    rw [ha.2.1, ha.2.2.1, ih.1]
/-- what holds of both between the calls -/
def Inv (N : Nat) (gr va lk : Nat → Int32) (K : KT) (M : KM) : Prop := N ≤ 10 ∧ rng gr va ∧ b01 lk ∧ sym lk ∧ Rk N K M
theorem b01_u {f : Nat → Int32} {k : Nat} {v : Int32} (h : b01 f) (hv : v = 0 ∨ v = 1) : b01 (upd f k v) := by
  intro j
  by_cases e : j = k
  · subst e; rw [pk_us]; exact hv
  · rw [pk_un e]; exact h j
theorem sym_u {f : Nat → Int32} {i j : Nat} {v : Int32} (hi : i < 10) (hj : j < 10) (h : sym f) : sym (upd (upd f (i * 10 + j) v) (j * 10 + i) v) := by
  intro a b ha hb
  have key : ∀ a b, a < 10 → b < 10 → upd (upd f (i * 10 + j) v) (j * 10 + i) v (a * 10 + b) = if (a = i ∧ b = j) ∨ (a = j ∧ b = i) then v else f (a * 10 + b) := by
    intro a b ha hb
    by_cases c1 : a * 10 + b = j * 10 + i
    · rw [c1, pk_us, if_pos (Or.inr (by omega))]
    · rw [pk_un c1]
      by_cases c2 : a * 10 + b = i * 10 + j
      · rw [c2, pk_us, if_pos (Or.inl (by omega))]
      · rw [pk_un c2, if_neg (by omega)]
  rw [key a b ha hb, key b a hb ha, h a b ha hb]
  by_cases c : (a = i ∧ b = j) ∨ (a = j ∧ b = i)
  · rw [if_pos c, if_pos (by omega)]
  · rw [if_neg c, if_neg (by omega)]
theorem inR_nat {a : Nat} {x : Int32} (ha : a < 2 ^ 31) (h : inR 0 x (nI a)) : ∃ k, k ≤ a ∧ x = nI k := by
  obtain ⟨h1, h2⟩ := h
  obtain ⟨j, hj, rfl⟩ := nI_of (Int32.not_lt.mpr h1)
  exact ⟨j, (nI_leI hj ha).mp h2, rfl⟩
theorem rng_u {gr va : Nat → Int32} {i : Nat} {a b : Int32} (h : rng gr va) (ha : inR 0 a 255) (hb : inR 0 b 1000) : rng (upd gr i a) (upd va i b) := by
  intro j
  by_cases e : j = i
  · subst e
    rw [pk_us, pk_us]
    exact ⟨inR_nat (a := 255) (by decide) ha, inR_nat (a := 1000) (by decide) hb⟩
  · rw [pk_un e, pk_un e]; exact h j
theorem Inv_0 : Inv 0 (fun _ => 0) (fun _ => 0) (fun _ => 0) ((fun _ => 0), (fun _ => 0), (fun _ => 0), (fun _ => 0)) ((fun _ => 0), (fun _ => 0), (fun _ => 0), (fun _ => 0), (fun _ => 0)) :=
  ⟨by decide, fun _ => ⟨⟨0, by decide, rfl⟩, ⟨0, by decide, rfl⟩⟩, fun _ => Or.inl rfl, fun _ _ _ _ => rfl, rfl, rfl, rfl, fun j h => absurd h (Nat.not_lt_zero _)⟩
