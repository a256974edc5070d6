/-! what a deed makes of both nets -/
theorem cl_le {lk : Nat → Int32} : ∀ n, cl lk n ≤ n := by
  intro n
  induction n with
  | zero => exact Nat.le_refl _
  | succ n ih =>
    show cl lk n + (if lk n = 1 then 1 else 0) ≤ n + 1
    by_cases c : lk n = 1
    · rw [if_pos c]; omega
    · rw [if_neg c]; omega
theorem cl_out {lk : Nat → Int32} {q : Nat} {v : Int32} : ∀ n, n ≤ q → cl (upd lk q v) n = cl lk n := by
  intro n
  induction n with
  | zero => exact fun _ => rfl
  | succ n ih =>
    intro h
    show cl (upd lk q v) n + (if upd lk q v n = 1 then 1 else 0) = cl lk n + (if lk n = 1 then 1 else 0)
    rw [ih (by omega), pk_un (show n ≠ q by omega)]
theorem cl_set {lk : Nat → Int32} {q : Nat} (h1 : ¬ lk q = 1) : ∀ n, q < n → cl (upd lk q 1) n = cl lk n + 1 := by
  intro n
  induction n with
  | zero => intro h; omega
  | succ n ih =>
    intro h
    show cl (upd lk q 1) n + (if upd lk q 1 n = 1 then 1 else 0) = cl lk n + (if lk n = 1 then 1 else 0) + 1
    by_cases e : n = q
    · subst e
      rw [cl_out n (Nat.le_refl _), pk_us, if_pos rfl, if_neg h1]
    · rw [ih (by omega), pk_un e]
      omega
theorem cl_clr {lk : Nat → Int32} {q : Nat} (h1 : lk q = 1) : ∀ n, q < n → cl (upd lk q 0) n + 1 = cl lk n := by
  intro n
  induction n with
  | zero => intro h; omega
  | succ n ih =>
    intro h
    show cl (upd lk q 0) n + (if upd lk q 0 n = 1 then 1 else 0) + 1 = cl lk n + (if lk n = 1 then 1 else 0)
    by_cases e : n = q
    · subst e
      rw [cl_out n (Nat.le_refl _), pk_us, if_neg (show ¬ (0 : Int32) = 1 by decide), if_pos h1]
    · rw [pk_un e]
      have h9 := ih (by omega)
      omega
theorem LA_add {N : Nat} {aa dom gr va dr : Nat → Int32} {d a b e : Int32} (h : LA N aa dom gr va dr) : LA (N + 1) (upd (upd (upd (upd aa (4 * N) d) (4 * N + 1) a) (4 * N + 2) b) (4 * N + 3) e) (upd dom N d) (upd gr N a) (upd va N b) (upd dr N e) := by
  intro i hi
  by_cases c : i = N
  · subst c
    refine ⟨?_, ?_, ?_, ?_⟩
    · rw [pk_un (by omega), pk_un (by omega), pk_un (by omega), pk_us, pk_us]
    · rw [pk_un (by omega), pk_un (by omega), pk_us, pk_us]
    · rw [pk_un (by omega), pk_us, pk_us]
    · rw [pk_us, pk_us]
  · obtain ⟨h1, h2, h3, h4⟩ := h i (by omega)
    refine ⟨?_, ?_, ?_, ?_⟩ <;> rw [pk_un (by omega), pk_un (by omega), pk_un (by omega), pk_un (by omega), pk_un c] <;> assumption
theorem LA_clock {N : Nat} {aa dom gr va dr : Nat → Int32} {i : Nat} {a b : Int32} (h : LA N aa dom gr va dr) : LA N (upd (upd aa (4 * i + 1) a) (4 * i + 2) b) dom (upd gr i a) (upd va i b) dr := by
  intro j hj
  obtain ⟨h1, h2, h3, h4⟩ := h j hj
  by_cases c : j = i
  · subst c
    refine ⟨?_, ?_, ?_, ?_⟩
    · rw [pk_un (by omega), pk_un (by omega)]; exact h1
    · rw [pk_un (by omega), pk_us, pk_us]
    · rw [pk_us, pk_us]
    · rw [pk_un (by omega), pk_un (by omega)]; exact h4
  · refine ⟨?_, ?_, ?_, ?_⟩
    · rw [pk_un (by omega), pk_un (by omega)]; exact h1
    · rw [pk_un (by omega), pk_un (by omega), pk_un c]; exact h2
    · rw [pk_un (by omega), pk_un (by omega), pk_un c]; exact h3
    · rw [pk_un (by omega), pk_un (by omega)]; exact h4
theorem LA_drift {N : Nat} {aa dom gr va dr : Nat → Int32} {i : Nat} {a : Int32} (h : LA N aa dom gr va dr) : LA N (upd aa (4 * i + 3) a) dom gr va (upd dr i a) := by
  intro j hj
  obtain ⟨h1, h2, h3, h4⟩ := h j hj
  refine ⟨?_, ?_, ?_, ?_⟩
  · rw [pk_un (by omega)]; exact h1
  · rw [pk_un (by omega)]; exact h2
  · rw [pk_un (by omega)]; exact h3
  · by_cases c : j = i
    · subst c; rw [pk_us, pk_us]
    · rw [pk_un (by omega), pk_un c]; exact h4
theorem LK_add {N : Nat} {K : KT} {gr va : Nat → Int32} {kk : Nat → Int64} (hg : rng gr va) (hN : N < 10) (h : LK N K kk) : LK (N + 1) (kst K N (rk gr va N)) (vp_updL kk N (lN (rkn gr va N * 110))) := by
  intro i hi
  by_cases c : i = N
  · subst c
    rw [pk_uLs]; exact LK1_st hg hN
  · rw [pk_uLn c]
    exact ((h i (by omega)).congr (kst_out c)).wide (by omega)
theorem kfp_out {gr va : Nat → Int32} {K : KT} {i j a : Nat} (h : a ≠ i) : selk (kfp gr va K i j) a = selk K a := by
  unfold kfp
  by_cases c : K.2.2.2 i = nI j
  · rw [if_pos c]; exact kst_out h
  · rw [if_neg c]
theorem LK_fp {N : Nat} {K : KT} {gr va : Nat → Int32} {kk : Nat → Int64} {i j : Nat} {x : Int64} (hg : rng gr va) (hi : i < 10) (h : LK N K kk) (hx : K.2.2.2 i = nI j ∧ x = lN (rkn gr va i * 110) ∨ ¬ K.2.2.2 i = nI j ∧ x = kk i) : LK N (kfp gr va K i j) (vp_updL kk i x) := by
  intro a ha
  by_cases c : a = i
  · subst c
    rw [pk_uLs]
    unfold kfp
    rcases hx with ⟨h1, rfl⟩ | ⟨h1, rfl⟩
    · rw [if_pos h1]; exact LK1_st hg hi
    · rw [if_neg h1]; exact h a ha
  · rw [pk_uLn c]
    exact (h a ha).congr (kfp_out c)
theorem LT_lay {t td : Nat → Int32} {i j : Nat} (hi : i < 10) (hj : j < 10) (hne : ¬ i = j) (h : LT t td) : LT (upd t (prn i j) (nI 0)) (upd (upd td (i * 10 + j) 0) (j * 10 + i) 0) := by
  have h9 := LT_tell (d := 0) hi hj hne h
  rw [show (-0 : Int32) = 0 from by decide] at h9
  have e : (if i < j then (0 : Int32) else 0) = nI 0 := by
    by_cases c : i < j
    · rw [if_pos c]; rfl
    · rw [if_neg c]; rfl
  rw [e] at h9
  exact h9
theorem self_u {lk : Nat → Int32} {i j : Nat} {v : Int32} (hi : i < 10) (hj : j < 10) (hne : ¬ i = j) (h : ∀ i, i < 10 → ¬ lk (i * 10 + i) = 1) : ∀ a, a < 10 → ¬ upd (upd lk (i * 10 + j) v) (j * 10 + i) v (a * 10 + a) = 1 := by
  intro a ha
  rw [pk_un (by omega), pk_un (by omega)]
  exact h a ha
theorem JV_add {N : Nat} {tk : Int32} {dom gr va dr : Nat → Int32} {off rt : Nat → Int64} {cnt : Int32} {lk dl td : Nat → Int32} {K : KT} {nn aa ll : Nat → Int32} {yy : Nat → Int64} {tt : Nat → Int32} {kk oo : Nat → Int64} {d a b e : Int32} (V : JV N tk dom gr va dr off rt cnt lk dl td K nn aa ll yy tt kk oo) (hN1 : N < 10) (ha : inR 0 a 255) (hb : inR 0 b 1000) :
    JV (N + 1) tk (upd dom N d) (upd gr N a) (upd va N b) (upd dr N e) off rt cnt lk dl td (kst K N (rk (upd gr N a) (upd va N b) N)) (upd nn 0 (nI (N + 1))) (upd (upd (upd (upd aa (4 * N) d) (4 * N + 1) a) (4 * N + 2) b) (4 * N + 3) e) ll yy tt (vp_updL kk N (lN (rkn (upd gr N a) (upd va N b) N * 110))) oo := by
  obtain ⟨hN, hg, hlk, hself, hsy, hn0, hn1, hn2, hA, hB, hY, hT, hK, hO, hC⟩ := V
  exact ⟨by omega, rng_u hg ha hb, hlk, hself, hsy, pk_us, (pk_un (by decide)).trans hn1, (pk_un (by decide)).trans hn2, LA_add hA, hB, hY, hT, LK_add (rng_u hg ha hb) hN1 hK, hO, hC⟩
theorem JV_clock {N : Nat} {tk : Int32} {dom gr va dr : Nat → Int32} {off rt : Nat → Int64} {cnt : Int32} {lk dl td : Nat → Int32} {K : KT} {nn aa ll : Nat → Int32} {yy : Nat → Int64} {tt : Nat → Int32} {kk oo : Nat → Int64} {i : Nat} {a b : Int32} (V : JV N tk dom gr va dr off rt cnt lk dl td K nn aa ll yy tt kk oo) (ha : inR 0 a 255) (hb : inR 0 b 1000) :
    JV N tk dom (upd gr i a) (upd va i b) dr off rt cnt lk dl td K nn (upd (upd aa (4 * i + 1) a) (4 * i + 2) b) ll yy tt kk oo := by
  obtain ⟨hN, hg, hlk, hself, hsy, hn0, hn1, hn2, hA, hB, hY, hT, hK, hO, hC⟩ := V
  exact ⟨hN, rng_u hg ha hb, hlk, hself, hsy, hn0, hn1, hn2, LA_clock hA, hB, hY, hT, hK, hO, hC⟩
theorem JV_drift {N : Nat} {tk : Int32} {dom gr va dr : Nat → Int32} {off rt : Nat → Int64} {cnt : Int32} {lk dl td : Nat → Int32} {K : KT} {nn aa ll : Nat → Int32} {yy : Nat → Int64} {tt : Nat → Int32} {kk oo : Nat → Int64} {i : Nat} {a : Int32} (V : JV N tk dom gr va dr off rt cnt lk dl td K nn aa ll yy tt kk oo) :
    JV N tk dom gr va (upd dr i a) off rt cnt lk dl td K nn (upd aa (4 * i + 3) a) ll yy tt kk oo := by
  obtain ⟨hN, hg, hlk, hself, hsy, hn0, hn1, hn2, hA, hB, hY, hT, hK, hO, hC⟩ := V
  exact ⟨hN, hg, hlk, hself, hsy, hn0, hn1, hn2, LA_drift hA, hB, hY, hT, hK, hO, hC⟩
theorem JV_offset {N : Nat} {tk : Int32} {dom gr va dr : Nat → Int32} {off rt : Nat → Int64} {cnt : Int32} {lk dl td : Nat → Int32} {K : KT} {nn aa ll : Nat → Int32} {yy : Nat → Int64} {tt : Nat → Int32} {kk oo : Nat → Int64} {i : Nat} {x : Int64} (V : JV N tk dom gr va dr off rt cnt lk dl td K nn aa ll yy tt kk oo) (hi : i < 10) :
    JV N tk dom gr va dr (vp_updL off i x) rt cnt lk dl td K nn aa ll yy tt kk (vp_updL oo i x) := by
  obtain ⟨hN, hg, hlk, hself, hsy, hn0, hn1, hn2, hA, hB, hY, hT, hK, hO, hC⟩ := V
  exact ⟨hN, hg, hlk, hself, hsy, hn0, hn1, hn2, hA, hB, hY, hT, hK, LO_off hi hO, hC⟩
theorem JV_tell {N : Nat} {tk : Int32} {dom gr va dr : Nat → Int32} {off rt : Nat → Int64} {cnt : Int32} {lk dl td : Nat → Int32} {K : KT} {nn aa ll : Nat → Int32} {yy : Nat → Int64} {tt : Nat → Int32} {kk oo : Nat → Int64} {i j : Nat} {d x : Int32} (V : JV N tk dom gr va dr off rt cnt lk dl td K nn aa ll yy tt kk oo) (hi : i < 10) (hj : j < 10) (hne : ¬ i = j) (hx : x = if i < j then d else -d) :
    JV N tk dom gr va dr off rt cnt lk dl (upd (upd td (i * 10 + j) d) (j * 10 + i) (-d)) K nn aa ll yy (upd tt (prn i j) x) kk oo := by
  obtain ⟨hN, hg, hlk, hself, hsy, hn0, hn1, hn2, hA, hB, hY, hT, hK, hO, hC⟩ := V
  subst hx
  exact ⟨hN, hg, hlk, hself, hsy, hn0, hn1, hn2, hA, hB, hY, LT_tell hi hj hne hT, hK, hO, hC⟩
theorem JV_link {N : Nat} {tk : Int32} {dom gr va dr : Nat → Int32} {off rt : Nat → Int64} {cnt : Int32} {lk dl td : Nat → Int32} {K : KT} {nn aa ll : Nat → Int32} {yy : Nat → Int64} {tt : Nat → Int32} {kk oo : Nat → Int64} {i j u v w C : Nat} (V : JV N tk dom gr va dr off rt cnt lk dl td K nn aa ll yy tt kk oo) (hi : i < 10) (hj : j < 10) (hne : ¬ i = j) (hu : u ≤ 100000) (hv : v ≤ 100000) (hw : w = if i < j then u * 100001 + v else v * 100001 + u) (hnl : ¬ lk (i * 10 + j) = 1) (hc : cnt = nI C) (hC50 : C ≤ 50) :
    JV N tk dom gr va dr off rt (cnt + 1) (upd (upd lk (i * 10 + j) 1) (j * 10 + i) 1) (upd (upd dl (i * 10 + j) (nI u)) (j * 10 + i) (nI v)) (upd (upd td (i * 10 + j) 0) (j * 10 + i) 0) K (upd nn 1 (nI (C + 1))) aa (upd (upd ll i (ll i ||| (nI 1 <<< (nI j &&& 31)))) j (upd ll i (ll i ||| (nI 1 <<< (nI j &&& 31))) j ||| (nI 1 <<< (nI i &&& 31)))) (vp_updL yy (prn i j) (lN w)) (upd tt (prn i j) (nI 0)) kk oo := by
  obtain ⟨hN, hg, hlk, hself, hsy, hn0, hn1, hn2, hA, hB, hY, hT, hK, hO, C', hC1, hC2, hC3⟩ := V
  subst hw
  have eC : C' = C := (nI_eq (by omega) (by omega)).mp (hC2.symm.trans hc)
  subst eC
  have hnl2 : ¬ lk (j * 10 + i) = 1 := by rw [hsy j i hj hi]; exact hnl
  have e1 : cl (upd (upd lk (i * 10 + j) 1) (j * 10 + i) 1) 100 = cl lk 100 + 2 := by
    rw [cl_set (by rw [pk_un (by omega)]; exact hnl2) 100 (by omega), cl_set hnl 100 (by omega)]
  have e2 := cl_le (lk := upd (upd lk (i * 10 + j) 1) (j * 10 + i) 1) 100
  exact ⟨hN, hg, b01_u (b01_u hlk (Or.inr rfl)) (Or.inr rfl), self_u hi hj hne hself, sym_u hi hj hsy, (pk_un (by decide)).trans hn0, pk_us.trans (by rw [hC2]; exact (nI_1 C').symm), (pk_un (by decide)).trans hn2, hA, LB_lay hi hj hne hB, LY_lay hi hj hne hu hv hY, LT_lay hi hj hne hT, hK, hO, C' + 1, by omega, by rw [hC2]; exact nI_1 C', by omega⟩
theorem JV_cut {N : Nat} {tk : Int32} {dom gr va dr : Nat → Int32} {off rt : Nat → Int64} {cnt : Int32} {lk dl td : Nat → Int32} {K : KT} {nn aa ll : Nat → Int32} {yy : Nat → Int64} {tt : Nat → Int32} {kk oo : Nat → Int64} {i j C : Nat} {x y : Int64} (V : JV N tk dom gr va dr off rt cnt lk dl td K nn aa ll yy tt kk oo) (hi : i < 10) (hj : j < 10) (hne : ¬ i = j) (hl : lk (i * 10 + j) = 1) (hc : cnt = nI C) (hC50 : C ≤ 50) (h1C : 1 ≤ C)
    (hx : K.2.2.2 i = nI j ∧ x = lN (rkn gr va i * 110) ∨ ¬ K.2.2.2 i = nI j ∧ x = kk i) (hy : K.2.2.2 j = nI i ∧ y = lN (rkn gr va j * 110) ∨ ¬ K.2.2.2 j = nI i ∧ y = kk j) :
    JV N tk dom gr va dr off rt (cnt - 1) (upd (upd lk (i * 10 + j) 0) (j * 10 + i) 0) dl td (kfp gr va (kfp gr va K i j) j i) (upd nn 1 (nI (C - 1))) aa (upd (upd ll i (ll i &&& ((nI 1 <<< (nI j &&& 31)) ^^^ (-1)))) j (upd ll i (ll i &&& ((nI 1 <<< (nI j &&& 31)) ^^^ (-1))) j &&& ((nI 1 <<< (nI i &&& 31)) ^^^ (-1)))) yy tt (vp_updL (vp_updL kk i x) j y) oo := by
  obtain ⟨hN, hg, hlk, hself, hsy, hn0, hn1, hn2, hA, hB, hY, hT, hK, hO, C', hC1, hC2, hC3⟩ := V
  have eC : C' = C := (nI_eq (by omega) (by omega)).mp (hC2.symm.trans hc)
  subst eC
  have hl2 : lk (j * 10 + i) = 1 := by rw [hsy j i hj hi]; exact hl
  have e1 : cl (upd (upd lk (i * 10 + j) 0) (j * 10 + i) 0) 100 + 2 = cl lk 100 := by
    have a1 := cl_clr (lk := upd lk (i * 10 + j) 0) (q := j * 10 + i) (by rw [pk_un (by omega)]; exact hl2) 100 (by omega)
    have a2 := cl_clr hl 100 (by omega)
    omega
  have ec : nI C' - 1 = nI (C' - 1) := pk_sub (a := C') (b := 1) h1C
  have ej : (kfp gr va K i j).2.2.2 j = K.2.2.2 j := (selk_ext (kfp_out (gr := gr) (va := va) (K := K) (i := i) (j := j) (a := j) (fun h9 => hne h9.symm))).2.2.2
  exact ⟨hN, hg, b01_u (b01_u hlk (Or.inl rfl)) (Or.inl rfl), self_u hi hj hne hself, sym_u hi hj hsy, (pk_un (by decide)).trans hn0, pk_us.trans (by rw [hC2, ec]), (pk_un (by decide)).trans hn2, hA, LB_cut hi hj hne hB, hY, hT, LK_fp hg hj (LK_fp hg hi hK hx) (by rw [ej, pk_uLn (fun h9 => hne h9.symm)]; exact hy), hO, C' - 1, by omega, by rw [hC2, ec], by omega⟩
theorem link_pos {N : Nat} {tk : Int32} {dom gr va dr : Nat → Int32} {off rt : Nat → Int64} {cnt : Int32} {lk dl td : Nat → Int32} {K : KT} {nn aa ll : Nat → Int32} {yy : Nat → Int64} {tt : Nat → Int32} {kk oo : Nat → Int64} {i j : Nat} (V : JV N tk dom gr va dr off rt cnt lk dl td K nn aa ll yy tt kk oo) (hi : i < 10) (hj : j < 10) (hl : lk (i * 10 + j) = 1) : ∃ C, 1 ≤ C ∧ C ≤ 50 ∧ cnt = nI C := by
  obtain ⟨hN, hg, hlk, hself, hsy, hn0, hn1, hn2, hA, hB, hY, hT, hK, hO, C', hC1, hC2, hC3⟩ := V
  have a2 := cl_clr hl 100 (by omega)
  exact ⟨C', by omega, hC1, hC2⟩
theorem JV_0 : JV 0 0 (fun _ => 0) (fun _ => 0) (fun _ => 0) (fun _ => 0) (fun _ => 0) (fun _ => 0) 0 (fun _ => 0) (fun _ => 0) (fun _ => 0) ((fun _ => 0), (fun _ => 0), (fun _ => 0), (fun _ => 0)) (fun _ => 0) (fun _ => 0) (fun _ => 0) (fun _ => 0) (fun _ => 0) (fun _ => 0) (fun _ => 0) := by
  have hc : ∀ n, cl (fun _ => 0) n = 0 := by
    intro n
    induction n with
    | zero => rfl
    | succ n ih =>
      show cl (fun _ => 0) n + (if (0 : Int32) = 1 then 1 else 0) = 0
      rw [ih, if_neg (by decide)]
  exact ⟨by decide, fun _ => ⟨⟨0, by decide, rfl⟩, ⟨0, by decide, rfl⟩⟩, fun _ => Or.inl rfl, fun _ _ h => absurd (show (0 : Int32) = 1 from h) (by decide), fun _ _ _ _ => rfl, rfl, rfl, rfl, fun i h => absurd h (Nat.not_lt_zero _), LB_0, LY_0, LT_0, fun i h => absurd h (Nat.not_lt_zero _), LO_0, 0, by decide, rfl, hc 100⟩
