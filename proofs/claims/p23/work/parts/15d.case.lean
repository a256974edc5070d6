set_option maxHeartbeats 4000000 in
set_option maxRecDepth 100000 in
theorem lc_tell1 {p : Program} {e : Env} {s : State} {m : MethodId} {below : List Frame} {meth : Method} {c : Code} (l : Launch) (hl0 : l.stackTraces = false) {b L : Nat} {xs : Nat → Int32} (C0 : lw_At p s m meth c b L xs) {g : EN} {h ka : Nat → Nat} {A : Nat → Prop} {N : Nat} {tk : Int32} {dom : Nat → Int32} {gr : Nat → Int32} {va : Nat → Int32} {dr : Nat → Int32} {off : Nat → Int64} {rt : Nat → Int64} {cnt : Int32} {lk : Nat → Int32} {dl : Nat → Int32} {td : Nat → Int32} {K : KT} {E : KT} {ds : Nat → Int32} {nn : Nat → Int32} {aa : Nat → Int32} {ll : Nat → Int32} {yy : Nat → Int64} {tt : Nat → Int32} {kk : Nat → Int64} {oo : Nat → Int64} {H : Heap} {locs : List Loc} {cells slots : Nat} (hroom : cells + 60 ≤ room_1.cells ∧ slots + 600 ≤ room_1.slots) (hG : cC g ((cNet g h N tk dom gr va dr off rt cnt lk dl td K E ds) ++ (lNet g ka nn aa ll yy tt kk oo)) A s H locs) (V : JV N tk dom gr va dr off rt cnt lk dl td K nn aa ll yy tt kk oo) {tn z : Nat} (hz : z < 2 ^ 27) {i0 j0 : Nat} (hi : i0 < N) (hj : j0 < N) (hN0 : 0 < N) (hal : lk (i0 * 10 + j0) = 1) {Q : State → Prop} {ls : Array Slot} (hl : lv_has ls 20 [(0, .ref b), (1, .ref (h 0)), (2, .ref (ka 0)), (3, .ref (ka 1)), (4, .ref (ka 2)), (5, .ref (ka 3)), (6, .ref (ka 4)), (7, .ref (ka 5)), (8, .ref (ka 6)), (9, .int (nI 1)), (10, .int (nI tn)), (13, .int (nI z)), (14, .int (nI i0)), (15, .int (nI j0)), (16, .int (nI 1))])
    (kont : ∀ (H1 : Heap) (locs1 : List Loc) (ls1 : Array Slot), JI g h ka A s H1 locs1 → lv_has ls1 20 [(0, .ref b), (1, .ref (h 0)), (2, .ref (ka 0)), (3, .ref (ka 1)), (4, .ref (ka 2)), (5, .ref (ka 3)), (6, .ref (ka 4)), (7, .ref (ka 5)), (8, .ref (ka 6)), (9, .int (nI 1)), (10, .int (nI tn)), (13, .int (nI z))] → W p l e room_1 s m #[Value.ref b] below meth c H1 locs1 (cells + 60) (slots + 600) Q (F0 m 1260 ls1 [])) : W p l e room_1 s m #[Value.ref b] below meth c H locs cells slots Q (F0 m 832 ls []) := by
  obtain ⟨hx, hb, hr, hml, hown, hts0, hX, hbl, hlocks, hgv⟩ := C0
  have hM : CallFix p m c cL_law 20 s #[Value.ref b] wsL_law RL := ⟨hx, hb, hml, hown, fun w h => hts0 w (wsL_law_in w h)⟩
  have hts := hM.2.2.2.2
  obtain ⟨hN, hg, hlk, hself, hsy, hn0, hn1, hn2, hA, hB, hY, hT, hK, hO, C1, hC1, hC2, hC3⟩ := id V
  have hne : ¬ i0 = j0 := fun h9 => hself j0 (by omega) (by rw [h9] at hal; exact hal)
  have cut_879 : ∀ (dd : Int32), inR (-100000) dd 100000 → ∀ (H : Heap) (locs : List Loc), cC g ((cNet g h N tk dom gr va dr off rt cnt lk dl td K E ds) ++ (lNet g ka nn aa ll yy tt kk oo)) A s H locs → ∀ (ls : Array Slot), lv_has ls 20 [(17, .int dd), (0, .ref b), (1, .ref (h 0)), (2, .ref (ka 0)), (3, .ref (ka 1)), (4, .ref (ka 2)), (5, .ref (ka 3)), (6, .ref (ka 4)), (7, .ref (ka 5)), (8, .ref (ka 6)), (9, .int (nI 1)), (10, .int (nI tn)), (13, .int (nI z)), (14, .int (nI i0)), (15, .int (nI j0)), (16, .int (nI 1))] → W p l e room_1 s m #[Value.ref b] below meth c H locs (cells) (slots) Q (F0 m 879 ls []) := by
    intro dd h_dd H locs hG ls hl
    refine lv_aload_n hx hb dL_law_879 rfl (lv_at hl 2 rfl) ?_
    refine lv_iconst (v := nI 1) hx hb dL_law_880 (by decide) ?_
    refine lv_iload hx hb dL_law_881 (lv_at hl 13 rfl) ?_
    refine lv_iload hx hb dL_law_883 (lv_at hl 14 rfl) ?_
    refine lv_iload hx hb dL_law_885 (lv_at hl 0 rfl) ?_
    refine q_fWi (FR.l (lNet g ka nn aa ll yy tt kk oo)) (n := 5) (As := [.ref (h 0), .int (nI 1), .int (nI i0), .int (nI j0), .int dd]) (rest := []) hM hl.1 hG (w_tell l hl0 g h N tk dom gr va dr off rt cnt lk dl td K E ds i0 j0 hi hj hN hlk dd h_dd) rfl gL_law_L_does (by decide +kernel) ⟨Nat.le_of_ble_eq_true rfl, Nat.le_of_ble_eq_true rfl⟩ rfl rfl (Nat.le_of_ble_eq_true rfl) dL_law_887 (c1 := cells + 1) (s1 := slots + 6) rfl rfl ⟨by omega, by omega⟩ (fun r v H locs hp hG => ?_)
    rcases v with u | _
    · obtain ⟨i9, j9, hi9, hj9, e9, f9, hP9, hQ9, er, eu⟩ := hp
      obtain rfl : i0 = i9 := (nI_eq (by omega) (by omega)).mp e9
      obtain rfl : j0 = j9 := (nI_eq (by omega) (by omega)).mp f9
      try dsimp only at eu
      subst eu
      have hG : cC g ((cNet g h N tk dom gr va dr off rt cnt lk dl (upd (upd td (i0 * 10 + j0) dd) (j0 * 10 + i0) (-dd)) K E ds) ++ (lNet g ka nn aa ll yy tt kk oo)) A s H locs := hG
      refine q_ren er ?_
      refine lv_iload hx hb dL_law_890 (lv_at hl 15 rfl) ?_
      refine lv_if_eq (tgt := 907) hx hb dL_law_892 (by decide) (fun c9 => False.elim (by revert c9; decide)) (fun _ => ?_)
      refine lv_aload hx hb dL_law_895 (lv_at hl 7 rfl) ?_
      refine lv_iload hx hb dL_law_897 (lv_at hl 13 rfl) ?_
      refine lv_iload hx hb dL_law_899 (lv_at hl 14 rfl) ?_
      refine q_fSi (FR.r (cNet g h N tk dom gr va dr off rt cnt lk dl (upd (upd td (i0 * 10 + j0) dd) (j0 * 10 + i0) (-dd)) K E ds)) (n := 3) (As := [.ref (ka 4), .int (nI i0), .int (nI j0)]) (rest := [.int (td (i0 * 10 + j0))]) hM hl.1 hG (c_L_told l g ka nn aa ll yy tt kk oo td i0 j0 (by omega) (by omega) hne hT) rfl gL_law_L_told (by decide +kernel) ⟨Nat.le_of_ble_eq_true rfl, Nat.le_of_ble_eq_true rfl⟩ rfl rfl (Nat.le_of_ble_eq_true rfl) dL_law_901 (c1 := cells + 1) (s1 := slots + 6) rfl rfl ⟨by omega, by omega⟩ (fun r_901 u_901 H locs hp_901 hG => ?_)
      have hG : cC g ((cNet g h N tk dom gr va dr off rt cnt lk dl (upd (upd td (i0 * 10 + j0) dd) (j0 * 10 + i0) (-dd)) K E ds) ++ (lNet g ka nn aa ll yy tt kk oo)) A s H locs := hG
      subst hp_901
      refine lv_goto (tgt := 909) hx hb dL_law_904 (by decide) ?_
      refine lv_icmp_ne (tgt := 916) hx hb dL_law_909 (by decide) (fun c9 => absurd rfl c9) (fun _ => ?_)
      refine lv_iconst (v := nI 1) hx hb dL_law_912 (by decide) ?_
      refine lv_goto (tgt := 917) hx hb dL_law_913 (by decide) ?_
      refine lv_istore (lv' := [(9, .int (nI 1)), (17, .int dd), (0, .ref b), (1, .ref (h 0)), (2, .ref (ka 0)), (3, .ref (ka 1)), (4, .ref (ka 2)), (5, .ref (ka 3)), (6, .ref (ka 4)), (7, .ref (ka 5)), (8, .ref (ka 6)), (10, .int (nI tn)), (13, .int (nI z)), (14, .int (nI i0)), (15, .int (nI j0)), (16, .int (nI 1))]) hx hb dL_law_917 hl (by decide) rfl (fun ls hl => ?_)
      refine lv_iload hx hb dL_law_919 (lv_at hl 15 rfl) ?_
      refine lv_if_eq (tgt := 949) hx hb dL_law_921 (by decide) (fun c9 => False.elim (by revert c9; decide)) (fun _ => ?_)
      refine lv_aload hx hb dL_law_924 (lv_at hl 8 rfl) ?_
      refine lv_iload hx hb dL_law_926 (lv_at hl 13 rfl) ?_
      refine lv_iload hx hb dL_law_928 (lv_at hl 14 rfl) ?_
      refine q_fSi (FR.n ((cNet g h N tk dom gr va dr off rt cnt lk dl (upd (upd td (i0 * 10 + j0) dd) (j0 * 10 + i0) (-dd)) K E ds) ++ (lNet g ka nn aa ll yy tt kk oo))) (n := 2) (As := [.int (nI i0), .int (nI j0)]) (rest := [.ref (ka 4)]) hM hl.1 hG (c_L_pair l g  i0 j0 (by omega) (by omega) hne) rfl gL_law_L_pair (by decide +kernel) ⟨Nat.le_of_ble_eq_true rfl, Nat.le_of_ble_eq_true rfl⟩ rfl rfl (Nat.le_of_ble_eq_true rfl) dL_law_930 (c1 := cells + 1) (s1 := slots + 6) rfl rfl ⟨by omega, by omega⟩ (fun r_930 u_930 H locs hp_930 hG => ?_)
      have hG : cC g ((cNet g h N tk dom gr va dr off rt cnt lk dl (upd (upd td (i0 * 10 + j0) dd) (j0 * 10 + i0) (-dd)) K E ds) ++ (lNet g ka nn aa ll yy tt kk oo)) A s H locs := hG
      subst hp_930
      refine lv_iload hx hb dL_law_933 (lv_at hl 13 rfl) ?_
      refine lv_iload hx hb dL_law_935 (lv_at hl 14 rfl) ?_
      refine lv_icmp_ge (tgt := 945) hx hb dL_law_937 (by decide) (fun c_937 => ?_) (fun c_937 => ?_)
      · have hlt : ¬ i0 < j0 := by have h9 := (nI_leI (by omega) (by omega)).mp c_937; omega
        refine lv_iload hx hb dL_law_945 (lv_at hl 1 rfl) ?_
        refine lv_ineg hx hb dL_law_947 ?_
        refine q_iast hM hG 26 (i := prn i0 j0) rfl (prn_lt i0 (by omega) j0 (by omega) hne) (by decide) (ws1 := ((cNet g h N tk dom gr va dr off rt cnt lk dl (upd (upd td (i0 * 10 + j0) dd) (j0 * 10 + i0) (-dd)) K E ds) ++ (lNet g ka nn aa ll yy (upd tt (prn i0 j0) (-dd)) kk oo))) rfl dL_law_948 (fun H locs hG => ?_)
        refine lv_goto (tgt := 1260) hx hb dL_law_949 (by decide) ?_
        refine W.widen (k := cells + 60) (n := slots + 600) (by omega) (by omega) ?_
        exact kont _ _ _ ⟨_, _, _, _, _, _, _, _, _, _, _, _, _, _, _, _, _, _, _, _, _, _, hG, JV_tell V (by omega) (by omega) hne (if_neg hlt).symm, hN0⟩ (lv_sub hl [2, 3, 4, 5, 6, 7, 8, 9, 10, 0, 11, 12] rfl)
      · have hlt : i0 < j0 := Nat.lt_of_not_le (fun h9 => c_937 ((nI_leI (by omega) (by omega)).mpr h9))
        refine lv_iload hx hb dL_law_940 (lv_at hl 1 rfl) ?_
        refine lv_goto (tgt := 948) hx hb dL_law_942 (by decide) ?_
        refine q_iast hM hG 26 (i := prn i0 j0) rfl (prn_lt i0 (by omega) j0 (by omega) hne) (by decide) (ws1 := ((cNet g h N tk dom gr va dr off rt cnt lk dl (upd (upd td (i0 * 10 + j0) dd) (j0 * 10 + i0) (-dd)) K E ds) ++ (lNet g ka nn aa ll yy (upd tt (prn i0 j0) dd) kk oo))) rfl dL_law_948 (fun H locs hG => ?_)
        refine lv_goto (tgt := 1260) hx hb dL_law_949 (by decide) ?_
        refine W.widen (k := cells + 60) (n := slots + 600) (by omega) (by omega) ?_
        exact kont _ _ _ ⟨_, _, _, _, _, _, _, _, _, _, _, _, _, _, _, _, _, _, _, _, _, _, hG, JV_tell V (by omega) (by omega) hne (if_pos hlt).symm, hN0⟩ (lv_sub hl [2, 3, 4, 5, 6, 7, 8, 9, 10, 0, 11, 12] rfl)
    · obtain ⟨er, hl9⟩ := hp
      exact absurd ((lkd_n (by omega) (by omega)).mpr hal) hl9
  refine lv_iload hx hb dL_law_832 (lv_at hl 11 rfl) ?_
  refine lv_iconst (v := nI 3) hx hb dL_law_834 (by decide) ?_
  refine lv_irem hx hb dL_law_835 (by decide) ?_
  refine q_ren (pk_rem (a := z) (by omega) (by decide) (by decide)) ?_
  refine lv_if_ne (tgt := 866) hx hb dL_law_836 (by decide) (fun c_836 => ?_) (fun c_836 => ?_)
  · refine lv_iload hx hb dL_law_866 (lv_at hl 11 rfl) ?_
    refine lv_bipush (v := nI 7) hx hb dL_law_868 (by decide) ?_
    refine lv_idiv hx hb dL_law_870 (by decide) ?_
    refine q_ren (pk_div (a := z) (by omega) (by decide) (by decide)) ?_
    refine lv_ldc (v := 200001) hx hb hown (hts (.constant RL 140 200001) (by decide +kernel)) dL_law_871 ?_
    refine q_ren (show (200001 : Int32) = nI 200001 from rfl) ?_
    refine lv_irem hx hb dL_law_873 (by decide) ?_
    refine q_ren (pk_rem (a := z / 7) (by omega) (by decide) (by decide)) ?_
    refine lv_ldc (v := 100000) hx hb hown (hts (.constant RL 141 100000) (by decide +kernel)) dL_law_874 ?_
    refine q_ren (show (100000 : Int32) = nI 100000 from rfl) ?_
    refine lv_isub hx hb dL_law_876 ?_
    refine lv_istore (lv' := [(17, .int ((nI ((z / 7) % 200001)) - (nI 100000))), (0, .ref b), (1, .ref (h 0)), (2, .ref (ka 0)), (3, .ref (ka 1)), (4, .ref (ka 2)), (5, .ref (ka 3)), (6, .ref (ka 4)), (7, .ref (ka 5)), (8, .ref (ka 6)), (9, .int (nI 1)), (10, .int (nI tn)), (13, .int (nI z)), (14, .int (nI i0)), (15, .int (nI j0)), (16, .int (nI 1))]) hx hb dL_law_877 hl (by decide) rfl (fun ls hl => ?_)
    exact cut_879 ((nI ((z / 7) % 200001)) - (nI 100000)) (dif_rng (by omega)) _ _ hG _ (lv_sub hl [0, 1, 2, 3, 4, 5, 6, 7, 8, 9, 10, 11, 12, 13, 14, 15] rfl)
  · refine lv_iload hx hb dL_law_839 (lv_at hl 14 rfl) ?_
    refine lv_if_eq (tgt := 866) hx hb dL_law_841 (by decide) (fun c9 => False.elim (by revert c9; decide)) (fun _ => ?_)
    refine lv_aload hx hb dL_law_844 (lv_at hl 5 rfl) ?_
    refine lv_iload hx hb dL_law_846 (lv_at hl 12 rfl) ?_
    refine lv_iload hx hb dL_law_848 (lv_at hl 13 rfl) ?_
    refine q_fSi (FR.r (cNet g h N tk dom gr va dr off rt cnt lk dl td K E ds)) (n := 3) (As := [.ref (ka 3), .int (nI i0), .int (nI j0)]) (rest := []) hM hl.1 hG (c_L_delay l g ka nn aa ll yy tt kk oo dl i0 j0 (by omega) (by omega) hne hY) rfl gL_law_L_delay (by decide +kernel) ⟨Nat.le_of_ble_eq_true rfl, Nat.le_of_ble_eq_true rfl⟩ rfl rfl (Nat.le_of_ble_eq_true rfl) dL_law_850 (c1 := cells) (s1 := slots) rfl rfl ⟨by omega, by omega⟩ (fun r_850 u_850 H locs hp_850 hG => ?_)
    have hG : cC g ((cNet g h N tk dom gr va dr off rt cnt lk dl td K E ds) ++ (lNet g ka nn aa ll yy tt kk oo)) A s H locs := hG
    subst hp_850
    refine lv_aload hx hb dL_law_853 (lv_at hl 5 rfl) ?_
    refine lv_iload hx hb dL_law_855 (lv_at hl 13 rfl) ?_
    refine lv_iload hx hb dL_law_857 (lv_at hl 12 rfl) ?_
    refine q_fSi (FR.r (cNet g h N tk dom gr va dr off rt cnt lk dl td K E ds)) (n := 3) (As := [.ref (ka 3), .int (nI j0), .int (nI i0)]) (rest := [.int (dl (i0 * 10 + j0))]) hM hl.1 hG (c_L_delay l g ka nn aa ll yy tt kk oo dl j0 i0 (by omega) (by omega) (fun h9 => hne h9.symm) hY) rfl gL_law_L_delay (by decide +kernel) ⟨Nat.le_of_ble_eq_true rfl, Nat.le_of_ble_eq_true rfl⟩ rfl rfl (Nat.le_of_ble_eq_true rfl) dL_law_859 (c1 := cells) (s1 := slots) rfl rfl ⟨by omega, by omega⟩ (fun r_859 u_859 H locs hp_859 hG => ?_)
    have hG : cC g ((cNet g h N tk dom gr va dr off rt cnt lk dl td K E ds) ++ (lNet g ka nn aa ll yy tt kk oo)) A s H locs := hG
    subst hp_859
    refine lv_isub hx hb dL_law_862 ?_
    refine lv_goto (tgt := 877) hx hb dL_law_863 (by decide) ?_
    refine lv_istore (lv' := [(17, .int ((dl (i0 * 10 + j0)) - (dl (j0 * 10 + i0)))), (0, .ref b), (1, .ref (h 0)), (2, .ref (ka 0)), (3, .ref (ka 1)), (4, .ref (ka 2)), (5, .ref (ka 3)), (6, .ref (ka 4)), (7, .ref (ka 5)), (8, .ref (ka 6)), (9, .int (nI 1)), (10, .int (nI tn)), (13, .int (nI z)), (14, .int (nI i0)), (15, .int (nI j0)), (16, .int (nI 1))]) hx hb dL_law_877 hl (by decide) rfl (fun ls hl => ?_)
    exact cut_879 ((dl (i0 * 10 + j0)) - (dl (j0 * 10 + i0))) (dly_rng hY (by omega) (by omega) hne) _ _ hG _ (lv_sub hl [0, 1, 2, 3, 4, 5, 6, 7, 8, 9, 10, 11, 12, 13, 14, 15] rfl)

set_option maxHeartbeats 4000000 in
set_option maxRecDepth 100000 in
theorem lc_tell0 {p : Program} {e : Env} {s : State} {m : MethodId} {below : List Frame} {meth : Method} {c : Code} (l : Launch) (hl0 : l.stackTraces = false) {b L : Nat} {xs : Nat → Int32} (C0 : lw_At p s m meth c b L xs) {g : EN} {h ka : Nat → Nat} {A : Nat → Prop} {N : Nat} {tk : Int32} {dom : Nat → Int32} {gr : Nat → Int32} {va : Nat → Int32} {dr : Nat → Int32} {off : Nat → Int64} {rt : Nat → Int64} {cnt : Int32} {lk : Nat → Int32} {dl : Nat → Int32} {td : Nat → Int32} {K : KT} {E : KT} {ds : Nat → Int32} {nn : Nat → Int32} {aa : Nat → Int32} {ll : Nat → Int32} {yy : Nat → Int64} {tt : Nat → Int32} {kk : Nat → Int64} {oo : Nat → Int64} {H : Heap} {locs : List Loc} {cells slots : Nat} (hroom : cells + 60 ≤ room_1.cells ∧ slots + 600 ≤ room_1.slots) (hG : cC g ((cNet g h N tk dom gr va dr off rt cnt lk dl td K E ds) ++ (lNet g ka nn aa ll yy tt kk oo)) A s H locs) (V : JV N tk dom gr va dr off rt cnt lk dl td K nn aa ll yy tt kk oo) {tn z : Nat} (hz : z < 2 ^ 27) {i0 j0 : Nat} (hi : i0 < N) (hj : j0 < N) (hN0 : 0 < N) (hal : ¬ lk (i0 * 10 + j0) = 1) {Q : State → Prop} {ls : Array Slot} (hl : lv_has ls 20 [(0, .ref b), (1, .ref (h 0)), (2, .ref (ka 0)), (3, .ref (ka 1)), (4, .ref (ka 2)), (5, .ref (ka 3)), (6, .ref (ka 4)), (7, .ref (ka 5)), (8, .ref (ka 6)), (9, .int (nI 1)), (10, .int (nI tn)), (13, .int (nI z)), (14, .int (nI i0)), (15, .int (nI j0)), (16, .int (nI 0))])
    (kont : ∀ (H1 : Heap) (locs1 : List Loc) (ls1 : Array Slot), JI g h ka A s H1 locs1 → lv_has ls1 20 [(0, .ref b), (1, .ref (h 0)), (2, .ref (ka 0)), (3, .ref (ka 1)), (4, .ref (ka 2)), (5, .ref (ka 3)), (6, .ref (ka 4)), (7, .ref (ka 5)), (8, .ref (ka 6)), (9, .int (nI 1)), (10, .int (nI tn)), (13, .int (nI z))] → W p l e room_1 s m #[Value.ref b] below meth c H1 locs1 (cells + 60) (slots + 600) Q (F0 m 1260 ls1 [])) : W p l e room_1 s m #[Value.ref b] below meth c H locs cells slots Q (F0 m 832 ls []) := by
  obtain ⟨hx, hb, hr, hml, hown, hts0, hX, hbl, hlocks, hgv⟩ := C0
  have hM : CallFix p m c cL_law 20 s #[Value.ref b] wsL_law RL := ⟨hx, hb, hml, hown, fun w h => hts0 w (wsL_law_in w h)⟩
  have hts := hM.2.2.2.2
  obtain ⟨hN, hg, hlk, hself, hsy, hn0, hn1, hn2, hA, hB, hY, hT, hK, hO, C1, hC1, hC2, hC3⟩ := id V
  have cut_879 : ∀ (dd : Int32), inR (-100000) dd 100000 → ∀ (H : Heap) (locs : List Loc), cC g ((cNet g h N tk dom gr va dr off rt cnt lk dl td K E ds) ++ (lNet g ka nn aa ll yy tt kk oo)) A s H locs → ∀ (ls : Array Slot), lv_has ls 20 [(17, .int dd), (0, .ref b), (1, .ref (h 0)), (2, .ref (ka 0)), (3, .ref (ka 1)), (4, .ref (ka 2)), (5, .ref (ka 3)), (6, .ref (ka 4)), (7, .ref (ka 5)), (8, .ref (ka 6)), (9, .int (nI 1)), (10, .int (nI tn)), (13, .int (nI z)), (14, .int (nI i0)), (15, .int (nI j0)), (16, .int (nI 0))] → W p l e room_1 s m #[Value.ref b] below meth c H locs (cells) (slots) Q (F0 m 879 ls []) := by
    intro dd h_dd H locs hG ls hl
    refine lv_aload_n hx hb dL_law_879 rfl (lv_at hl 2 rfl) ?_
    refine lv_iconst (v := nI 1) hx hb dL_law_880 (by decide) ?_
    refine lv_iload hx hb dL_law_881 (lv_at hl 13 rfl) ?_
    refine lv_iload hx hb dL_law_883 (lv_at hl 14 rfl) ?_
    refine lv_iload hx hb dL_law_885 (lv_at hl 0 rfl) ?_
    refine q_fWi (FR.l (lNet g ka nn aa ll yy tt kk oo)) (n := 5) (As := [.ref (h 0), .int (nI 1), .int (nI i0), .int (nI j0), .int dd]) (rest := []) hM hl.1 hG (w_tell l hl0 g h N tk dom gr va dr off rt cnt lk dl td K E ds i0 j0 hi hj hN hlk dd h_dd) rfl gL_law_L_does (by decide +kernel) ⟨Nat.le_of_ble_eq_true rfl, Nat.le_of_ble_eq_true rfl⟩ rfl rfl (Nat.le_of_ble_eq_true rfl) dL_law_887 (c1 := cells + 1) (s1 := slots + 6) rfl rfl ⟨by omega, by omega⟩ (fun r v H locs hp hG => ?_)
    rcases v with u | _
    · obtain ⟨i9, j9, hi9, hj9, e9, f9, hP9, hQ9, er, eu⟩ := hp
      exact absurd ((lkd_n (by omega) (by omega)).mp hQ9) hal
    · obtain ⟨er, hl9⟩ := hp
      have hG : cC g ((cNet g h N tk dom gr va dr off rt cnt lk dl td K E ds) ++ (lNet g ka nn aa ll yy tt kk oo)) A s H locs := hG
      refine q_ren er ?_
      refine lv_iload hx hb dL_law_890 (lv_at hl 15 rfl) ?_
      refine lv_if_eq (tgt := 907) hx hb dL_law_892 (by decide) (fun _ => ?_) (fun c9 => False.elim (by revert c9; decide))
      refine lv_ldc (v := (-2000000013)) hx hb hown (hts (.constant RL 75 (-2000000013)) (by decide +kernel)) dL_law_907 ?_
      refine lv_icmp_ne (tgt := 916) hx hb dL_law_909 (by decide) (fun c9 => False.elim (by revert c9; decide)) (fun _ => ?_)
      refine lv_iconst (v := nI 1) hx hb dL_law_912 (by decide) ?_
      refine lv_goto (tgt := 917) hx hb dL_law_913 (by decide) ?_
      refine lv_istore (lv' := [(9, .int (nI 1)), (17, .int dd), (0, .ref b), (1, .ref (h 0)), (2, .ref (ka 0)), (3, .ref (ka 1)), (4, .ref (ka 2)), (5, .ref (ka 3)), (6, .ref (ka 4)), (7, .ref (ka 5)), (8, .ref (ka 6)), (10, .int (nI tn)), (13, .int (nI z)), (14, .int (nI i0)), (15, .int (nI j0)), (16, .int (nI 0))]) hx hb dL_law_917 hl (by decide) rfl (fun ls hl => ?_)
      refine lv_iload hx hb dL_law_919 (lv_at hl 15 rfl) ?_
      refine lv_if_eq (tgt := 949) hx hb dL_law_921 (by decide) (fun _ => ?_) (fun c9 => False.elim (by revert c9; decide))
      refine lv_goto (tgt := 1260) hx hb dL_law_949 (by decide) ?_
      refine W.widen (k := cells + 60) (n := slots + 600) (by omega) (by omega) ?_
      exact kont _ _ _ ⟨_, _, _, _, _, _, _, _, _, _, _, _, _, _, _, _, _, _, _, _, _, _, hG, V, hN0⟩ (lv_sub hl [2, 3, 4, 5, 6, 7, 8, 9, 10, 0, 11, 12] rfl)
  refine lv_iload hx hb dL_law_832 (lv_at hl 11 rfl) ?_
  refine lv_iconst (v := nI 3) hx hb dL_law_834 (by decide) ?_
  refine lv_irem hx hb dL_law_835 (by decide) ?_
  refine q_ren (pk_rem (a := z) (by omega) (by decide) (by decide)) ?_
  refine lv_if_ne (tgt := 866) hx hb dL_law_836 (by decide) (fun c_836 => ?_) (fun c_836 => ?_)
  · refine lv_iload hx hb dL_law_866 (lv_at hl 11 rfl) ?_
    refine lv_bipush (v := nI 7) hx hb dL_law_868 (by decide) ?_
    refine lv_idiv hx hb dL_law_870 (by decide) ?_
    refine q_ren (pk_div (a := z) (by omega) (by decide) (by decide)) ?_
    refine lv_ldc (v := 200001) hx hb hown (hts (.constant RL 140 200001) (by decide +kernel)) dL_law_871 ?_
    refine q_ren (show (200001 : Int32) = nI 200001 from rfl) ?_
    refine lv_irem hx hb dL_law_873 (by decide) ?_
    refine q_ren (pk_rem (a := z / 7) (by omega) (by decide) (by decide)) ?_
    refine lv_ldc (v := 100000) hx hb hown (hts (.constant RL 141 100000) (by decide +kernel)) dL_law_874 ?_
    refine q_ren (show (100000 : Int32) = nI 100000 from rfl) ?_
    refine lv_isub hx hb dL_law_876 ?_
    refine lv_istore (lv' := [(17, .int ((nI ((z / 7) % 200001)) - (nI 100000))), (0, .ref b), (1, .ref (h 0)), (2, .ref (ka 0)), (3, .ref (ka 1)), (4, .ref (ka 2)), (5, .ref (ka 3)), (6, .ref (ka 4)), (7, .ref (ka 5)), (8, .ref (ka 6)), (9, .int (nI 1)), (10, .int (nI tn)), (13, .int (nI z)), (14, .int (nI i0)), (15, .int (nI j0)), (16, .int (nI 0))]) hx hb dL_law_877 hl (by decide) rfl (fun ls hl => ?_)
    exact cut_879 ((nI ((z / 7) % 200001)) - (nI 100000)) (dif_rng (by omega)) _ _ hG _ (lv_sub hl [0, 1, 2, 3, 4, 5, 6, 7, 8, 9, 10, 11, 12, 13, 14, 15] rfl)
  · refine lv_iload hx hb dL_law_839 (lv_at hl 14 rfl) ?_
    refine lv_if_eq (tgt := 866) hx hb dL_law_841 (by decide) (fun _ => ?_) (fun c9 => False.elim (by revert c9; decide))
    refine lv_iload hx hb dL_law_866 (lv_at hl 11 rfl) ?_
    refine lv_bipush (v := nI 7) hx hb dL_law_868 (by decide) ?_
    refine lv_idiv hx hb dL_law_870 (by decide) ?_
    refine q_ren (pk_div (a := z) (by omega) (by decide) (by decide)) ?_
    refine lv_ldc (v := 200001) hx hb hown (hts (.constant RL 140 200001) (by decide +kernel)) dL_law_871 ?_
    refine q_ren (show (200001 : Int32) = nI 200001 from rfl) ?_
    refine lv_irem hx hb dL_law_873 (by decide) ?_
    refine q_ren (pk_rem (a := z / 7) (by omega) (by decide) (by decide)) ?_
    refine lv_ldc (v := 100000) hx hb hown (hts (.constant RL 141 100000) (by decide +kernel)) dL_law_874 ?_
    refine q_ren (show (100000 : Int32) = nI 100000 from rfl) ?_
    refine lv_isub hx hb dL_law_876 ?_
    refine lv_istore (lv' := [(17, .int ((nI ((z / 7) % 200001)) - (nI 100000))), (0, .ref b), (1, .ref (h 0)), (2, .ref (ka 0)), (3, .ref (ka 1)), (4, .ref (ka 2)), (5, .ref (ka 3)), (6, .ref (ka 4)), (7, .ref (ka 5)), (8, .ref (ka 6)), (9, .int (nI 1)), (10, .int (nI tn)), (13, .int (nI z)), (14, .int (nI i0)), (15, .int (nI j0)), (16, .int (nI 0))]) hx hb dL_law_877 hl (by decide) rfl (fun ls hl => ?_)
    exact cut_879 ((nI ((z / 7) % 200001)) - (nI 100000)) (dif_rng (by omega)) _ _ hG _ (lv_sub hl [0, 1, 2, 3, 4, 5, 6, 7, 8, 9, 10, 11, 12, 13, 14, 15] rfl)
