set_option maxHeartbeats 4000000 in
set_option maxRecDepth 100000 in
theorem lc_clock {p : Program} {e : Env} {s : State} {m : MethodId} {below : List Frame} {meth : Method} {c : Code} (l : Launch) (hl0 : l.stackTraces = false) {b L : Nat} {xs : Nat → Int32} (C0 : lw_At p s m meth c b L xs) {g : EN} {h ka : Nat → Nat} {A : Nat → Prop} {N : Nat} {tk : Int32} {dom : Nat → Int32} {gr : Nat → Int32} {va : Nat → Int32} {dr : Nat → Int32} {off : Nat → Int64} {rt : Nat → Int64} {cnt : Int32} {lk : Nat → Int32} {dl : Nat → Int32} {td : Nat → Int32} {K : KT} {E : KT} {ds : Nat → Int32} {nn : Nat → Int32} {aa : Nat → Int32} {ll : Nat → Int32} {yy : Nat → Int64} {tt : Nat → Int32} {kk : Nat → Int64} {oo : Nat → Int64} {H : Heap} {locs : List Loc} {cells slots : Nat} (hroom : cells + 60 ≤ room_1.cells ∧ slots + 600 ≤ room_1.slots) (hG : cC g ((cNet g h N tk dom gr va dr off rt cnt lk dl td K E ds) ++ (lNet g ka nn aa ll yy tt kk oo)) A s H locs) (V : JV N tk dom gr va dr off rt cnt lk dl td K nn aa ll yy tt kk oo) {tn z : Nat} (hz : z < 2 ^ 27) {i0 : Nat} (hi : i0 < N) (hN0 : 0 < N) {Q : State → Prop} {ls : Array Slot} (hl : lv_has ls 20 [(0, .ref b), (1, .ref (h 0)), (2, .ref (ka 0)), (3, .ref (ka 1)), (4, .ref (ka 2)), (5, .ref (ka 3)), (6, .ref (ka 4)), (7, .ref (ka 5)), (8, .ref (ka 6)), (9, .int (nI 1)), (10, .int (nI tn)), (13, .int (nI z)), (14, .int (nI i0))])
    (kont : ∀ (H1 : Heap) (locs1 : List Loc) (ls1 : Array Slot), JI g h ka A s H1 locs1 → lv_has ls1 20 [(0, .ref b), (1, .ref (h 0)), (2, .ref (ka 0)), (3, .ref (ka 1)), (4, .ref (ka 2)), (5, .ref (ka 3)), (6, .ref (ka 4)), (7, .ref (ka 5)), (8, .ref (ka 6)), (9, .int (nI 1)), (10, .int (nI tn)), (13, .int (nI z))] → W p l e room_1 s m #[Value.ref b] below meth c H1 locs1 (cells + 60) (slots + 600) Q (F0 m 1260 ls1 [])) : W p l e room_1 s m #[Value.ref b] below meth c H locs cells slots Q (F0 m 959 ls []) := by
  obtain ⟨hx, hb, hr, hml, hown, hts0, hX, hbl, hlocks, hgv⟩ := C0
  have hM : CallFix p m c cL_law 20 s #[Value.ref b] wsL_law RL := ⟨hx, hb, hml, hown, fun w h => hts0 w (wsL_law_in w h)⟩
  have hts := hM.2.2.2.2
  obtain ⟨hN, hg, hlk, hself, hsy, hn0, hn1, hn2, hA, hB, hY, hT, hK, hO, C1, hC1, hC2, hC3⟩ := id V
  have cut_990 : ∀ (g7 : Nat), g7 ≤ 255 → ∀ (H : Heap) (locs : List Loc), cC g ((cNet g h N tk dom gr va dr off rt cnt lk dl td K E ds) ++ (lNet g ka nn aa ll yy tt kk oo)) A s H locs → ∀ (ls : Array Slot), lv_has ls 20 [(17, .int (nI g7)), (0, .ref b), (1, .ref (h 0)), (2, .ref (ka 0)), (3, .ref (ka 1)), (4, .ref (ka 2)), (5, .ref (ka 3)), (6, .ref (ka 4)), (7, .ref (ka 5)), (8, .ref (ka 6)), (9, .int (nI 1)), (10, .int (nI tn)), (13, .int (nI z)), (14, .int (nI i0))] → W p l e room_1 s m #[Value.ref b] below meth c H locs (cells) (slots) Q (F0 m 990 ls []) := by
    intro g7 h_g7 H locs hG ls hl
    have cut_1023 : ∀ (v7 : Nat), v7 ≤ 1000 → ∀ (H : Heap) (locs : List Loc), cC g ((cNet g h N tk dom gr va dr off rt cnt lk dl td K E ds) ++ (lNet g ka nn aa ll yy tt kk oo)) A s H locs → ∀ (ls : Array Slot), lv_has ls 20 [(18, .int (nI v7)), (17, .int (nI g7)), (0, .ref b), (1, .ref (h 0)), (2, .ref (ka 0)), (3, .ref (ka 1)), (4, .ref (ka 2)), (5, .ref (ka 3)), (6, .ref (ka 4)), (7, .ref (ka 5)), (8, .ref (ka 6)), (9, .int (nI 1)), (10, .int (nI tn)), (13, .int (nI z)), (14, .int (nI i0))] → W p l e room_1 s m #[Value.ref b] below meth c H locs (cells) (slots) Q (F0 m 1023 ls []) := by
      intro v7 h_v7 H locs hG ls hl
      refine lv_aload_n hx hb dL_law_1023 rfl (lv_at hl 3 rfl) ?_
      refine lv_iload hx hb dL_law_1024 (lv_at hl 14 rfl) ?_
      refine lv_iload hx hb dL_law_1026 (lv_at hl 1 rfl) ?_
      refine lv_iload hx hb dL_law_1028 (lv_at hl 0 rfl) ?_
      refine q_fxVi (FR.l (lNet g ka nn aa ll yy tt kk oo)) (n := 3) (As := [.int (nI i0), .int (nI g7), .int (nI v7)]) (rest := []) hM hl.1 hG (c_X2_setClock l hl0 g h N tk dom gr va dr off rt cnt lk dl td K E ds (nI i0) (nI g7) (nI v7) hN) rfl gL_law_X2_setClock (by decide +kernel) ⟨Nat.le_of_ble_eq_true rfl, Nat.le_of_ble_eq_true rfl⟩ 0 rfl rfl rfl rfl rfl (Nat.le_of_ble_eq_true rfl) dL_law_1030 (c1 := cells + 1) (s1 := slots + 6) rfl rfl ⟨by omega, by omega⟩ (fun E ce q9 H locs hE _ _ _ _ => False.elim (ex2_no hE ⟨i0, hi, rfl⟩ ⟨(inR_n (b := 255) (by decide) h_g7), (inR_n (b := 1000) (by decide) h_v7)⟩)) (fun r_1030 u_1030 H locs hp_1030 hG => ?_)
      have hG : cC g ((cNet g h N tk dom u_1030.1 u_1030.2 dr off rt cnt lk dl td K E ds) ++ (lNet g ka nn aa ll yy tt kk oo)) A s H locs := hG
      obtain ⟨i9, hi9, e9, -, er, eu1, eu2⟩ := hp_1030
      obtain rfl : i0 = i9 := (nI_eq (by omega) (by omega)).mp e9
      rw [eu1, eu2] at hG
      have hG : cC g ((cNet g h N tk dom (upd gr i0 (nI g7)) (upd va i0 (nI v7)) dr off rt cnt lk dl td K E ds) ++ (lNet g ka nn aa ll yy tt kk oo)) A s H locs := hG
      refine q_ren er ?_
      refine lv_aload_n hx hb dL_law_1033 rfl (lv_at hl 5 rfl) ?_
      refine lv_iconst (v := nI 4) hx hb dL_law_1034 (by decide) ?_
      refine lv_iload hx hb dL_law_1035 (lv_at hl 14 rfl) ?_
      refine lv_imul hx hb dL_law_1037 ?_
      refine q_ren (pk_mul 4 i0) ?_
      refine lv_iconst (v := nI 1) hx hb dL_law_1038 (by decide) ?_
      refine lv_iadd hx hb dL_law_1039 ?_
      refine q_ren (nI_add (4 * i0) 1) ?_
      refine q_iald hM hG 23 (i := 4 * i0 + 1) rfl (by omega) (by decide) dL_law_1040 ?_
      refine q_ren ((hA i0 hi).2.1) ?_
      refine lv_icmp_ne (tgt := 1048) hx hb dL_law_1041 (by decide) (fun c9 => absurd rfl c9) (fun _ => ?_)
      refine lv_iconst (v := nI 1) hx hb dL_law_1044 (by decide) ?_
      refine lv_goto (tgt := 1049) hx hb dL_law_1045 (by decide) ?_
      refine lv_istore (lv' := [(9, .int (nI 1)), (18, .int (nI v7)), (17, .int (nI g7)), (0, .ref b), (1, .ref (h 0)), (2, .ref (ka 0)), (3, .ref (ka 1)), (4, .ref (ka 2)), (5, .ref (ka 3)), (6, .ref (ka 4)), (7, .ref (ka 5)), (8, .ref (ka 6)), (10, .int (nI tn)), (13, .int (nI z)), (14, .int (nI i0))]) hx hb dL_law_1049 hl (by decide) rfl (fun ls hl => ?_)
      refine lv_aload_n hx hb dL_law_1051 rfl (lv_at hl 6 rfl) ?_
      refine lv_iconst (v := nI 4) hx hb dL_law_1052 (by decide) ?_
      refine lv_iload hx hb dL_law_1053 (lv_at hl 14 rfl) ?_
      refine lv_imul hx hb dL_law_1055 ?_
      refine q_ren (pk_mul 4 i0) ?_
      refine lv_iconst (v := nI 1) hx hb dL_law_1056 (by decide) ?_
      refine lv_iadd hx hb dL_law_1057 ?_
      refine q_ren (nI_add (4 * i0) 1) ?_
      refine lv_iload hx hb dL_law_1058 (lv_at hl 2 rfl) ?_
      refine q_iast hM hG 23 (i := 4 * i0 + 1) rfl (by omega) (by decide) (ws1 := ((cNet g h N tk dom (upd gr i0 (nI g7)) (upd va i0 (nI v7)) dr off rt cnt lk dl td K E ds) ++ (lNet g ka nn (upd aa (4 * i0 + 1) (nI g7)) ll yy tt kk oo))) rfl dL_law_1060 (fun H locs hG => ?_)
      refine lv_aload_n hx hb dL_law_1061 rfl (lv_at hl 6 rfl) ?_
      refine lv_iconst (v := nI 4) hx hb dL_law_1062 (by decide) ?_
      refine lv_iload hx hb dL_law_1063 (lv_at hl 14 rfl) ?_
      refine lv_imul hx hb dL_law_1065 ?_
      refine q_ren (pk_mul 4 i0) ?_
      refine lv_iconst (v := nI 2) hx hb dL_law_1066 (by decide) ?_
      refine lv_iadd hx hb dL_law_1067 ?_
      refine q_ren (nI_add (4 * i0) 2) ?_
      refine lv_iload hx hb dL_law_1068 (lv_at hl 1 rfl) ?_
      refine q_iast hM hG 23 (i := 4 * i0 + 2) rfl (by omega) (by decide) (ws1 := ((cNet g h N tk dom (upd gr i0 (nI g7)) (upd va i0 (nI v7)) dr off rt cnt lk dl td K E ds) ++ (lNet g ka nn (upd (upd aa (4 * i0 + 1) (nI g7)) (4 * i0 + 2) (nI v7)) ll yy tt kk oo))) rfl dL_law_1070 (fun H locs hG => ?_)
      refine lv_goto (tgt := 1260) hx hb dL_law_1071 (by decide) ?_
      refine W.widen (k := cells + 60) (n := slots + 600) (by omega) (by omega) ?_
      exact kont _ _ _ ⟨_, _, _, _, _, _, _, _, _, _, _, _, _, _, _, _, _, _, _, _, _, _, hG, JV_clock V (inR_n (b := 255) (by decide) h_g7) (inR_n (b := 1000) (by decide) h_v7), hN0⟩ (lv_sub hl [3, 4, 5, 6, 7, 8, 9, 10, 11, 0, 12, 13] rfl)
    refine lv_iload hx hb dL_law_990 (lv_at hl 12 rfl) ?_
    refine lv_bipush (v := nI 90) hx hb dL_law_992 (by decide) ?_
    refine lv_idiv hx hb dL_law_994 (by decide) ?_
    refine q_ren (pk_div (a := z) (by omega) (by decide) (by decide)) ?_
    refine lv_iconst (v := nI 3) hx hb dL_law_995 (by decide) ?_
    refine lv_irem hx hb dL_law_996 (by decide) ?_
    refine q_ren (pk_rem (a := z / 90) (by omega) (by decide) (by decide)) ?_
    refine lv_if_ne (tgt := 1013) hx hb dL_law_997 (by decide) (fun c_997 => ?_) (fun c_997 => ?_)
    · refine lv_iload hx hb dL_law_1013 (lv_at hl 12 rfl) ?_
      refine lv_sipush (v := nI 270) hx hb dL_law_1015 (by decide) ?_
      refine lv_idiv hx hb dL_law_1018 (by decide) ?_
      refine q_ren (pk_div (a := z) (by omega) (by decide) (by decide)) ?_
      refine lv_iconst (v := nI 2) hx hb dL_law_1019 (by decide) ?_
      refine lv_irem hx hb dL_law_1020 (by decide) ?_
      refine q_ren (pk_rem (a := z / 270) (by omega) (by decide) (by decide)) ?_
      refine lv_istore (lv' := [(18, .int (nI ((z / 270) % 2))), (17, .int (nI g7)), (0, .ref b), (1, .ref (h 0)), (2, .ref (ka 0)), (3, .ref (ka 1)), (4, .ref (ka 2)), (5, .ref (ka 3)), (6, .ref (ka 4)), (7, .ref (ka 5)), (8, .ref (ka 6)), (9, .int (nI 1)), (10, .int (nI tn)), (13, .int (nI z)), (14, .int (nI i0))]) hx hb dL_law_1021 hl (by decide) rfl (fun ls hl => ?_)
      exact cut_1023 ((z / 270) % 2) (by omega) _ _ hG _ (lv_sub hl [0, 1, 2, 3, 4, 5, 6, 7, 8, 9, 10, 11, 12, 13, 14] rfl)
    · refine lv_iload hx hb dL_law_1000 (lv_at hl 12 rfl) ?_
      refine lv_sipush (v := nI 270) hx hb dL_law_1002 (by decide) ?_
      refine lv_idiv hx hb dL_law_1005 (by decide) ?_
      refine q_ren (pk_div (a := z) (by omega) (by decide) (by decide)) ?_
      refine lv_sipush (v := nI 1001) hx hb dL_law_1006 (by decide) ?_
      refine lv_irem hx hb dL_law_1009 (by decide) ?_
      refine q_ren (pk_rem (a := z / 270) (by omega) (by decide) (by decide)) ?_
      refine lv_goto (tgt := 1021) hx hb dL_law_1010 (by decide) ?_
      refine lv_istore (lv' := [(18, .int (nI ((z / 270) % 1001))), (17, .int (nI g7)), (0, .ref b), (1, .ref (h 0)), (2, .ref (ka 0)), (3, .ref (ka 1)), (4, .ref (ka 2)), (5, .ref (ka 3)), (6, .ref (ka 4)), (7, .ref (ka 5)), (8, .ref (ka 6)), (9, .int (nI 1)), (10, .int (nI tn)), (13, .int (nI z)), (14, .int (nI i0))]) hx hb dL_law_1021 hl (by decide) rfl (fun ls hl => ?_)
      exact cut_1023 ((z / 270) % 1001) (by omega) _ _ hG _ (lv_sub hl [0, 1, 2, 3, 4, 5, 6, 7, 8, 9, 10, 11, 12, 13, 14] rfl)
  refine lv_iload hx hb dL_law_959 (lv_at hl 11 rfl) ?_
  refine lv_bipush (v := nI 7) hx hb dL_law_961 (by decide) ?_
  refine lv_idiv hx hb dL_law_963 (by decide) ?_
  refine q_ren (pk_div (a := z) (by omega) (by decide) (by decide)) ?_
  refine lv_iconst (v := nI 4) hx hb dL_law_964 (by decide) ?_
  refine lv_irem hx hb dL_law_965 (by decide) ?_
  refine q_ren (pk_rem (a := z / 7) (by omega) (by decide) (by decide)) ?_
  refine lv_if_ne (tgt := 981) hx hb dL_law_966 (by decide) (fun c_966 => ?_) (fun c_966 => ?_)
  · refine lv_iload hx hb dL_law_981 (lv_at hl 11 rfl) ?_
    refine lv_bipush (v := nI 28) hx hb dL_law_983 (by decide) ?_
    refine lv_idiv hx hb dL_law_985 (by decide) ?_
    refine q_ren (pk_div (a := z) (by omega) (by decide) (by decide)) ?_
    refine lv_iconst (v := nI 3) hx hb dL_law_986 (by decide) ?_
    refine lv_irem hx hb dL_law_987 (by decide) ?_
    refine q_ren (pk_rem (a := z / 28) (by omega) (by decide) (by decide)) ?_
    refine lv_istore (lv' := [(17, .int (nI ((z / 28) % 3))), (0, .ref b), (1, .ref (h 0)), (2, .ref (ka 0)), (3, .ref (ka 1)), (4, .ref (ka 2)), (5, .ref (ka 3)), (6, .ref (ka 4)), (7, .ref (ka 5)), (8, .ref (ka 6)), (9, .int (nI 1)), (10, .int (nI tn)), (13, .int (nI z)), (14, .int (nI i0))]) hx hb dL_law_988 hl (by decide) rfl (fun ls hl => ?_)
    exact cut_990 ((z / 28) % 3) (by omega) _ _ hG _ (lv_sub hl [0, 1, 2, 3, 4, 5, 6, 7, 8, 9, 10, 11, 12, 13] rfl)
  · refine lv_iload hx hb dL_law_969 (lv_at hl 11 rfl) ?_
    refine lv_bipush (v := nI 28) hx hb dL_law_971 (by decide) ?_
    refine lv_idiv hx hb dL_law_973 (by decide) ?_
    refine q_ren (pk_div (a := z) (by omega) (by decide) (by decide)) ?_
    refine lv_sipush (v := nI 256) hx hb dL_law_974 (by decide) ?_
    refine lv_irem hx hb dL_law_977 (by decide) ?_
    refine q_ren (pk_rem (a := z / 28) (by omega) (by decide) (by decide)) ?_
    refine lv_goto (tgt := 988) hx hb dL_law_978 (by decide) ?_
    refine lv_istore (lv' := [(17, .int (nI ((z / 28) % 256))), (0, .ref b), (1, .ref (h 0)), (2, .ref (ka 0)), (3, .ref (ka 1)), (4, .ref (ka 2)), (5, .ref (ka 3)), (6, .ref (ka 4)), (7, .ref (ka 5)), (8, .ref (ka 6)), (9, .int (nI 1)), (10, .int (nI tn)), (13, .int (nI z)), (14, .int (nI i0))]) hx hb dL_law_988 hl (by decide) rfl (fun ls hl => ?_)
    exact cut_990 ((z / 28) % 256) (by omega) _ _ hG _ (lv_sub hl [0, 1, 2, 3, 4, 5, 6, 7, 8, 9, 10, 11, 12, 13] rfl)

set_option maxHeartbeats 4000000 in
set_option maxRecDepth 100000 in
theorem lc_drift {p : Program} {e : Env} {s : State} {m : MethodId} {below : List Frame} {meth : Method} {c : Code} (l : Launch) (hl0 : l.stackTraces = false) {b L : Nat} {xs : Nat → Int32} (C0 : lw_At p s m meth c b L xs) {g : EN} {h ka : Nat → Nat} {A : Nat → Prop} {N : Nat} {tk : Int32} {dom : Nat → Int32} {gr : Nat → Int32} {va : Nat → Int32} {dr : Nat → Int32} {off : Nat → Int64} {rt : Nat → Int64} {cnt : Int32} {lk : Nat → Int32} {dl : Nat → Int32} {td : Nat → Int32} {K : KT} {E : KT} {ds : Nat → Int32} {nn : Nat → Int32} {aa : Nat → Int32} {ll : Nat → Int32} {yy : Nat → Int64} {tt : Nat → Int32} {kk : Nat → Int64} {oo : Nat → Int64} {H : Heap} {locs : List Loc} {cells slots : Nat} (hroom : cells + 60 ≤ room_1.cells ∧ slots + 600 ≤ room_1.slots) (hG : cC g ((cNet g h N tk dom gr va dr off rt cnt lk dl td K E ds) ++ (lNet g ka nn aa ll yy tt kk oo)) A s H locs) (V : JV N tk dom gr va dr off rt cnt lk dl td K nn aa ll yy tt kk oo) {tn z : Nat} (hz : z < 2 ^ 27) {i0 : Nat} (hi : i0 < N) (hN0 : 0 < N) {Q : State → Prop} {ls : Array Slot} (hl : lv_has ls 20 [(0, .ref b), (1, .ref (h 0)), (2, .ref (ka 0)), (3, .ref (ka 1)), (4, .ref (ka 2)), (5, .ref (ka 3)), (6, .ref (ka 4)), (7, .ref (ka 5)), (8, .ref (ka 6)), (9, .int (nI 1)), (10, .int (nI tn)), (13, .int (nI z)), (14, .int (nI i0))])
    (kont : ∀ (H1 : Heap) (locs1 : List Loc) (ls1 : Array Slot), JI g h ka A s H1 locs1 → lv_has ls1 20 [(0, .ref b), (1, .ref (h 0)), (2, .ref (ka 0)), (3, .ref (ka 1)), (4, .ref (ka 2)), (5, .ref (ka 3)), (6, .ref (ka 4)), (7, .ref (ka 5)), (8, .ref (ka 6)), (9, .int (nI 1)), (10, .int (nI tn)), (13, .int (nI z))] → W p l e room_1 s m #[Value.ref b] below meth c H1 locs1 (cells + 60) (slots + 600) Q (F0 m 1260 ls1 [])) : W p l e room_1 s m #[Value.ref b] below meth c H locs cells slots Q (F0 m 1081 ls []) := by
  obtain ⟨hx, hb, hr, hml, hown, hts0, hX, hbl, hlocks, hgv⟩ := C0
  have hM : CallFix p m c cL_law 20 s #[Value.ref b] wsL_law RL := ⟨hx, hb, hml, hown, fun w h => hts0 w (wsL_law_in w h)⟩
  have hts := hM.2.2.2.2
  obtain ⟨hN, hg, hlk, hself, hsy, hn0, hn1, hn2, hA, hB, hY, hT, hK, hO, C1, hC1, hC2, hC3⟩ := id V
  have cut_1095 : ∀ (dd : Int32), inR (-100) dd 100 → ∀ (H : Heap) (locs : List Loc), cC g ((cNet g h N tk dom gr va dr off rt cnt lk dl td K E ds) ++ (lNet g ka nn aa ll yy tt kk oo)) A s H locs → ∀ (ls : Array Slot), lv_has ls 20 [(17, .int dd), (0, .ref b), (1, .ref (h 0)), (2, .ref (ka 0)), (3, .ref (ka 1)), (4, .ref (ka 2)), (5, .ref (ka 3)), (6, .ref (ka 4)), (7, .ref (ka 5)), (8, .ref (ka 6)), (9, .int (nI 1)), (10, .int (nI tn)), (13, .int (nI z)), (14, .int (nI i0))] → W p l e room_1 s m #[Value.ref b] below meth c H locs (cells) (slots) Q (F0 m 1095 ls []) := by
    intro dd h_dd H locs hG ls hl
    refine lv_aload_n hx hb dL_law_1095 rfl (lv_at hl 2 rfl) ?_
    refine lv_iload hx hb dL_law_1096 (lv_at hl 13 rfl) ?_
    refine lv_iload hx hb dL_law_1098 (lv_at hl 0 rfl) ?_
    refine q_fxVi (FR.l (lNet g ka nn aa ll yy tt kk oo)) (n := 2) (As := [.int (nI i0), .int dd]) (rest := []) hM hl.1 hG (c_X2_setDrift l hl0 g h N tk dom gr va dr off rt cnt lk dl td K E ds (nI i0) dd hN) rfl gL_law_X2_setDrift (by decide +kernel) ⟨Nat.le_of_ble_eq_true rfl, Nat.le_of_ble_eq_true rfl⟩ 0 rfl rfl rfl rfl rfl (Nat.le_of_ble_eq_true rfl) dL_law_1100 (c1 := cells + 1) (s1 := slots + 6) rfl rfl ⟨by omega, by omega⟩ (fun E ce q9 H locs hE _ _ _ _ => False.elim (ex2_no hE ⟨i0, hi, rfl⟩ h_dd)) (fun r_1100 u_1100 H locs hp_1100 hG => ?_)
    have hG : cC g ((cNet g h N tk dom gr va u_1100 off rt cnt lk dl td K E ds) ++ (lNet g ka nn aa ll yy tt kk oo)) A s H locs := hG
    obtain ⟨i9, hi9, e9, -, er, eu1⟩ := hp_1100
    obtain rfl : i0 = i9 := (nI_eq (by omega) (by omega)).mp e9
    rw [eu1] at hG
    have hG : cC g ((cNet g h N tk dom gr va (upd dr i0 dd) off rt cnt lk dl td K E ds) ++ (lNet g ka nn aa ll yy tt kk oo)) A s H locs := hG
    refine q_ren er ?_
    refine lv_aload_n hx hb dL_law_1103 rfl (lv_at hl 4 rfl) ?_
    refine lv_iconst (v := nI 4) hx hb dL_law_1104 (by decide) ?_
    refine lv_iload hx hb dL_law_1105 (lv_at hl 13 rfl) ?_
    refine lv_imul hx hb dL_law_1107 ?_
    refine q_ren (pk_mul 4 i0) ?_
    refine lv_iconst (v := nI 3) hx hb dL_law_1108 (by decide) ?_
    refine lv_iadd hx hb dL_law_1109 ?_
    refine q_ren (nI_add (4 * i0) 3) ?_
    refine q_iald hM hG 23 (i := 4 * i0 + 3) rfl (by omega) (by decide) dL_law_1110 ?_
    refine q_ren ((hA i0 hi).2.2.2) ?_
    refine lv_icmp_ne (tgt := 1118) hx hb dL_law_1111 (by decide) (fun c9 => absurd rfl c9) (fun _ => ?_)
    refine lv_iconst (v := nI 1) hx hb dL_law_1114 (by decide) ?_
    refine lv_goto (tgt := 1119) hx hb dL_law_1115 (by decide) ?_
    refine lv_istore (lv' := [(9, .int (nI 1)), (17, .int dd), (0, .ref b), (1, .ref (h 0)), (2, .ref (ka 0)), (3, .ref (ka 1)), (4, .ref (ka 2)), (5, .ref (ka 3)), (6, .ref (ka 4)), (7, .ref (ka 5)), (8, .ref (ka 6)), (10, .int (nI tn)), (13, .int (nI z)), (14, .int (nI i0))]) hx hb dL_law_1119 hl (by decide) rfl (fun ls hl => ?_)
    refine lv_aload_n hx hb dL_law_1121 rfl (lv_at hl 5 rfl) ?_
    refine lv_iconst (v := nI 4) hx hb dL_law_1122 (by decide) ?_
    refine lv_iload hx hb dL_law_1123 (lv_at hl 13 rfl) ?_
    refine lv_imul hx hb dL_law_1125 ?_
    refine q_ren (pk_mul 4 i0) ?_
    refine lv_iconst (v := nI 3) hx hb dL_law_1126 (by decide) ?_
    refine lv_iadd hx hb dL_law_1127 ?_
    refine q_ren (nI_add (4 * i0) 3) ?_
    refine lv_iload hx hb dL_law_1128 (lv_at hl 1 rfl) ?_
    refine q_iast hM hG 23 (i := 4 * i0 + 3) rfl (by omega) (by decide) (ws1 := ((cNet g h N tk dom gr va (upd dr i0 dd) off rt cnt lk dl td K E ds) ++ (lNet g ka nn (upd aa (4 * i0 + 3) dd) ll yy tt kk oo))) rfl dL_law_1130 (fun H locs hG => ?_)
    refine lv_goto (tgt := 1260) hx hb dL_law_1131 (by decide) ?_
    refine W.widen (k := cells + 60) (n := slots + 600) (by omega) (by omega) ?_
    exact kont _ _ _ ⟨_, _, _, _, _, _, _, _, _, _, _, _, _, _, _, _, _, _, _, _, _, _, hG, JV_drift V, hN0⟩ (lv_sub hl [2, 3, 4, 5, 6, 7, 8, 9, 10, 0, 11, 12] rfl)
  refine lv_iload hx hb dL_law_1081 (lv_at hl 11 rfl) ?_
  refine lv_bipush (v := nI 10) hx hb dL_law_1083 (by decide) ?_
  refine lv_idiv hx hb dL_law_1085 (by decide) ?_
  refine q_ren (pk_div (a := z) (by omega) (by decide) (by decide)) ?_
  refine lv_sipush (v := nI 201) hx hb dL_law_1086 (by decide) ?_
  refine lv_irem hx hb dL_law_1089 (by decide) ?_
  refine q_ren (pk_rem (a := z / 10) (by omega) (by decide) (by decide)) ?_
  refine lv_bipush (v := nI 100) hx hb dL_law_1090 (by decide) ?_
  refine lv_isub hx hb dL_law_1092 ?_
  refine lv_istore (lv' := [(17, .int ((nI ((z / 10) % 201)) - (nI 100))), (0, .ref b), (1, .ref (h 0)), (2, .ref (ka 0)), (3, .ref (ka 1)), (4, .ref (ka 2)), (5, .ref (ka 3)), (6, .ref (ka 4)), (7, .ref (ka 5)), (8, .ref (ka 6)), (9, .int (nI 1)), (10, .int (nI tn)), (13, .int (nI z)), (14, .int (nI i0))]) hx hb dL_law_1093 hl (by decide) rfl (fun ls hl => ?_)
  exact cut_1095 ((nI ((z / 10) % 201)) - (nI 100)) (dif_rng2 (by omega)) _ _ hG _ (lv_sub hl [0, 1, 2, 3, 4, 5, 6, 7, 8, 9, 10, 11, 12, 13] rfl)

set_option maxHeartbeats 4000000 in
set_option maxRecDepth 100000 in
theorem lc_offset {p : Program} {e : Env} {s : State} {m : MethodId} {below : List Frame} {meth : Method} {c : Code} (l : Launch) (hl0 : l.stackTraces = false) {b L : Nat} {xs : Nat → Int32} (C0 : lw_At p s m meth c b L xs) {g : EN} {h ka : Nat → Nat} {A : Nat → Prop} {N : Nat} {tk : Int32} {dom : Nat → Int32} {gr : Nat → Int32} {va : Nat → Int32} {dr : Nat → Int32} {off : Nat → Int64} {rt : Nat → Int64} {cnt : Int32} {lk : Nat → Int32} {dl : Nat → Int32} {td : Nat → Int32} {K : KT} {E : KT} {ds : Nat → Int32} {nn : Nat → Int32} {aa : Nat → Int32} {ll : Nat → Int32} {yy : Nat → Int64} {tt : Nat → Int32} {kk : Nat → Int64} {oo : Nat → Int64} {H : Heap} {locs : List Loc} {cells slots : Nat} (hroom : cells + 60 ≤ room_1.cells ∧ slots + 600 ≤ room_1.slots) (hG : cC g ((cNet g h N tk dom gr va dr off rt cnt lk dl td K E ds) ++ (lNet g ka nn aa ll yy tt kk oo)) A s H locs) (V : JV N tk dom gr va dr off rt cnt lk dl td K nn aa ll yy tt kk oo) {tn z : Nat} (hz : z < 2 ^ 27) {i0 : Nat} (hi : i0 < N) (hN0 : 0 < N) {Q : State → Prop} {ls : Array Slot} (hl : lv_has ls 20 [(0, .ref b), (1, .ref (h 0)), (2, .ref (ka 0)), (3, .ref (ka 1)), (4, .ref (ka 2)), (5, .ref (ka 3)), (6, .ref (ka 4)), (7, .ref (ka 5)), (8, .ref (ka 6)), (9, .int (nI 1)), (10, .int (nI tn)), (13, .int (nI z)), (14, .int (nI i0))])
    (kont : ∀ (H1 : Heap) (locs1 : List Loc) (ls1 : Array Slot), JI g h ka A s H1 locs1 → lv_has ls1 20 [(0, .ref b), (1, .ref (h 0)), (2, .ref (ka 0)), (3, .ref (ka 1)), (4, .ref (ka 2)), (5, .ref (ka 3)), (6, .ref (ka 4)), (7, .ref (ka 5)), (8, .ref (ka 6)), (9, .int (nI 1)), (10, .int (nI tn)), (13, .int (nI z))] → W p l e room_1 s m #[Value.ref b] below meth c H1 locs1 (cells + 60) (slots + 600) Q (F0 m 1260 ls1 [])) : W p l e room_1 s m #[Value.ref b] below meth c H locs cells slots Q (F0 m 1141 ls []) := by
  obtain ⟨hx, hb, hr, hml, hown, hts0, hX, hbl, hlocks, hgv⟩ := C0
  have hM : CallFix p m c cL_law 20 s #[Value.ref b] wsL_law RL := ⟨hx, hb, hml, hown, fun w h => hts0 w (wsL_law_in w h)⟩
  have hts := hM.2.2.2.2
  obtain ⟨hN, hg, hlk, hself, hsy, hn0, hn1, hn2, hA, hB, hY, hT, hK, hO, C1, hC1, hC2, hC3⟩ := id V
  have cut_1154 : ∀ (dd : Int32), inR (-1000000) dd 1000000 → ∀ (H : Heap) (locs : List Loc), cC g ((cNet g h N tk dom gr va dr off rt cnt lk dl td K E ds) ++ (lNet g ka nn aa ll yy tt kk oo)) A s H locs → ∀ (ls : Array Slot), lv_has ls 20 [(17, .int dd), (0, .ref b), (1, .ref (h 0)), (2, .ref (ka 0)), (3, .ref (ka 1)), (4, .ref (ka 2)), (5, .ref (ka 3)), (6, .ref (ka 4)), (7, .ref (ka 5)), (8, .ref (ka 6)), (9, .int (nI 1)), (10, .int (nI tn)), (13, .int (nI z)), (14, .int (nI i0))] → W p l e room_1 s m #[Value.ref b] below meth c H locs (cells) (slots) Q (F0 m 1154 ls []) := by
    intro dd h_dd H locs hG ls hl
    refine lv_aload_n hx hb dL_law_1154 rfl (lv_at hl 2 rfl) ?_
    refine lv_iload hx hb dL_law_1155 (lv_at hl 13 rfl) ?_
    refine lv_iload hx hb dL_law_1157 (lv_at hl 0 rfl) ?_
    refine q_fxVl (FR.l (lNet g ka nn aa ll yy tt kk oo)) (n := 2) (As := [.int (nI i0), .int dd]) (rest := []) hM hl.1 hG (c_X2_setOffset l hl0 g h N tk dom gr va dr off rt cnt lk dl td K E ds (nI i0) dd hN) rfl gL_law_X2_setOffset (by decide +kernel) ⟨Nat.le_of_ble_eq_true rfl, Nat.le_of_ble_eq_true rfl⟩ 0 rfl rfl rfl rfl rfl (Nat.le_of_ble_eq_true rfl) dL_law_1159 (c1 := cells + 1) (s1 := slots + 6) rfl rfl ⟨by omega, by omega⟩ (fun E ce q9 H locs hE _ _ _ _ => False.elim (ex2_no hE ⟨i0, hi, rfl⟩ h_dd)) (fun r_1159 u_1159 H locs hp_1159 hG => ?_)
    have hG : cC g ((cNet g h N tk dom gr va dr u_1159 rt cnt lk dl td K E ds) ++ (lNet g ka nn aa ll yy tt kk oo)) A s H locs := hG
    obtain ⟨i9, hi9, e9, -, er, eu1⟩ := hp_1159
    obtain rfl : i0 = i9 := (nI_eq (by omega) (by omega)).mp e9
    rw [eu1] at hG
    have hG : cC g ((cNet g h N tk dom gr va dr (vp_updL off i0 dd.toInt64) rt cnt lk dl td K E ds) ++ (lNet g ka nn aa ll yy tt kk oo)) A s H locs := hG
    refine q_renl er ?_
    refine lv_aload hx hb dL_law_1162 (lv_at hl 9 rfl) ?_
    refine lv_iload hx hb dL_law_1164 (lv_at hl 13 rfl) ?_
    refine q_lald hM hG 28 (i := i0) rfl (by omega) (by decide) dL_law_1166 ?_
    refine q_renl ((hO i0 (by omega)).1) ?_
    refine W.lcmp hx hb dL_law_1167 ?_
    refine q_ren (show lg_cmp (off i0) (off i0) = nI 0 from (lg_cmp_eq _ _).mpr rfl) ?_
    refine lv_if_ne (tgt := 1175) hx hb dL_law_1168 (by decide) (fun c9 => False.elim (by revert c9; decide)) (fun _ => ?_)
    refine lv_iconst (v := nI 1) hx hb dL_law_1171 (by decide) ?_
    refine lv_goto (tgt := 1176) hx hb dL_law_1172 (by decide) ?_
    refine lv_istore (lv' := [(9, .int (nI 1)), (17, .int dd), (0, .ref b), (1, .ref (h 0)), (2, .ref (ka 0)), (3, .ref (ka 1)), (4, .ref (ka 2)), (5, .ref (ka 3)), (6, .ref (ka 4)), (7, .ref (ka 5)), (8, .ref (ka 6)), (10, .int (nI tn)), (13, .int (nI z)), (14, .int (nI i0))]) hx hb dL_law_1176 hl (by decide) rfl (fun ls hl => ?_)
    refine lv_aload hx hb dL_law_1178 (lv_at hl 10 rfl) ?_
    refine lv_iload hx hb dL_law_1180 (lv_at hl 13 rfl) ?_
    refine lv_iload hx hb dL_law_1182 (lv_at hl 1 rfl) ?_
    refine lv_i2l hx hb dL_law_1184 rfl ?_
    refine q_last hM hG 28 (i := i0) rfl (by omega) (by decide) (ws1 := ((cNet g h N tk dom gr va dr (vp_updL off i0 dd.toInt64) rt cnt lk dl td K E ds) ++ (lNet g ka nn aa ll yy tt kk (vp_updL oo i0 dd.toInt64)))) rfl dL_law_1185 (fun H locs hG => ?_)
    refine lv_goto (tgt := 1260) hx hb dL_law_1186 (by decide) ?_
    refine W.widen (k := cells + 60) (n := slots + 600) (by omega) (by omega) ?_
    exact kont _ _ _ ⟨_, _, _, _, _, _, _, _, _, _, _, _, _, _, _, _, _, _, _, _, _, _, hG, JV_offset V (by omega), hN0⟩ (lv_sub hl [2, 3, 4, 5, 6, 7, 8, 9, 10, 0, 11, 12] rfl)
  refine lv_iload hx hb dL_law_1141 (lv_at hl 11 rfl) ?_
  refine lv_bipush (v := nI 10) hx hb dL_law_1143 (by decide) ?_
  refine lv_idiv hx hb dL_law_1145 (by decide) ?_
  refine q_ren (pk_div (a := z) (by omega) (by decide) (by decide)) ?_
  refine lv_ldc (v := 2000001) hx hb hown (hts (.constant RL 148 2000001) (by decide +kernel)) dL_law_1146 ?_
  refine q_ren (show (2000001 : Int32) = nI 2000001 from rfl) ?_
  refine lv_irem hx hb dL_law_1148 (by decide) ?_
  refine q_ren (pk_rem (a := z / 10) (by omega) (by decide) (by decide)) ?_
  refine lv_ldc (v := 1000000) hx hb hown (hts (.constant RL 149 1000000) (by decide +kernel)) dL_law_1149 ?_
  refine q_ren (show (1000000 : Int32) = nI 1000000 from rfl) ?_
  refine lv_isub hx hb dL_law_1151 ?_
  refine lv_istore (lv' := [(17, .int ((nI ((z / 10) % 2000001)) - (nI 1000000))), (0, .ref b), (1, .ref (h 0)), (2, .ref (ka 0)), (3, .ref (ka 1)), (4, .ref (ka 2)), (5, .ref (ka 3)), (6, .ref (ka 4)), (7, .ref (ka 5)), (8, .ref (ka 6)), (9, .int (nI 1)), (10, .int (nI tn)), (13, .int (nI z)), (14, .int (nI i0))]) hx hb dL_law_1152 hl (by decide) rfl (fun ls hl => ?_)
  exact cut_1154 ((nI ((z / 10) % 2000001)) - (nI 1000000)) (dif_rng3 (by omega)) _ _ hG _ (lv_sub hl [0, 1, 2, 3, 4, 5, 6, 7, 8, 9, 10, 11, 12, 13] rfl)
