set_option maxHeartbeats 4000000 in
set_option maxRecDepth 100000 in
theorem lc_tick {p : Program} {e : Env} {s : State} {m : MethodId} {below : List Frame} {meth : Method} {c : Code} (l : Launch) (hl0 : l.stackTraces = false) {b L : Nat} {xs : Nat → Int32} (C0 : lw_At p s m meth c b L xs) {g : EN} {h ka : Nat → Nat} {A : Nat → Prop} {N : Nat} {tk : Int32} {dom : Nat → Int32} {gr : Nat → Int32} {va : Nat → Int32} {dr : Nat → Int32} {off : Nat → Int64} {rt : Nat → Int64} {cnt : Int32} {lk : Nat → Int32} {dl : Nat → Int32} {td : Nat → Int32} {K : KT} {E : KT} {ds : Nat → Int32} {nn : Nat → Int32} {aa : Nat → Int32} {ll : Nat → Int32} {yy : Nat → Int64} {tt : Nat → Int32} {kk : Nat → Int64} {oo : Nat → Int64} {H : Heap} {locs : List Loc} {cells slots : Nat} (hroom : cells + 60 ≤ room_1.cells ∧ slots + 600 ≤ room_1.slots) (hG : cC g ((cNet g h N tk dom gr va dr off rt cnt lk dl td K E ds) ++ (lNet g ka nn aa ll yy tt kk oo)) A s H locs) (V : JV N tk dom gr va dr off rt cnt lk dl td K nn aa ll yy tt kk oo) {tn z : Nat} (hz : z < 2 ^ 27) (hN0 : 0 < N) {Q : State → Prop} {ls : Array Slot} (hl : lv_has ls 20 [(0, .ref b), (1, .ref (h 0)), (2, .ref (ka 0)), (3, .ref (ka 1)), (4, .ref (ka 2)), (5, .ref (ka 3)), (6, .ref (ka 4)), (7, .ref (ka 5)), (8, .ref (ka 6)), (9, .int (nI 1)), (10, .int (nI tn)), (13, .int (nI z))])
    (kont : ∀ (H1 : Heap) (locs1 : List Loc) (ls1 : Array Slot), JI g h ka A s H1 locs1 → lv_has ls1 20 [(0, .ref b), (1, .ref (h 0)), (2, .ref (ka 0)), (3, .ref (ka 1)), (4, .ref (ka 2)), (5, .ref (ka 3)), (6, .ref (ka 4)), (7, .ref (ka 5)), (8, .ref (ka 6)), (9, .int (nI 1)), (10, .int (nI tn)), (13, .int (nI z))] → W p l e room_1 s m #[Value.ref b] below meth c H1 locs1 (cells + 60) (slots + 600) Q (F0 m 1260 ls1 [])) : W p l e room_1 s m #[Value.ref b] below meth c H locs cells slots Q (F0 m 1189 ls []) := by
  obtain ⟨hx, hb, hr, hml, hown, hts0, hX, hbl, hlocks, hgv⟩ := C0
  have hM : CallFix p m c cL_law 20 s #[Value.ref b] wsL_law RL := ⟨hx, hb, hml, hown, fun w h => hts0 w (wsL_law_in w h)⟩
  have hts := hM.2.2.2.2
  obtain ⟨hN, hg, hlk, hself, hsy, hn0, hn1, hn2, hA, hB, hY, hT, hK, hO, C1, hC1, hC2, hC3⟩ := id V
  have cut_1210 : ∀ (M : Nat), 1 ≤ M ∧ M ≤ 50 → ∀ (H : Heap) (locs : List Loc), cC g ((cNet g h N tk dom gr va dr off rt cnt lk dl td K E ds) ++ (lNet g ka nn aa ll yy tt kk oo)) A s H locs → ∀ (ls : Array Slot), lv_has ls 20 [(17, .int (nI M)), (0, .ref b), (1, .ref (h 0)), (2, .ref (ka 0)), (3, .ref (ka 1)), (4, .ref (ka 2)), (5, .ref (ka 3)), (6, .ref (ka 4)), (7, .ref (ka 5)), (8, .ref (ka 6)), (9, .int (nI 1)), (10, .int (nI tn)), (13, .int (nI z))] → W p l e room_1 s m #[Value.ref b] below meth c H locs (cells) (slots) Q (F0 m 1210 ls []) := by
    intro M h_M H locs hG ls hl
    refine lv_iconst (v := nI 0) hx hb dL_law_1210 (by decide) ?_
    refine lv_istore (lv' := [(18, .int (nI 0)), (17, .int (nI M)), (0, .ref b), (1, .ref (h 0)), (2, .ref (ka 0)), (3, .ref (ka 1)), (4, .ref (ka 2)), (5, .ref (ka 3)), (6, .ref (ka 4)), (7, .ref (ka 5)), (8, .ref (ka 6)), (9, .int (nI 1)), (10, .int (nI tn)), (13, .int (nI z))]) hx hb dL_law_1211 hl (by decide) rfl (fun ls hl => ?_)
    have loop_1213 : ∀ (n9 w : Nat) (nn1 : Nat → Int32) (kk1 : Nat → Int64) (oo1 : Nat → Int64), w ≤ M → M < w + n9 → (nn1 0 = nI N ∧ nn1 1 = cnt ∧ nn1 2 = tk + nI w ∧ LK N (tkN dom lk gr va dr dl td N ((off, rt), K) w).2 kk1 ∧ LO oo1 (tkN dom lk gr va dr dl td N ((off, rt), K) w).1.1 (tkN dom lk gr va dr dl td N ((off, rt), K) w).1.2) → ∀ (H : Heap) (locs : List Loc), cC g ((cNet g h N tk dom gr va dr off rt cnt lk dl td K E ds) ++ (lNet g ka nn1 aa ll yy tt kk1 oo1)) A s H locs → ∀ (ls : Array Slot), lv_has ls 20 [(18, .int (nI w)), (17, .int (nI M)), (0, .ref b), (1, .ref (h 0)), (2, .ref (ka 0)), (3, .ref (ka 1)), (4, .ref (ka 2)), (5, .ref (ka 3)), (6, .ref (ka 4)), (7, .ref (ka 5)), (8, .ref (ka 6)), (9, .int (nI 1)), (10, .int (nI tn)), (13, .int (nI z))] → W p l e room_1 s m #[Value.ref b] below meth c H locs (cells + w) (slots + 10 * w) Q (F0 m 1213 ls []) := by
      intro n9
      induction n9 with
      | zero => intro w nn1 kk1 oo1 h1 h2; exact absurd h2 (by omega)
      | succ n9 ih_1213 =>
        intro w nn1 kk1 oo1 hle_w hlt9 hinv_w H locs hG ls hl
        obtain ⟨hi1, hi2, hi3, hi4, hi5⟩ := hinv_w
        refine lv_iload hx hb dL_law_1213 (lv_at hl 0 rfl) ?_
        refine lv_iload hx hb dL_law_1215 (lv_at hl 1 rfl) ?_
        refine lv_icmp_ge (tgt := 1241) hx hb dL_law_1217 (by decide) (fun c_1217 => ?_) (fun c_1217 => ?_)
        · have hw : w = M := by have h9 := ctr_ge (a := w) (b := M) (by omega) (by omega) c_1217; omega
          refine lv_aload_n hx hb dL_law_1241 rfl (lv_at hl 3 rfl) ?_
          refine lv_iload hx hb dL_law_1242 (lv_at hl 1 rfl) ?_
          refine q_fxVi (FR.l (lNet g ka nn1 aa ll yy tt kk1 oo1)) (n := 1) (As := [.int (nI M)]) (rest := []) hM hl.1 hG (c_X2_tick l hl0 g h N tk dom gr va dr off rt cnt lk dl td K E ds (nI M) hN hlk) rfl gL_law_X2_tick (by decide +kernel) ⟨Nat.le_of_ble_eq_true rfl, Nat.le_of_ble_eq_true rfl⟩ 0 rfl rfl rfl rfl rfl (Nat.le_of_ble_eq_true rfl) dL_law_1244 (c1 := cells + w + 1) (s1 := slots + 10 * w + 6) rfl rfl ⟨by omega, by omega⟩ (fun E ce q9 H locs hE _ _ _ _ => False.elim (ex1_no hE ⟨(nI_leI (a := 1) (by decide) (by omega)).mpr h_M.1, (nI_leI (b := 50) (by omega) (by decide)).mpr h_M.2⟩)) (fun r_1244 u_1244 H locs hp_1244 hG => ?_)
          have hG : cC g ((cNet g h N (tk + nI M) dom gr va dr u_1244.1.1.1 u_1244.1.1.2 cnt lk dl td u_1244.1.2 u_1244.2 ds) ++ (lNet g ka nn1 aa ll yy tt kk1 oo1)) A s H locs := hG
          obtain ⟨T9, hT9, -, e9, hu9, er⟩ := hp_1244
          obtain rfl : M = T9 := (nI_eq (by omega) (by omega)).mp e9
          refine q_ren er ?_
          refine lv_aload_n hx hb dL_law_1247 rfl (lv_at hl 4 rfl) ?_
          refine lv_iconst (v := nI 2) hx hb dL_law_1248 (by decide) ?_
          refine q_iald hM hG 22 (i := 2) rfl (by decide) (by decide) dL_law_1249 ?_
          refine q_ren (by rw [hi3, hw]) ?_
          refine lv_icmp_ne (tgt := 1257) hx hb dL_law_1250 (by decide) (fun c9 => absurd rfl c9) (fun _ => ?_)
          refine lv_iconst (v := nI 1) hx hb dL_law_1253 (by decide) ?_
          refine lv_goto (tgt := 1258) hx hb dL_law_1254 (by decide) ?_
          refine lv_istore (lv' := [(9, .int (nI 1)), (18, .int (nI w)), (17, .int (nI M)), (0, .ref b), (1, .ref (h 0)), (2, .ref (ka 0)), (3, .ref (ka 1)), (4, .ref (ka 2)), (5, .ref (ka 3)), (6, .ref (ka 4)), (7, .ref (ka 5)), (8, .ref (ka 6)), (10, .int (nI tn)), (13, .int (nI z))]) hx hb dL_law_1258 hl (by decide) rfl (fun ls hl => ?_)
          refine W.widen (k := cells + 60) (n := slots + 600) (by omega) (by omega) ?_
          exact kont _ _ _ ⟨_, _, _, _, _, _, _, _, _, _, _, _, _, _, _, _, _, _, _, _, _, _, hG, (by rw [hw] at hi4 hi5; have h7 : u_1244.1 = _ := hu9; exact ⟨hN, hg, hlk, hself, hsy, hi1, hi2, by rw [hi3, hw], hA, hB, hY, hT, (by rw [h7]; exact hi4), (by rw [h7]; exact hi5), C1, hC1, hC2, hC3⟩), hN0⟩ (lv_sub hl [3, 4, 5, 6, 7, 8, 9, 10, 11, 0, 12, 13] rfl)
        · have hw : w < M := ctr_lt (by omega) (by omega) c_1217
          refine lv_aload_n hx hb dL_law_1220 rfl (lv_at hl 4 rfl) ?_
          refine lv_aload_n hx hb dL_law_1221 rfl (lv_at hl 5 rfl) ?_
          refine lv_aload hx hb dL_law_1222 (lv_at hl 6 rfl) ?_
          refine lv_aload hx hb dL_law_1224 (lv_at hl 7 rfl) ?_
          refine lv_aload hx hb dL_law_1226 (lv_at hl 8 rfl) ?_
          refine lv_aload hx hb dL_law_1228 (lv_at hl 9 rfl) ?_
          refine lv_aload hx hb dL_law_1230 (lv_at hl 10 rfl) ?_
          refine q_fSv (FR.r (cNet g h N tk dom gr va dr off rt cnt lk dl td K E ds)) (n := 7) (As := [.ref (ka 0), .ref (ka 1), .ref (ka 2), .ref (ka 3), .ref (ka 4), .ref (ka 5), .ref (ka 6)]) (rest := []) hM hl.1 hG (c_L_ticks l g ka nn1 aa ll yy tt kk1 oo1 N dom gr va dr lk dl td (tkN dom lk gr va dr dl td N ((off, rt), K) w).1.1 (tkN dom lk gr va dr dl td N ((off, rt), K) w).1.2 (tkN dom lk gr va dr dl td N ((off, rt), K) w).2 hi1 hN hA hB hg hself hY hT hi4 hi5) rfl gL_law_L_ticks (by decide +kernel) ⟨Nat.le_of_ble_eq_true rfl, Nat.le_of_ble_eq_true rfl⟩ rfl rfl (Nat.le_of_ble_eq_true rfl) dL_law_1232 (c1 := cells + (w + 1)) (s1 := slots + 10 * (w + 1)) (by show cells + w + 1 = cells + (w + 1); omega) (by show slots + 10 * w + 10 = slots + 10 * (w + 1); omega) ⟨by omega, by omega⟩ (fun u9 H locs hp hG => ?_)
          obtain ⟨v1, v2, v3⟩ := u9
          obtain ⟨ev1, hv2, hv3⟩ := hp
          try dsimp only at ev1 hv2 hv3
          have hG : cC g ((cNet g h N tk dom gr va dr off rt cnt lk dl td K E ds) ++ (lNet g ka v1 aa ll yy tt v2 v3)) A s H locs := hG
          refine lv_iinc (v := (nI (w + 1))) (lv' := [(18, .int (nI (w + 1))), (17, .int (nI M)), (0, .ref b), (1, .ref (h 0)), (2, .ref (ka 0)), (3, .ref (ka 1)), (4, .ref (ka 2)), (5, .ref (ka 3)), (6, .ref (ka 4)), (7, .ref (ka 5)), (8, .ref (ka 6)), (9, .int (nI 1)), (10, .int (nI tn)), (13, .int (nI z))]) hx hb dL_law_1235 hl (k := 0) rfl (nI_1 w) (by decide) rfl (fun ls hl => ?_)
          refine lv_goto (tgt := 1213) hx hb dL_law_1238 (by decide) ?_
          exact ih_1213 (w + 1) v1 v2 v3 (by omega) (by omega) (⟨by rw [ev1, pk_un (by decide)]; exact hi1, by rw [ev1, pk_un (by decide)]; exact hi2, by rw [ev1, pk_us, hi3, nI_succ, Int32.add_assoc], hv2, hv3⟩) _ _ hG _ (lv_sub hl [0, 1, 2, 3, 4, 5, 6, 7, 8, 9, 10, 11, 12, 13] rfl)
    have h9 := loop_1213 (M + 1) 0 nn kk oo (by omega) (by omega) (⟨hn0, hn1, hn2.trans (Int32.add_zero tk).symm, hK, hO⟩) _ _ hG _ (lv_sub hl [0, 1, 2, 3, 4, 5, 6, 7, 8, 9, 10, 11, 12, 13] rfl)
    rw [Nat.mul_zero, Nat.add_zero, Nat.add_zero] at h9
    exact h9
  refine lv_iconst (v := nI 1) hx hb dL_law_1189 (by decide) ?_
  refine lv_iload hx hb dL_law_1190 (lv_at hl 11 rfl) ?_
  refine lv_iload hx hb dL_law_1192 (lv_at hl 11 rfl) ?_
  refine lv_bipush (v := nI 6) hx hb dL_law_1194 (by decide) ?_
  refine lv_irem hx hb dL_law_1196 (by decide) ?_
  refine q_ren (pk_rem (a := z) (by omega) (by decide) (by decide)) ?_
  refine lv_if_ne (tgt := 1205) hx hb dL_law_1197 (by decide) (fun c_1197 => ?_) (fun c_1197 => ?_)
  · refine lv_iconst (v := nI 4) hx hb dL_law_1205 (by decide) ?_
    refine lv_irem hx hb dL_law_1206 (by decide) ?_
    refine q_ren (pk_rem (a := z) (by omega) (by decide) (by decide)) ?_
    refine lv_iadd hx hb dL_law_1207 ?_
    refine q_ren (nI_add 1 (z % 4)) ?_
    refine lv_istore (lv' := [(17, .int (nI (1 + (z % 4)))), (0, .ref b), (1, .ref (h 0)), (2, .ref (ka 0)), (3, .ref (ka 1)), (4, .ref (ka 2)), (5, .ref (ka 3)), (6, .ref (ka 4)), (7, .ref (ka 5)), (8, .ref (ka 6)), (9, .int (nI 1)), (10, .int (nI tn)), (13, .int (nI z))]) hx hb dL_law_1208 hl (by decide) rfl (fun ls hl => ?_)
    exact cut_1210 (1 + (z % 4)) (by omega) _ _ hG _ (lv_sub hl [0, 1, 2, 3, 4, 5, 6, 7, 8, 9, 10, 11, 12] rfl)
  · refine lv_bipush (v := nI 50) hx hb dL_law_1200 (by decide) ?_
    refine lv_goto (tgt := 1206) hx hb dL_law_1202 (by decide) ?_
    refine lv_irem hx hb dL_law_1206 (by decide) ?_
    refine q_ren (pk_rem (a := z) (by omega) (by decide) (by decide)) ?_
    refine lv_iadd hx hb dL_law_1207 ?_
    refine q_ren (nI_add 1 (z % 50)) ?_
    refine lv_istore (lv' := [(17, .int (nI (1 + (z % 50)))), (0, .ref b), (1, .ref (h 0)), (2, .ref (ka 0)), (3, .ref (ka 1)), (4, .ref (ka 2)), (5, .ref (ka 3)), (6, .ref (ka 4)), (7, .ref (ka 5)), (8, .ref (ka 6)), (9, .int (nI 1)), (10, .int (nI tn)), (13, .int (nI z))]) hx hb dL_law_1208 hl (by decide) rfl (fun ls hl => ?_)
    exact cut_1210 (1 + (z % 50)) (by omega) _ _ hG _ (lv_sub hl [0, 1, 2, 3, 4, 5, 6, 7, 8, 9, 10, 11, 12] rfl)
