set_option maxHeartbeats 4000000 in
set_option maxRecDepth 100000 in
theorem lc_add {p : Program} {e : Env} {s : State} {m : MethodId} {below : List Frame} {meth : Method} {c : Code} (l : Launch) (hl0 : l.stackTraces = false) {b L : Nat} {xs : Nat → Int32} (C0 : lw_At p s m meth c b L xs) {g : EN} {h ka : Nat → Nat} {A : Nat → Prop} {N : Nat} {tk : Int32} {dom : Nat → Int32} {gr : Nat → Int32} {va : Nat → Int32} {dr : Nat → Int32} {off : Nat → Int64} {rt : Nat → Int64} {cnt : Int32} {lk : Nat → Int32} {dl : Nat → Int32} {td : Nat → Int32} {K : KT} {E : KT} {ds : Nat → Int32} {nn : Nat → Int32} {aa : Nat → Int32} {ll : Nat → Int32} {yy : Nat → Int64} {tt : Nat → Int32} {kk : Nat → Int64} {oo : Nat → Int64} {H : Heap} {locs : List Loc} {cells slots : Nat} (hroom : cells + 60 ≤ room_1.cells ∧ slots + 600 ≤ room_1.slots) (hG : cC g ((cNet g h N tk dom gr va dr off rt cnt lk dl td K E ds) ++ (lNet g ka nn aa ll yy tt kk oo)) A s H locs) (V : JV N tk dom gr va dr off rt cnt lk dl td K nn aa ll yy tt kk oo) {tn z : Nat} (hz : z < 2 ^ 27)  {Q : State → Prop} {ls : Array Slot} (hl : lv_has ls 20 [(0, .ref b), (1, .ref (h 0)), (2, .ref (ka 0)), (3, .ref (ka 1)), (4, .ref (ka 2)), (5, .ref (ka 3)), (6, .ref (ka 4)), (7, .ref (ka 5)), (8, .ref (ka 6)), (9, .int (nI 1)), (10, .int (nI tn)), (13, .int (nI z))])
    (kont : ∀ (H1 : Heap) (locs1 : List Loc) (ls1 : Array Slot), JI g h ka A s H1 locs1 → lv_has ls1 20 [(0, .ref b), (1, .ref (h 0)), (2, .ref (ka 0)), (3, .ref (ka 1)), (4, .ref (ka 2)), (5, .ref (ka 3)), (6, .ref (ka 4)), (7, .ref (ka 5)), (8, .ref (ka 6)), (9, .int (nI 1)), (10, .int (nI tn)), (13, .int (nI z))] → W p l e room_1 s m #[Value.ref b] below meth c H1 locs1 (cells + 60) (slots + 600) Q (F0 m 1260 ls1 [])) : W p l e room_1 s m #[Value.ref b] below meth c H locs cells slots Q (F0 m 283 ls []) := by
  obtain ⟨hx, hb, hr, hml, hown, hts0, hX, hbl, hlocks, hgv⟩ := C0
  have hM : CallFix p m c cL_law 20 s #[Value.ref b] wsL_law RL := ⟨hx, hb, hml, hown, fun w h => hts0 w (wsL_law_in w h)⟩
  have hts := hM.2.2.2.2
  obtain ⟨hN, hg, hlk, hself, hsy, hn0, hn1, hn2, hA, hB, hY, hT, hK, hO, C1, hC1, hC2, hC3⟩ := id V
  have cut_298 : ∀ (d7 : Nat), d7 ≤ 1 → ∀ (H : Heap) (locs : List Loc), cC g ((cNet g h N tk dom gr va dr off rt cnt lk dl td K E ds) ++ (lNet g ka nn aa ll yy tt kk oo)) A s H locs → ∀ (ls : Array Slot), lv_has ls 20 [(17, .int (nI d7)), (0, .ref b), (1, .ref (h 0)), (2, .ref (ka 0)), (3, .ref (ka 1)), (4, .ref (ka 2)), (5, .ref (ka 3)), (6, .ref (ka 4)), (7, .ref (ka 5)), (8, .ref (ka 6)), (9, .int (nI 1)), (10, .int (nI tn)), (13, .int (nI z))] → W p l e room_1 s m #[Value.ref b] below meth c H locs (cells) (slots) Q (F0 m 298 ls []) := by
    intro d7 h_d7 H locs hG ls hl
    have cut_329 : ∀ (g7 : Nat), g7 ≤ 255 → ∀ (H : Heap) (locs : List Loc), cC g ((cNet g h N tk dom gr va dr off rt cnt lk dl td K E ds) ++ (lNet g ka nn aa ll yy tt kk oo)) A s H locs → ∀ (ls : Array Slot), lv_has ls 20 [(18, .int (nI g7)), (17, .int (nI d7)), (0, .ref b), (1, .ref (h 0)), (2, .ref (ka 0)), (3, .ref (ka 1)), (4, .ref (ka 2)), (5, .ref (ka 3)), (6, .ref (ka 4)), (7, .ref (ka 5)), (8, .ref (ka 6)), (9, .int (nI 1)), (10, .int (nI tn)), (13, .int (nI z))] → W p l e room_1 s m #[Value.ref b] below meth c H locs (cells) (slots) Q (F0 m 329 ls []) := by
      intro g7 h_g7 H locs hG ls hl
      have cut_362 : ∀ (v7 : Nat), v7 ≤ 1000 → ∀ (H : Heap) (locs : List Loc), cC g ((cNet g h N tk dom gr va dr off rt cnt lk dl td K E ds) ++ (lNet g ka nn aa ll yy tt kk oo)) A s H locs → ∀ (ls : Array Slot), lv_has ls 20 [(19, .int (nI v7)), (18, .int (nI g7)), (17, .int (nI d7)), (0, .ref b), (1, .ref (h 0)), (2, .ref (ka 0)), (3, .ref (ka 1)), (4, .ref (ka 2)), (5, .ref (ka 3)), (6, .ref (ka 4)), (7, .ref (ka 5)), (8, .ref (ka 6)), (9, .int (nI 1)), (10, .int (nI tn)), (13, .int (nI z))] → W p l e room_1 s m #[Value.ref b] below meth c H locs (cells) (slots) Q (F0 m 362 ls []) := by
        intro v7 h_v7 H locs hG ls hl
        refine lv_aload_n hx hb dL_law_362 rfl (lv_at hl 4 rfl) ?_
        refine lv_iconst (v := nI 2) hx hb dL_law_363 (by decide) ?_
        refine lv_iload hx hb dL_law_364 (lv_at hl 2 rfl) ?_
        refine lv_iload hx hb dL_law_366 (lv_at hl 1 rfl) ?_
        refine lv_iload hx hb dL_law_368 (lv_at hl 0 rfl) ?_
        refine q_fWi (FR.l (lNet g ka nn aa ll yy tt kk oo)) (n := 5) (As := [.ref (h 0), .int (nI 2), .int (nI d7), .int (nI g7), .int (nI v7)]) (rest := []) hM hl.1 hG (w_add l hl0 g h N tk dom gr va dr off rt cnt lk dl td K E ds (nI d7) (nI g7) (nI v7) hN ⟨inR_n (b := 1) (by decide) h_d7, (inR_n (b := 255) (by decide) h_g7), (inR_n (b := 1000) (by decide) h_v7)⟩) rfl gL_law_L_does (by decide +kernel) ⟨Nat.le_of_ble_eq_true rfl, Nat.le_of_ble_eq_true rfl⟩ rfl rfl (Nat.le_of_ble_eq_true rfl) dL_law_370 (c1 := cells + 1) (s1 := slots + 6) rfl rfl ⟨by omega, by omega⟩ (fun r v H locs hp hG => ?_)
        rcases v with u | _
        · obtain ⟨-, hN1, er, eu⟩ := hp
          try dsimp only at eu
          subst eu
          have hG : cC g ((cNet g h (N + 1) tk (upd dom N (nI d7)) (upd gr N (nI g7)) (upd va N (nI v7)) (upd dr N (nI 7)) off rt cnt lk dl td (kst K N (rk (upd gr N (nI g7)) (upd va N (nI v7)) N)) E ds) ++ (lNet g ka nn aa ll yy tt kk oo)) A s H locs := hG
          refine q_ren er ?_
          refine lv_aload_n hx hb dL_law_373 rfl (lv_at hl 5 rfl) ?_
          refine lv_iconst (v := nI 0) hx hb dL_law_374 (by decide) ?_
          refine q_iald hM hG 22 (i := 0) rfl (by decide) (by decide) dL_law_375 ?_
          refine q_ren hn0 ?_
          refine lv_bipush (v := nI 10) hx hb dL_law_376 (by decide) ?_
          refine lv_icmp_ne (tgt := 386) hx hb dL_law_378 (by decide) (fun c_378 => ?_) (fun c_378 => ?_)
          · refine lv_aload_n hx hb dL_law_386 rfl (lv_at hl 5 rfl) ?_
            refine lv_iconst (v := nI 0) hx hb dL_law_387 (by decide) ?_
            refine q_iald hM hG 22 (i := 0) rfl (by decide) (by decide) dL_law_388 ?_
            refine q_ren hn0 ?_
            refine lv_icmp_ne (tgt := 396) hx hb dL_law_389 (by decide) (fun c9 => absurd rfl c9) (fun _ => ?_)
            refine lv_iconst (v := nI 1) hx hb dL_law_392 (by decide) ?_
            refine lv_goto (tgt := 397) hx hb dL_law_393 (by decide) ?_
            refine lv_istore (lv' := [(9, .int (nI 1)), (19, .int (nI v7)), (18, .int (nI g7)), (17, .int (nI d7)), (0, .ref b), (1, .ref (h 0)), (2, .ref (ka 0)), (3, .ref (ka 1)), (4, .ref (ka 2)), (5, .ref (ka 3)), (6, .ref (ka 4)), (7, .ref (ka 5)), (8, .ref (ka 6)), (10, .int (nI tn)), (13, .int (nI z))]) hx hb dL_law_397 hl (by decide) rfl (fun ls hl => ?_)
            refine lv_aload_n hx hb dL_law_399 rfl (lv_at hl 6 rfl) ?_
            refine lv_iconst (v := nI 0) hx hb dL_law_400 (by decide) ?_
            refine q_iald hM hG 22 (i := 0) rfl (by decide) (by decide) dL_law_401 ?_
            refine q_ren hn0 ?_
            refine lv_bipush (v := nI 10) hx hb dL_law_402 (by decide) ?_
            refine lv_icmp_ge (tgt := 469) hx hb dL_law_404 (by decide) (fun c_404 => ?_) (fun c_404 => ?_)
            · exact absurd ((nI_leI (by decide) (by omega)).mp c_404) (by omega)
            · refine lv_aload_n hx hb dL_law_407 rfl (lv_at hl 7 rfl) ?_
              refine lv_iconst (v := nI 4) hx hb dL_law_408 (by decide) ?_
              refine lv_aload_n hx hb dL_law_409 rfl (lv_at hl 6 rfl) ?_
              refine lv_iconst (v := nI 0) hx hb dL_law_410 (by decide) ?_
              refine q_iald hM hG 22 (i := 0) rfl (by decide) (by decide) dL_law_411 ?_
              refine q_ren hn0 ?_
              refine lv_imul hx hb dL_law_412 ?_
              refine q_ren (pk_mul 4 N) ?_
              refine lv_iload hx hb dL_law_413 (lv_at hl 3 rfl) ?_
              refine q_iast hM hG 23 (i := 4 * N) rfl (by omega) (by decide) (ws1 := ((cNet g h (N + 1) tk (upd dom N (nI d7)) (upd gr N (nI g7)) (upd va N (nI v7)) (upd dr N (nI 7)) off rt cnt lk dl td (kst K N (rk (upd gr N (nI g7)) (upd va N (nI v7)) N)) E ds) ++ (lNet g ka nn (upd aa (4 * N) (nI d7)) ll yy tt kk oo))) rfl dL_law_415 (fun H locs hG => ?_)
              refine lv_aload_n hx hb dL_law_416 rfl (lv_at hl 7 rfl) ?_
              refine lv_iconst (v := nI 4) hx hb dL_law_417 (by decide) ?_
              refine lv_aload_n hx hb dL_law_418 rfl (lv_at hl 6 rfl) ?_
              refine lv_iconst (v := nI 0) hx hb dL_law_419 (by decide) ?_
              refine q_iald hM hG 22 (i := 0) rfl (by decide) (by decide) dL_law_420 ?_
              refine q_ren hn0 ?_
              refine lv_imul hx hb dL_law_421 ?_
              refine q_ren (pk_mul 4 N) ?_
              refine lv_iconst (v := nI 1) hx hb dL_law_422 (by decide) ?_
              refine lv_iadd hx hb dL_law_423 ?_
              refine q_ren (nI_add (4 * N) 1) ?_
              refine lv_iload hx hb dL_law_424 (lv_at hl 2 rfl) ?_
              refine q_iast hM hG 23 (i := 4 * N + 1) rfl (by omega) (by decide) (ws1 := ((cNet g h (N + 1) tk (upd dom N (nI d7)) (upd gr N (nI g7)) (upd va N (nI v7)) (upd dr N (nI 7)) off rt cnt lk dl td (kst K N (rk (upd gr N (nI g7)) (upd va N (nI v7)) N)) E ds) ++ (lNet g ka nn (upd (upd aa (4 * N) (nI d7)) (4 * N + 1) (nI g7)) ll yy tt kk oo))) rfl dL_law_426 (fun H locs hG => ?_)
              refine lv_aload_n hx hb dL_law_427 rfl (lv_at hl 7 rfl) ?_
              refine lv_iconst (v := nI 4) hx hb dL_law_428 (by decide) ?_
              refine lv_aload_n hx hb dL_law_429 rfl (lv_at hl 6 rfl) ?_
              refine lv_iconst (v := nI 0) hx hb dL_law_430 (by decide) ?_
              refine q_iald hM hG 22 (i := 0) rfl (by decide) (by decide) dL_law_431 ?_
              refine q_ren hn0 ?_
              refine lv_imul hx hb dL_law_432 ?_
              refine q_ren (pk_mul 4 N) ?_
              refine lv_iconst (v := nI 2) hx hb dL_law_433 (by decide) ?_
              refine lv_iadd hx hb dL_law_434 ?_
              refine q_ren (nI_add (4 * N) 2) ?_
              refine lv_iload hx hb dL_law_435 (lv_at hl 1 rfl) ?_
              refine q_iast hM hG 23 (i := 4 * N + 2) rfl (by omega) (by decide) (ws1 := ((cNet g h (N + 1) tk (upd dom N (nI d7)) (upd gr N (nI g7)) (upd va N (nI v7)) (upd dr N (nI 7)) off rt cnt lk dl td (kst K N (rk (upd gr N (nI g7)) (upd va N (nI v7)) N)) E ds) ++ (lNet g ka nn (upd (upd (upd aa (4 * N) (nI d7)) (4 * N + 1) (nI g7)) (4 * N + 2) (nI v7)) ll yy tt kk oo))) rfl dL_law_437 (fun H locs hG => ?_)
              refine lv_aload_n hx hb dL_law_438 rfl (lv_at hl 7 rfl) ?_
              refine lv_iconst (v := nI 4) hx hb dL_law_439 (by decide) ?_
              refine lv_aload_n hx hb dL_law_440 rfl (lv_at hl 6 rfl) ?_
              refine lv_iconst (v := nI 0) hx hb dL_law_441 (by decide) ?_
              refine q_iald hM hG 22 (i := 0) rfl (by decide) (by decide) dL_law_442 ?_
              refine q_ren hn0 ?_
              refine lv_imul hx hb dL_law_443 ?_
              refine q_ren (pk_mul 4 N) ?_
              refine lv_iconst (v := nI 3) hx hb dL_law_444 (by decide) ?_
              refine lv_iadd hx hb dL_law_445 ?_
              refine q_ren (nI_add (4 * N) 3) ?_
              refine lv_bipush (v := nI 7) hx hb dL_law_446 (by decide) ?_
              refine q_iast hM hG 23 (i := 4 * N + 3) rfl (by omega) (by decide) (ws1 := ((cNet g h (N + 1) tk (upd dom N (nI d7)) (upd gr N (nI g7)) (upd va N (nI v7)) (upd dr N (nI 7)) off rt cnt lk dl td (kst K N (rk (upd gr N (nI g7)) (upd va N (nI v7)) N)) E ds) ++ (lNet g ka nn (upd (upd (upd (upd aa (4 * N) (nI d7)) (4 * N + 1) (nI g7)) (4 * N + 2) (nI v7)) (4 * N + 3) (nI 7)) ll yy tt kk oo))) rfl dL_law_448 (fun H locs hG => ?_)
              refine lv_aload hx hb dL_law_449 (lv_at hl 11 rfl) ?_
              refine lv_aload_n hx hb dL_law_451 rfl (lv_at hl 6 rfl) ?_
              refine lv_iconst (v := nI 0) hx hb dL_law_452 (by decide) ?_
              refine q_iald hM hG 22 (i := 0) rfl (by decide) (by decide) dL_law_453 ?_
              refine q_ren hn0 ?_
              refine lv_aload_n hx hb dL_law_454 rfl (lv_at hl 7 rfl) ?_
              refine lv_aload_n hx hb dL_law_455 rfl (lv_at hl 6 rfl) ?_
              refine lv_iconst (v := nI 0) hx hb dL_law_456 (by decide) ?_
              refine q_iald hM hG 22 (i := 0) rfl (by decide) (by decide) dL_law_457 ?_
              refine q_ren hn0 ?_
              refine q_fSl (FR.r (cNet g h (N + 1) tk (upd dom N (nI d7)) (upd gr N (nI g7)) (upd va N (nI v7)) (upd dr N (nI 7)) off rt cnt lk dl td (kst K N (rk (upd gr N (nI g7)) (upd va N (nI v7)) N)) E ds)) (n := 2) (As := [.ref (ka 1), .int (nI N)]) (rest := [.int (nI N), .ref (ka 5)]) hM hl.1 hG (c_L_own l g ka nn (upd (upd (upd (upd aa (4 * N) (nI d7)) (4 * N + 1) (nI g7)) (4 * N + 2) (nI v7)) (4 * N + 3) (nI 7)) ll yy tt kk oo (N + 1) (upd dom N (nI d7)) (upd gr N (nI g7)) (upd va N (nI v7)) (upd dr N (nI 7)) N (by omega) (by omega) (LA_add hA) (rng_u hg (inR_n (b := 255) (by decide) h_g7) (inR_n (b := 1000) (by decide) h_v7))) rfl gL_law_L_own (by decide +kernel) ⟨Nat.le_of_ble_eq_true rfl, Nat.le_of_ble_eq_true rfl⟩ rfl rfl (Nat.le_of_ble_eq_true rfl) dL_law_458 (c1 := cells + 1) (s1 := slots + 6) rfl rfl ⟨by omega, by omega⟩ (fun r_458 u_458 H locs hp_458 hG => ?_)
              have hG : cC g ((cNet g h (N + 1) tk (upd dom N (nI d7)) (upd gr N (nI g7)) (upd va N (nI v7)) (upd dr N (nI 7)) off rt cnt lk dl td (kst K N (rk (upd gr N (nI g7)) (upd va N (nI v7)) N)) E ds) ++ (lNet g ka nn (upd (upd (upd (upd aa (4 * N) (nI d7)) (4 * N + 1) (nI g7)) (4 * N + 2) (nI v7)) (4 * N + 3) (nI 7)) ll yy tt kk oo)) A s H locs := hG
              subst hp_458
              refine q_last hM hG 27 (i := N) rfl (by omega) (by decide) (ws1 := ((cNet g h (N + 1) tk (upd dom N (nI d7)) (upd gr N (nI g7)) (upd va N (nI v7)) (upd dr N (nI 7)) off rt cnt lk dl td (kst K N (rk (upd gr N (nI g7)) (upd va N (nI v7)) N)) E ds) ++ (lNet g ka nn (upd (upd (upd (upd aa (4 * N) (nI d7)) (4 * N + 1) (nI g7)) (4 * N + 2) (nI v7)) (4 * N + 3) (nI 7)) ll yy tt (vp_updL kk N (lN (rkn (upd gr N (nI g7)) (upd va N (nI v7)) N * 110))) oo))) rfl dL_law_461 (fun H locs hG => ?_)
              refine lv_aload_n hx hb dL_law_462 rfl (lv_at hl 6 rfl) ?_
              refine lv_iconst (v := nI 0) hx hb dL_law_463 (by decide) ?_
              refine lv_dup2_11 hx hb dL_law_464 rfl rfl ?_
              refine q_iald hM hG 22 (i := 0) rfl (by decide) (by decide) dL_law_465 ?_
              refine q_ren hn0 ?_
              refine lv_iconst (v := nI 1) hx hb dL_law_466 (by decide) ?_
              refine lv_iadd hx hb dL_law_467 ?_
              refine q_ren (nI_add N 1) ?_
              refine q_iast hM hG 22 (i := 0) rfl (by decide) (by decide) (ws1 := ((cNet g h (N + 1) tk (upd dom N (nI d7)) (upd gr N (nI g7)) (upd va N (nI v7)) (upd dr N (nI 7)) off rt cnt lk dl td (kst K N (rk (upd gr N (nI g7)) (upd va N (nI v7)) N)) E ds) ++ (lNet g ka (upd nn 0 (nI (N + 1))) (upd (upd (upd (upd aa (4 * N) (nI d7)) (4 * N + 1) (nI g7)) (4 * N + 2) (nI v7)) (4 * N + 3) (nI 7)) ll yy tt (vp_updL kk N (lN (rkn (upd gr N (nI g7)) (upd va N (nI v7)) N * 110))) oo))) rfl dL_law_468 (fun H locs hG => ?_)
              refine lv_goto (tgt := 1260) hx hb dL_law_469 (by decide) ?_
              refine W.widen (k := cells + 60) (n := slots + 600) (by omega) (by omega) ?_
              exact kont _ _ _ ⟨_, _, _, _, _, _, _, _, _, _, _, _, _, _, _, _, _, _, _, _, _, _, hG, JV_add V hN1 (inR_n (b := 255) (by decide) h_g7) (inR_n (b := 1000) (by decide) h_v7), (by omega)⟩ (lv_sub hl [4, 5, 6, 7, 8, 9, 10, 11, 12, 0, 13, 14] rfl)
          · exact absurd ((nI_eq (by omega) (by decide)).mp c_378) (by omega)
        · obtain ⟨er, hN1⟩ := hp
          have hG : cC g ((cNet g h N tk dom gr va dr off rt cnt lk dl td K E ds) ++ (lNet g ka nn aa ll yy tt kk oo)) A s H locs := hG
          refine q_ren er ?_
          refine lv_aload_n hx hb dL_law_373 rfl (lv_at hl 5 rfl) ?_
          refine lv_iconst (v := nI 0) hx hb dL_law_374 (by decide) ?_
          refine q_iald hM hG 22 (i := 0) rfl (by decide) (by decide) dL_law_375 ?_
          refine q_ren hn0 ?_
          refine lv_bipush (v := nI 10) hx hb dL_law_376 (by decide) ?_
          refine lv_icmp_ne (tgt := 386) hx hb dL_law_378 (by decide) (fun c_378 => ?_) (fun c_378 => ?_)
          · exact absurd (congrArg nI (show N = 10 by omega)) c_378
          · refine lv_ldc (v := (-2000000013)) hx hb hown (hts (.constant RL 75 (-2000000013)) (by decide +kernel)) dL_law_381 ?_
            refine lv_goto (tgt := 389) hx hb dL_law_383 (by decide) ?_
            refine lv_icmp_ne (tgt := 396) hx hb dL_law_389 (by decide) (fun c9 => False.elim (by revert c9; decide)) (fun _ => ?_)
            refine lv_iconst (v := nI 1) hx hb dL_law_392 (by decide) ?_
            refine lv_goto (tgt := 397) hx hb dL_law_393 (by decide) ?_
            refine lv_istore (lv' := [(9, .int (nI 1)), (19, .int (nI v7)), (18, .int (nI g7)), (17, .int (nI d7)), (0, .ref b), (1, .ref (h 0)), (2, .ref (ka 0)), (3, .ref (ka 1)), (4, .ref (ka 2)), (5, .ref (ka 3)), (6, .ref (ka 4)), (7, .ref (ka 5)), (8, .ref (ka 6)), (10, .int (nI tn)), (13, .int (nI z))]) hx hb dL_law_397 hl (by decide) rfl (fun ls hl => ?_)
            refine lv_aload_n hx hb dL_law_399 rfl (lv_at hl 6 rfl) ?_
            refine lv_iconst (v := nI 0) hx hb dL_law_400 (by decide) ?_
            refine q_iald hM hG 22 (i := 0) rfl (by decide) (by decide) dL_law_401 ?_
            refine q_ren hn0 ?_
            refine lv_bipush (v := nI 10) hx hb dL_law_402 (by decide) ?_
            refine lv_icmp_ge (tgt := 469) hx hb dL_law_404 (by decide) (fun c_404 => ?_) (fun c_404 => ?_)
            · refine lv_goto (tgt := 1260) hx hb dL_law_469 (by decide) ?_
              refine W.widen (k := cells + 60) (n := slots + 600) (by omega) (by omega) ?_
              exact kont _ _ _ ⟨_, _, _, _, _, _, _, _, _, _, _, _, _, _, _, _, _, _, _, _, _, _, hG, V, (by omega)⟩ (lv_sub hl [4, 5, 6, 7, 8, 9, 10, 11, 12, 0, 13, 14] rfl)
            · exact absurd ((nI_leI (by decide) (by omega)).mpr (by omega)) c_404
      refine lv_iload hx hb dL_law_329 (lv_at hl 13 rfl) ?_
      refine lv_bipush (v := nI 90) hx hb dL_law_331 (by decide) ?_
      refine lv_idiv hx hb dL_law_333 (by decide) ?_
      refine q_ren (pk_div (a := z) (by omega) (by decide) (by decide)) ?_
      refine lv_iconst (v := nI 3) hx hb dL_law_334 (by decide) ?_
      refine lv_irem hx hb dL_law_335 (by decide) ?_
      refine q_ren (pk_rem (a := z / 90) (by omega) (by decide) (by decide)) ?_
      refine lv_if_ne (tgt := 352) hx hb dL_law_336 (by decide) (fun c_336 => ?_) (fun c_336 => ?_)
      · refine lv_iload hx hb dL_law_352 (lv_at hl 13 rfl) ?_
        refine lv_sipush (v := nI 270) hx hb dL_law_354 (by decide) ?_
        refine lv_idiv hx hb dL_law_357 (by decide) ?_
        refine q_ren (pk_div (a := z) (by omega) (by decide) (by decide)) ?_
        refine lv_iconst (v := nI 2) hx hb dL_law_358 (by decide) ?_
        refine lv_irem hx hb dL_law_359 (by decide) ?_
        refine q_ren (pk_rem (a := z / 270) (by omega) (by decide) (by decide)) ?_
        refine lv_istore (lv' := [(19, .int (nI ((z / 270) % 2))), (18, .int (nI g7)), (17, .int (nI d7)), (0, .ref b), (1, .ref (h 0)), (2, .ref (ka 0)), (3, .ref (ka 1)), (4, .ref (ka 2)), (5, .ref (ka 3)), (6, .ref (ka 4)), (7, .ref (ka 5)), (8, .ref (ka 6)), (9, .int (nI 1)), (10, .int (nI tn)), (13, .int (nI z))]) hx hb dL_law_360 hl (by decide) rfl (fun ls hl => ?_)
        exact cut_362 ((z / 270) % 2) (by omega) _ _ hG _ (lv_sub hl [0, 1, 2, 3, 4, 5, 6, 7, 8, 9, 10, 11, 12, 13, 14] rfl)
      · refine lv_iload hx hb dL_law_339 (lv_at hl 13 rfl) ?_
        refine lv_sipush (v := nI 270) hx hb dL_law_341 (by decide) ?_
        refine lv_idiv hx hb dL_law_344 (by decide) ?_
        refine q_ren (pk_div (a := z) (by omega) (by decide) (by decide)) ?_
        refine lv_sipush (v := nI 1001) hx hb dL_law_345 (by decide) ?_
        refine lv_irem hx hb dL_law_348 (by decide) ?_
        refine q_ren (pk_rem (a := z / 270) (by omega) (by decide) (by decide)) ?_
        refine lv_goto (tgt := 360) hx hb dL_law_349 (by decide) ?_
        refine lv_istore (lv' := [(19, .int (nI ((z / 270) % 1001))), (18, .int (nI g7)), (17, .int (nI d7)), (0, .ref b), (1, .ref (h 0)), (2, .ref (ka 0)), (3, .ref (ka 1)), (4, .ref (ka 2)), (5, .ref (ka 3)), (6, .ref (ka 4)), (7, .ref (ka 5)), (8, .ref (ka 6)), (9, .int (nI 1)), (10, .int (nI tn)), (13, .int (nI z))]) hx hb dL_law_360 hl (by decide) rfl (fun ls hl => ?_)
        exact cut_362 ((z / 270) % 1001) (by omega) _ _ hG _ (lv_sub hl [0, 1, 2, 3, 4, 5, 6, 7, 8, 9, 10, 11, 12, 13, 14] rfl)
    refine lv_iload hx hb dL_law_298 (lv_at hl 12 rfl) ?_
    refine lv_bipush (v := nI 7) hx hb dL_law_300 (by decide) ?_
    refine lv_idiv hx hb dL_law_302 (by decide) ?_
    refine q_ren (pk_div (a := z) (by omega) (by decide) (by decide)) ?_
    refine lv_iconst (v := nI 4) hx hb dL_law_303 (by decide) ?_
    refine lv_irem hx hb dL_law_304 (by decide) ?_
    refine q_ren (pk_rem (a := z / 7) (by omega) (by decide) (by decide)) ?_
    refine lv_if_ne (tgt := 320) hx hb dL_law_305 (by decide) (fun c_305 => ?_) (fun c_305 => ?_)
    · refine lv_iload hx hb dL_law_320 (lv_at hl 12 rfl) ?_
      refine lv_bipush (v := nI 28) hx hb dL_law_322 (by decide) ?_
      refine lv_idiv hx hb dL_law_324 (by decide) ?_
      refine q_ren (pk_div (a := z) (by omega) (by decide) (by decide)) ?_
      refine lv_iconst (v := nI 3) hx hb dL_law_325 (by decide) ?_
      refine lv_irem hx hb dL_law_326 (by decide) ?_
      refine q_ren (pk_rem (a := z / 28) (by omega) (by decide) (by decide)) ?_
      refine lv_istore (lv' := [(18, .int (nI ((z / 28) % 3))), (17, .int (nI d7)), (0, .ref b), (1, .ref (h 0)), (2, .ref (ka 0)), (3, .ref (ka 1)), (4, .ref (ka 2)), (5, .ref (ka 3)), (6, .ref (ka 4)), (7, .ref (ka 5)), (8, .ref (ka 6)), (9, .int (nI 1)), (10, .int (nI tn)), (13, .int (nI z))]) hx hb dL_law_327 hl (by decide) rfl (fun ls hl => ?_)
      exact cut_329 ((z / 28) % 3) (by omega) _ _ hG _ (lv_sub hl [0, 1, 2, 3, 4, 5, 6, 7, 8, 9, 10, 11, 12, 13] rfl)
    · refine lv_iload hx hb dL_law_308 (lv_at hl 12 rfl) ?_
      refine lv_bipush (v := nI 28) hx hb dL_law_310 (by decide) ?_
      refine lv_idiv hx hb dL_law_312 (by decide) ?_
      refine q_ren (pk_div (a := z) (by omega) (by decide) (by decide)) ?_
      refine lv_sipush (v := nI 256) hx hb dL_law_313 (by decide) ?_
      refine lv_irem hx hb dL_law_316 (by decide) ?_
      refine q_ren (pk_rem (a := z / 28) (by omega) (by decide) (by decide)) ?_
      refine lv_goto (tgt := 327) hx hb dL_law_317 (by decide) ?_
      refine lv_istore (lv' := [(18, .int (nI ((z / 28) % 256))), (17, .int (nI d7)), (0, .ref b), (1, .ref (h 0)), (2, .ref (ka 0)), (3, .ref (ka 1)), (4, .ref (ka 2)), (5, .ref (ka 3)), (6, .ref (ka 4)), (7, .ref (ka 5)), (8, .ref (ka 6)), (9, .int (nI 1)), (10, .int (nI tn)), (13, .int (nI z))]) hx hb dL_law_327 hl (by decide) rfl (fun ls hl => ?_)
      exact cut_329 ((z / 28) % 256) (by omega) _ _ hG _ (lv_sub hl [0, 1, 2, 3, 4, 5, 6, 7, 8, 9, 10, 11, 12, 13] rfl)
  refine lv_iload hx hb dL_law_283 (lv_at hl 11 rfl) ?_
  refine lv_bipush (v := nI 7) hx hb dL_law_285 (by decide) ?_
  refine lv_irem hx hb dL_law_287 (by decide) ?_
  refine q_ren (pk_rem (a := z) (by omega) (by decide) (by decide)) ?_
  refine lv_if_ne (tgt := 295) hx hb dL_law_288 (by decide) (fun c_288 => ?_) (fun c_288 => ?_)
  · refine lv_iconst (v := nI 0) hx hb dL_law_295 (by decide) ?_
    refine lv_istore (lv' := [(17, .int (nI 0)), (0, .ref b), (1, .ref (h 0)), (2, .ref (ka 0)), (3, .ref (ka 1)), (4, .ref (ka 2)), (5, .ref (ka 3)), (6, .ref (ka 4)), (7, .ref (ka 5)), (8, .ref (ka 6)), (9, .int (nI 1)), (10, .int (nI tn)), (13, .int (nI z))]) hx hb dL_law_296 hl (by decide) rfl (fun ls hl => ?_)
    exact cut_298 0 (by omega) _ _ hG _ (lv_sub hl [0, 1, 2, 3, 4, 5, 6, 7, 8, 9, 10, 11, 12] rfl)
  · refine lv_iconst (v := nI 1) hx hb dL_law_291 (by decide) ?_
    refine lv_goto (tgt := 296) hx hb dL_law_292 (by decide) ?_
    refine lv_istore (lv' := [(17, .int (nI 1)), (0, .ref b), (1, .ref (h 0)), (2, .ref (ka 0)), (3, .ref (ka 1)), (4, .ref (ka 2)), (5, .ref (ka 3)), (6, .ref (ka 4)), (7, .ref (ka 5)), (8, .ref (ka 6)), (9, .int (nI 1)), (10, .int (nI tn)), (13, .int (nI z))]) hx hb dL_law_296 hl (by decide) rfl (fun ls hl => ?_)
    exact cut_298 1 (by omega) _ _ hG _ (lv_sub hl [0, 1, 2, 3, 4, 5, 6, 7, 8, 9, 10, 11, 12] rfl)
