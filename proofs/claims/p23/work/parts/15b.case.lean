set_option maxHeartbeats 4000000 in
set_option maxRecDepth 100000 in
theorem lc_link1 {p : Program} {e : Env} {s : State} {m : MethodId} {below : List Frame} {meth : Method} {c : Code} (l : Launch) (hl0 : l.stackTraces = false) {b L : Nat} {xs : Nat → Int32} (C0 : lw_At p s m meth c b L xs) {g : EN} {h ka : Nat → Nat} {A : Nat → Prop} {N : Nat} {tk : Int32} {dom : Nat → Int32} {gr : Nat → Int32} {va : Nat → Int32} {dr : Nat → Int32} {off : Nat → Int64} {rt : Nat → Int64} {cnt : Int32} {lk : Nat → Int32} {dl : Nat → Int32} {td : Nat → Int32} {K : KT} {E : KT} {ds : Nat → Int32} {nn : Nat → Int32} {aa : Nat → Int32} {ll : Nat → Int32} {yy : Nat → Int64} {tt : Nat → Int32} {kk : Nat → Int64} {oo : Nat → Int64} {H : Heap} {locs : List Loc} {cells slots : Nat} (hroom : cells + 60 ≤ room_1.cells ∧ slots + 600 ≤ room_1.slots) (hG : cC g ((cNet g h N tk dom gr va dr off rt cnt lk dl td K E ds) ++ (lNet g ka nn aa ll yy tt kk oo)) A s H locs) (V : JV N tk dom gr va dr off rt cnt lk dl td K nn aa ll yy tt kk oo) {tn z : Nat} (hz : z < 2 ^ 27) {i0 j0 : Nat} (hi : i0 < N) (hj : j0 < N) (hN0 : 0 < N) (hal : lk (i0 * 10 + j0) = 1) {Q : State → Prop} {ls : Array Slot} (hl : lv_has ls 20 [(0, .ref b), (1, .ref (h 0)), (2, .ref (ka 0)), (3, .ref (ka 1)), (4, .ref (ka 2)), (5, .ref (ka 3)), (6, .ref (ka 4)), (7, .ref (ka 5)), (8, .ref (ka 6)), (9, .int (nI 1)), (10, .int (nI tn)), (13, .int (nI z)), (14, .int (nI i0)), (15, .int (nI j0)), (16, .int (nI 1))])
    (kont : ∀ (H1 : Heap) (locs1 : List Loc) (ls1 : Array Slot), JI g h ka A s H1 locs1 → lv_has ls1 20 [(0, .ref b), (1, .ref (h 0)), (2, .ref (ka 0)), (3, .ref (ka 1)), (4, .ref (ka 2)), (5, .ref (ka 3)), (6, .ref (ka 4)), (7, .ref (ka 5)), (8, .ref (ka 6)), (9, .int (nI 1)), (10, .int (nI tn)), (13, .int (nI z))] → W p l e room_1 s m #[Value.ref b] below meth c H1 locs1 (cells + 60) (slots + 600) Q (F0 m 1260 ls1 [])) : W p l e room_1 s m #[Value.ref b] below meth c H locs cells slots Q (F0 m 478 ls []) := by
  obtain ⟨hx, hb, hr, hml, hown, hts0, hX, hbl, hlocks, hgv⟩ := C0
  have hM : CallFix p m c cL_law 20 s #[Value.ref b] wsL_law RL := ⟨hx, hb, hml, hown, fun w h => hts0 w (wsL_law_in w h)⟩
  have hts := hM.2.2.2.2
  obtain ⟨hN, hg, hlk, hself, hsy, hn0, hn1, hn2, hA, hB, hY, hT, hK, hO, C1, hC1, hC2, hC3⟩ := id V
  have cut_505 : ∀ (u7 : Nat), u7 ≤ 100000 → ∀ (H : Heap) (locs : List Loc), cC g ((cNet g h N tk dom gr va dr off rt cnt lk dl td K E ds) ++ (lNet g ka nn aa ll yy tt kk oo)) A s H locs → ∀ (ls : Array Slot), lv_has ls 20 [(17, .int (nI u7)), (0, .ref b), (1, .ref (h 0)), (2, .ref (ka 0)), (3, .ref (ka 1)), (4, .ref (ka 2)), (5, .ref (ka 3)), (6, .ref (ka 4)), (7, .ref (ka 5)), (8, .ref (ka 6)), (9, .int (nI 1)), (10, .int (nI tn)), (13, .int (nI z)), (14, .int (nI i0)), (15, .int (nI j0)), (16, .int (nI 1))] → W p l e room_1 s m #[Value.ref b] below meth c H locs (cells) (slots) Q (F0 m 505 ls []) := by
    intro u7 h_u7 H locs hG ls hl
    have cut_528 : ∀ (v7 : Nat), v7 ≤ 100000 → ∀ (H : Heap) (locs : List Loc), cC g ((cNet g h N tk dom gr va dr off rt cnt lk dl td K E ds) ++ (lNet g ka nn aa ll yy tt kk oo)) A s H locs → ∀ (ls : Array Slot), lv_has ls 20 [(18, .int (nI v7)), (17, .int (nI u7)), (0, .ref b), (1, .ref (h 0)), (2, .ref (ka 0)), (3, .ref (ka 1)), (4, .ref (ka 2)), (5, .ref (ka 3)), (6, .ref (ka 4)), (7, .ref (ka 5)), (8, .ref (ka 6)), (9, .int (nI 1)), (10, .int (nI tn)), (13, .int (nI z)), (14, .int (nI i0)), (15, .int (nI j0)), (16, .int (nI 1))] → W p l e room_1 s m #[Value.ref b] below meth c H locs (cells) (slots) Q (F0 m 528 ls []) := by
      intro v7 h_v7 H locs hG ls hl
      refine lv_iload hx hb dL_law_528 (lv_at hl 14 rfl) ?_
      refine lv_iload hx hb dL_law_530 (lv_at hl 15 rfl) ?_
      refine lv_icmp_ne (tgt := 540) hx hb dL_law_532 (by decide) (fun c_532 => ?_) (fun c_532 => ?_)
      · have hne : ¬ i0 = j0 := fun h9 => c_532 (congrArg nI h9)
        refine lv_iload hx hb dL_law_540 (lv_at hl 16 rfl) ?_
        refine lv_if_eq (tgt := 550) hx hb dL_law_542 (by decide) (fun c9 => False.elim (by revert c9; decide)) (fun _ => ?_)
        refine lv_bipush (v := (-13)) hx hb dL_law_545 (by decide) ?_
        refine lv_goto (tgt := 555) hx hb dL_law_547 (by decide) ?_
        refine lv_istore (lv' := [(19, .int (-13 : Int32)), (18, .int (nI v7)), (17, .int (nI u7)), (0, .ref b), (1, .ref (h 0)), (2, .ref (ka 0)), (3, .ref (ka 1)), (4, .ref (ka 2)), (5, .ref (ka 3)), (6, .ref (ka 4)), (7, .ref (ka 5)), (8, .ref (ka 6)), (9, .int (nI 1)), (10, .int (nI tn)), (13, .int (nI z)), (14, .int (nI i0)), (15, .int (nI j0)), (16, .int (nI 1))]) hx hb dL_law_555 hl (by decide) rfl (fun ls hl => ?_)
        refine lv_iload hx hb dL_law_557 (lv_at hl 0 rfl) ?_
        refine lv_if_le (tgt := 646) hx hb dL_law_559 (by decide) (fun _ => ?_) (fun c9 => False.elim (by revert c9; decide))
        refine lv_aload_n hx hb dL_law_646 rfl (lv_at hl 4 rfl) ?_
        refine lv_iload hx hb dL_law_647 (lv_at hl 15 rfl) ?_
        refine lv_iload hx hb dL_law_649 (lv_at hl 16 rfl) ?_
        refine lv_iload hx hb dL_law_651 (lv_at hl 2 rfl) ?_
        refine lv_iload hx hb dL_law_653 (lv_at hl 1 rfl) ?_
        refine q_fWi (FR.l (lNet g ka nn aa ll yy tt kk oo)) (n := 5) (As := [.ref (h 0), .int (nI i0), .int (nI j0), .int (nI u7), .int (nI v7)]) (rest := []) hM hl.1 hG (w_link l hl0 g h N tk dom gr va dr off rt cnt lk dl td K E ds i0 j0 hi hj hN hlk u7 v7 h_u7 h_v7) rfl gL_law_L_links (by decide +kernel) ⟨Nat.le_of_ble_eq_true rfl, Nat.le_of_ble_eq_true rfl⟩ rfl rfl (Nat.le_of_ble_eq_true rfl) dL_law_655 (c1 := cells + 1) (s1 := slots + 6) rfl rfl ⟨by omega, by omega⟩ (fun r v H locs hp hG => ?_)
        rcases v with ⟨u1, u2, u3, u4⟩ | _
        · obtain ⟨i9, j9, hi9, hj9, e9, f9, hP9, hQ9, eu1, eu2, eu3, eu4, er⟩ := hp
          exact absurd ((lkd_n (by omega) (by omega)).mpr hal) hQ9
        · rcases hp with ⟨er, hij9⟩ | ⟨er, hne9, hl9⟩
          · exact absurd hij9 hne
          · have hG : cC g ((cNet g h N tk dom gr va dr off rt cnt lk dl td K E ds) ++ (lNet g ka nn aa ll yy tt kk oo)) A s H locs := hG
            refine q_ren er ?_
            refine lv_iload hx hb dL_law_658 (lv_at hl 0 rfl) ?_
            refine lv_icmp_ne (tgt := 667) hx hb dL_law_660 (by decide) (fun c9 => False.elim (by revert c9; decide)) (fun _ => ?_)
            refine lv_iconst (v := nI 1) hx hb dL_law_663 (by decide) ?_
            refine lv_goto (tgt := 668) hx hb dL_law_664 (by decide) ?_
            refine lv_istore (lv' := [(9, .int (nI 1)), (19, .int (-13 : Int32)), (18, .int (nI v7)), (17, .int (nI u7)), (0, .ref b), (1, .ref (h 0)), (2, .ref (ka 0)), (3, .ref (ka 1)), (4, .ref (ka 2)), (5, .ref (ka 3)), (6, .ref (ka 4)), (7, .ref (ka 5)), (8, .ref (ka 6)), (10, .int (nI tn)), (13, .int (nI z)), (14, .int (nI i0)), (15, .int (nI j0)), (16, .int (nI 1))]) hx hb dL_law_668 hl (by decide) rfl (fun ls hl => ?_)
            refine lv_goto (tgt := 1260) hx hb dL_law_670 (by decide) ?_
            refine W.widen (k := cells + 60) (n := slots + 600) (by omega) (by omega) ?_
            exact kont _ _ _ ⟨_, _, _, _, _, _, _, _, _, _, _, _, _, _, _, _, _, _, _, _, _, _, hG, V, hN0⟩ (lv_sub hl [4, 5, 6, 7, 8, 9, 10, 11, 12, 0, 13, 14] rfl)
      · have hij : i0 = j0 := (nI_eq (by omega) (by omega)).mp c_532
        refine lv_bipush (v := (-12)) hx hb dL_law_535 (by decide) ?_
        refine lv_goto (tgt := 555) hx hb dL_law_537 (by decide) ?_
        refine lv_istore (lv' := [(19, .int (-12 : Int32)), (18, .int (nI v7)), (17, .int (nI u7)), (0, .ref b), (1, .ref (h 0)), (2, .ref (ka 0)), (3, .ref (ka 1)), (4, .ref (ka 2)), (5, .ref (ka 3)), (6, .ref (ka 4)), (7, .ref (ka 5)), (8, .ref (ka 6)), (9, .int (nI 1)), (10, .int (nI tn)), (13, .int (nI z)), (14, .int (nI i0)), (15, .int (nI j0)), (16, .int (nI 1))]) hx hb dL_law_555 hl (by decide) rfl (fun ls hl => ?_)
        refine lv_iload hx hb dL_law_557 (lv_at hl 0 rfl) ?_
        refine lv_if_le (tgt := 646) hx hb dL_law_559 (by decide) (fun _ => ?_) (fun c9 => False.elim (by revert c9; decide))
        refine lv_aload_n hx hb dL_law_646 rfl (lv_at hl 4 rfl) ?_
        refine lv_iload hx hb dL_law_647 (lv_at hl 15 rfl) ?_
        refine lv_iload hx hb dL_law_649 (lv_at hl 16 rfl) ?_
        refine lv_iload hx hb dL_law_651 (lv_at hl 2 rfl) ?_
        refine lv_iload hx hb dL_law_653 (lv_at hl 1 rfl) ?_
        refine q_fWi (FR.l (lNet g ka nn aa ll yy tt kk oo)) (n := 5) (As := [.ref (h 0), .int (nI i0), .int (nI j0), .int (nI u7), .int (nI v7)]) (rest := []) hM hl.1 hG (w_link l hl0 g h N tk dom gr va dr off rt cnt lk dl td K E ds i0 j0 hi hj hN hlk u7 v7 h_u7 h_v7) rfl gL_law_L_links (by decide +kernel) ⟨Nat.le_of_ble_eq_true rfl, Nat.le_of_ble_eq_true rfl⟩ rfl rfl (Nat.le_of_ble_eq_true rfl) dL_law_655 (c1 := cells + 1) (s1 := slots + 6) rfl rfl ⟨by omega, by omega⟩ (fun r v H locs hp hG => ?_)
        rcases v with ⟨u1, u2, u3, u4⟩ | _
        · obtain ⟨i9, j9, hi9, hj9, e9, f9, hP9, hQ9, eu1, eu2, eu3, eu4, er⟩ := hp
          exact absurd c_532 hP9.1
        · rcases hp with ⟨er, hij9⟩ | ⟨er, hne9, hl9⟩
          · have hG : cC g ((cNet g h N tk dom gr va dr off rt cnt lk dl td K E ds) ++ (lNet g ka nn aa ll yy tt kk oo)) A s H locs := hG
            refine q_ren er ?_
            refine lv_iload hx hb dL_law_658 (lv_at hl 0 rfl) ?_
            refine lv_icmp_ne (tgt := 667) hx hb dL_law_660 (by decide) (fun c9 => False.elim (by revert c9; decide)) (fun _ => ?_)
            refine lv_iconst (v := nI 1) hx hb dL_law_663 (by decide) ?_
            refine lv_goto (tgt := 668) hx hb dL_law_664 (by decide) ?_
            refine lv_istore (lv' := [(9, .int (nI 1)), (19, .int (-12 : Int32)), (18, .int (nI v7)), (17, .int (nI u7)), (0, .ref b), (1, .ref (h 0)), (2, .ref (ka 0)), (3, .ref (ka 1)), (4, .ref (ka 2)), (5, .ref (ka 3)), (6, .ref (ka 4)), (7, .ref (ka 5)), (8, .ref (ka 6)), (10, .int (nI tn)), (13, .int (nI z)), (14, .int (nI i0)), (15, .int (nI j0)), (16, .int (nI 1))]) hx hb dL_law_668 hl (by decide) rfl (fun ls hl => ?_)
            refine lv_goto (tgt := 1260) hx hb dL_law_670 (by decide) ?_
            refine W.widen (k := cells + 60) (n := slots + 600) (by omega) (by omega) ?_
            exact kont _ _ _ ⟨_, _, _, _, _, _, _, _, _, _, _, _, _, _, _, _, _, _, _, _, _, _, hG, V, hN0⟩ (lv_sub hl [4, 5, 6, 7, 8, 9, 10, 11, 12, 0, 13, 14] rfl)
          · exact absurd hij hne9
    refine lv_iload hx hb dL_law_505 (lv_at hl 12 rfl) ?_
    refine lv_iconst (v := nI 3) hx hb dL_law_507 (by decide) ?_
    refine lv_irem hx hb dL_law_508 (by decide) ?_
    refine q_ren (pk_rem (a := z) (by omega) (by decide) (by decide)) ?_
    refine lv_if_ne (tgt := 517) hx hb dL_law_509 (by decide) (fun c_509 => ?_) (fun c_509 => ?_)
    · refine lv_iload hx hb dL_law_517 (lv_at hl 12 rfl) ?_
      refine lv_bipush (v := nI 40) hx hb dL_law_519 (by decide) ?_
      refine lv_idiv hx hb dL_law_521 (by decide) ?_
      refine q_ren (pk_div (a := z) (by omega) (by decide) (by decide)) ?_
      refine lv_sipush (v := nI 2000) hx hb dL_law_522 (by decide) ?_
      refine lv_irem hx hb dL_law_525 (by decide) ?_
      refine q_ren (pk_rem (a := z / 40) (by omega) (by decide) (by decide)) ?_
      refine lv_istore (lv' := [(18, .int (nI ((z / 40) % 2000))), (17, .int (nI u7)), (0, .ref b), (1, .ref (h 0)), (2, .ref (ka 0)), (3, .ref (ka 1)), (4, .ref (ka 2)), (5, .ref (ka 3)), (6, .ref (ka 4)), (7, .ref (ka 5)), (8, .ref (ka 6)), (9, .int (nI 1)), (10, .int (nI tn)), (13, .int (nI z)), (14, .int (nI i0)), (15, .int (nI j0)), (16, .int (nI 1))]) hx hb dL_law_526 hl (by decide) rfl (fun ls hl => ?_)
      exact cut_528 ((z / 40) % 2000) (by omega) _ _ hG _ (lv_sub hl [0, 1, 2, 3, 4, 5, 6, 7, 8, 9, 10, 11, 12, 13, 14, 15, 16] rfl)
    · refine lv_iload hx hb dL_law_512 (lv_at hl 0 rfl) ?_
      refine lv_goto (tgt := 526) hx hb dL_law_514 (by decide) ?_
      refine lv_istore (lv' := [(18, .int (nI u7)), (17, .int (nI u7)), (0, .ref b), (1, .ref (h 0)), (2, .ref (ka 0)), (3, .ref (ka 1)), (4, .ref (ka 2)), (5, .ref (ka 3)), (6, .ref (ka 4)), (7, .ref (ka 5)), (8, .ref (ka 6)), (9, .int (nI 1)), (10, .int (nI tn)), (13, .int (nI z)), (14, .int (nI i0)), (15, .int (nI j0)), (16, .int (nI 1))]) hx hb dL_law_526 hl (by decide) rfl (fun ls hl => ?_)
      exact cut_528 u7 (by omega) _ _ hG _ (lv_sub hl [0, 1, 2, 3, 4, 5, 6, 7, 8, 9, 10, 11, 12, 13, 14, 15, 16] rfl)
  refine lv_iload hx hb dL_law_478 (lv_at hl 11 rfl) ?_
  refine lv_iconst (v := nI 4) hx hb dL_law_480 (by decide) ?_
  refine lv_irem hx hb dL_law_481 (by decide) ?_
  refine q_ren (pk_rem (a := z) (by omega) (by decide) (by decide)) ?_
  refine lv_if_ne (tgt := 495) hx hb dL_law_482 (by decide) (fun c_482 => ?_) (fun c_482 => ?_)
  · refine lv_iload hx hb dL_law_495 (lv_at hl 11 rfl) ?_
    refine lv_iconst (v := nI 4) hx hb dL_law_497 (by decide) ?_
    refine lv_idiv hx hb dL_law_498 (by decide) ?_
    refine q_ren (pk_div (a := z) (by omega) (by decide) (by decide)) ?_
    refine lv_sipush (v := nI 2000) hx hb dL_law_499 (by decide) ?_
    refine lv_irem hx hb dL_law_502 (by decide) ?_
    refine q_ren (pk_rem (a := z / 4) (by omega) (by decide) (by decide)) ?_
    refine lv_istore (lv' := [(17, .int (nI ((z / 4) % 2000))), (0, .ref b), (1, .ref (h 0)), (2, .ref (ka 0)), (3, .ref (ka 1)), (4, .ref (ka 2)), (5, .ref (ka 3)), (6, .ref (ka 4)), (7, .ref (ka 5)), (8, .ref (ka 6)), (9, .int (nI 1)), (10, .int (nI tn)), (13, .int (nI z)), (14, .int (nI i0)), (15, .int (nI j0)), (16, .int (nI 1))]) hx hb dL_law_503 hl (by decide) rfl (fun ls hl => ?_)
    exact cut_505 ((z / 4) % 2000) (by omega) _ _ hG _ (lv_sub hl [0, 1, 2, 3, 4, 5, 6, 7, 8, 9, 10, 11, 12, 13, 14, 15] rfl)
  · refine lv_iload hx hb dL_law_485 (lv_at hl 11 rfl) ?_
    refine lv_iconst (v := nI 4) hx hb dL_law_487 (by decide) ?_
    refine lv_idiv hx hb dL_law_488 (by decide) ?_
    refine q_ren (pk_div (a := z) (by omega) (by decide) (by decide)) ?_
    refine lv_ldc (v := 100001) hx hb hown (hts (.constant RL 137 100001) (by decide +kernel)) dL_law_489 ?_
    refine q_ren (show (100001 : Int32) = nI 100001 from rfl) ?_
    refine lv_irem hx hb dL_law_491 (by decide) ?_
    refine q_ren (pk_rem (a := z / 4) (by omega) (by decide) (by decide)) ?_
    refine lv_goto (tgt := 503) hx hb dL_law_492 (by decide) ?_
    refine lv_istore (lv' := [(17, .int (nI ((z / 4) % 100001))), (0, .ref b), (1, .ref (h 0)), (2, .ref (ka 0)), (3, .ref (ka 1)), (4, .ref (ka 2)), (5, .ref (ka 3)), (6, .ref (ka 4)), (7, .ref (ka 5)), (8, .ref (ka 6)), (9, .int (nI 1)), (10, .int (nI tn)), (13, .int (nI z)), (14, .int (nI i0)), (15, .int (nI j0)), (16, .int (nI 1))]) hx hb dL_law_503 hl (by decide) rfl (fun ls hl => ?_)
    exact cut_505 ((z / 4) % 100001) (by omega) _ _ hG _ (lv_sub hl [0, 1, 2, 3, 4, 5, 6, 7, 8, 9, 10, 11, 12, 13, 14, 15] rfl)

set_option maxHeartbeats 4000000 in
set_option maxRecDepth 100000 in
theorem lc_link0 {p : Program} {e : Env} {s : State} {m : MethodId} {below : List Frame} {meth : Method} {c : Code} (l : Launch) (hl0 : l.stackTraces = false) {b L : Nat} {xs : Nat → Int32} (C0 : lw_At p s m meth c b L xs) {g : EN} {h ka : Nat → Nat} {A : Nat → Prop} {N : Nat} {tk : Int32} {dom : Nat → Int32} {gr : Nat → Int32} {va : Nat → Int32} {dr : Nat → Int32} {off : Nat → Int64} {rt : Nat → Int64} {cnt : Int32} {lk : Nat → Int32} {dl : Nat → Int32} {td : Nat → Int32} {K : KT} {E : KT} {ds : Nat → Int32} {nn : Nat → Int32} {aa : Nat → Int32} {ll : Nat → Int32} {yy : Nat → Int64} {tt : Nat → Int32} {kk : Nat → Int64} {oo : Nat → Int64} {H : Heap} {locs : List Loc} {cells slots : Nat} (hroom : cells + 60 ≤ room_1.cells ∧ slots + 600 ≤ room_1.slots) (hG : cC g ((cNet g h N tk dom gr va dr off rt cnt lk dl td K E ds) ++ (lNet g ka nn aa ll yy tt kk oo)) A s H locs) (V : JV N tk dom gr va dr off rt cnt lk dl td K nn aa ll yy tt kk oo) {tn z : Nat} (hz : z < 2 ^ 27) {i0 j0 : Nat} (hi : i0 < N) (hj : j0 < N) (hN0 : 0 < N) (hal : ¬ lk (i0 * 10 + j0) = 1) {Q : State → Prop} {ls : Array Slot} (hl : lv_has ls 20 [(0, .ref b), (1, .ref (h 0)), (2, .ref (ka 0)), (3, .ref (ka 1)), (4, .ref (ka 2)), (5, .ref (ka 3)), (6, .ref (ka 4)), (7, .ref (ka 5)), (8, .ref (ka 6)), (9, .int (nI 1)), (10, .int (nI tn)), (13, .int (nI z)), (14, .int (nI i0)), (15, .int (nI j0)), (16, .int (nI 0))])
    (kont : ∀ (H1 : Heap) (locs1 : List Loc) (ls1 : Array Slot), JI g h ka A s H1 locs1 → lv_has ls1 20 [(0, .ref b), (1, .ref (h 0)), (2, .ref (ka 0)), (3, .ref (ka 1)), (4, .ref (ka 2)), (5, .ref (ka 3)), (6, .ref (ka 4)), (7, .ref (ka 5)), (8, .ref (ka 6)), (9, .int (nI 1)), (10, .int (nI tn)), (13, .int (nI z))] → W p l e room_1 s m #[Value.ref b] below meth c H1 locs1 (cells + 60) (slots + 600) Q (F0 m 1260 ls1 [])) : W p l e room_1 s m #[Value.ref b] below meth c H locs cells slots Q (F0 m 478 ls []) := by
  obtain ⟨hx, hb, hr, hml, hown, hts0, hX, hbl, hlocks, hgv⟩ := C0
  have hM : CallFix p m c cL_law 20 s #[Value.ref b] wsL_law RL := ⟨hx, hb, hml, hown, fun w h => hts0 w (wsL_law_in w h)⟩
  have hts := hM.2.2.2.2
  obtain ⟨hN, hg, hlk, hself, hsy, hn0, hn1, hn2, hA, hB, hY, hT, hK, hO, C1, hC1, hC2, hC3⟩ := id V
  have cut_505 : ∀ (u7 : Nat), u7 ≤ 100000 → ∀ (H : Heap) (locs : List Loc), cC g ((cNet g h N tk dom gr va dr off rt cnt lk dl td K E ds) ++ (lNet g ka nn aa ll yy tt kk oo)) A s H locs → ∀ (ls : Array Slot), lv_has ls 20 [(17, .int (nI u7)), (0, .ref b), (1, .ref (h 0)), (2, .ref (ka 0)), (3, .ref (ka 1)), (4, .ref (ka 2)), (5, .ref (ka 3)), (6, .ref (ka 4)), (7, .ref (ka 5)), (8, .ref (ka 6)), (9, .int (nI 1)), (10, .int (nI tn)), (13, .int (nI z)), (14, .int (nI i0)), (15, .int (nI j0)), (16, .int (nI 0))] → W p l e room_1 s m #[Value.ref b] below meth c H locs (cells) (slots) Q (F0 m 505 ls []) := by
    intro u7 h_u7 H locs hG ls hl
    have cut_528 : ∀ (v7 : Nat), v7 ≤ 100000 → ∀ (H : Heap) (locs : List Loc), cC g ((cNet g h N tk dom gr va dr off rt cnt lk dl td K E ds) ++ (lNet g ka nn aa ll yy tt kk oo)) A s H locs → ∀ (ls : Array Slot), lv_has ls 20 [(18, .int (nI v7)), (17, .int (nI u7)), (0, .ref b), (1, .ref (h 0)), (2, .ref (ka 0)), (3, .ref (ka 1)), (4, .ref (ka 2)), (5, .ref (ka 3)), (6, .ref (ka 4)), (7, .ref (ka 5)), (8, .ref (ka 6)), (9, .int (nI 1)), (10, .int (nI tn)), (13, .int (nI z)), (14, .int (nI i0)), (15, .int (nI j0)), (16, .int (nI 0))] → W p l e room_1 s m #[Value.ref b] below meth c H locs (cells) (slots) Q (F0 m 528 ls []) := by
      intro v7 h_v7 H locs hG ls hl
      refine lv_iload hx hb dL_law_528 (lv_at hl 14 rfl) ?_
      refine lv_iload hx hb dL_law_530 (lv_at hl 15 rfl) ?_
      refine lv_icmp_ne (tgt := 540) hx hb dL_law_532 (by decide) (fun c_532 => ?_) (fun c_532 => ?_)
      · have hne : ¬ i0 = j0 := fun h9 => c_532 (congrArg nI h9)
        refine lv_iload hx hb dL_law_540 (lv_at hl 16 rfl) ?_
        refine lv_if_eq (tgt := 550) hx hb dL_law_542 (by decide) (fun _ => ?_) (fun c9 => False.elim (by revert c9; decide))
        refine lv_aload_n hx hb dL_law_550 rfl (lv_at hl 4 rfl) ?_
        refine lv_iconst (v := nI 1) hx hb dL_law_551 (by decide) ?_
        refine q_iald hM hG 22 (i := 1) rfl (by decide) (by decide) dL_law_552 ?_
        refine q_ren (hn1.trans hC2) ?_
        refine lv_iconst (v := nI 1) hx hb dL_law_553 (by decide) ?_
        refine lv_iadd hx hb dL_law_554 ?_
        refine q_ren (nI_add C1 1) ?_
        refine lv_istore (lv' := [(19, .int (nI (C1 + 1))), (18, .int (nI v7)), (17, .int (nI u7)), (0, .ref b), (1, .ref (h 0)), (2, .ref (ka 0)), (3, .ref (ka 1)), (4, .ref (ka 2)), (5, .ref (ka 3)), (6, .ref (ka 4)), (7, .ref (ka 5)), (8, .ref (ka 6)), (9, .int (nI 1)), (10, .int (nI tn)), (13, .int (nI z)), (14, .int (nI i0)), (15, .int (nI j0)), (16, .int (nI 0))]) hx hb dL_law_555 hl (by decide) rfl (fun ls hl => ?_)
        refine lv_iload hx hb dL_law_557 (lv_at hl 0 rfl) ?_
        refine lv_if_le (tgt := 646) hx hb dL_law_559 (by decide) (fun c_559 => ?_) (fun c_559 => ?_)
        · exact absurd c_559 (nI_nle (by omega) (by omega))
        · refine lv_aload hx hb dL_law_562 (lv_at hl 7 rfl) ?_
          refine lv_iload hx hb dL_law_564 (lv_at hl 15 rfl) ?_
          refine lv_dup2_11 hx hb dL_law_566 rfl rfl ?_
          refine q_iald hM hG 24 (i := i0) rfl (by omega) (by decide) dL_law_567 ?_
          refine lv_iconst (v := nI 1) hx hb dL_law_568 (by decide) ?_
          refine lv_iload hx hb dL_law_569 (lv_at hl 16 rfl) ?_
          refine lv_ishl hx hb dL_law_571 ?_
          refine lv_ior hx hb dL_law_572 ?_
          refine q_iast hM hG 24 (i := i0) rfl (by omega) (by decide) (ws1 := ((cNet g h N tk dom gr va dr off rt cnt lk dl td K E ds) ++ (lNet g ka nn aa (upd ll i0 ((ll i0) ||| ((nI 1) <<< ((nI j0) &&& 31)))) yy tt kk oo))) rfl dL_law_573 (fun H locs hG => ?_)
          refine lv_aload hx hb dL_law_574 (lv_at hl 7 rfl) ?_
          refine lv_iload hx hb dL_law_576 (lv_at hl 16 rfl) ?_
          refine lv_dup2_11 hx hb dL_law_578 rfl rfl ?_
          refine q_iald hM hG 24 (i := j0) rfl (by omega) (by decide) dL_law_579 ?_
          refine lv_iconst (v := nI 1) hx hb dL_law_580 (by decide) ?_
          refine lv_iload hx hb dL_law_581 (lv_at hl 15 rfl) ?_
          refine lv_ishl hx hb dL_law_583 ?_
          refine lv_ior hx hb dL_law_584 ?_
          refine q_iast hM hG 24 (i := j0) rfl (by omega) (by decide) (ws1 := ((cNet g h N tk dom gr va dr off rt cnt lk dl td K E ds) ++ (lNet g ka nn aa (upd (upd ll i0 ((ll i0) ||| ((nI 1) <<< ((nI j0) &&& 31)))) j0 (((upd ll i0 ((ll i0) ||| ((nI 1) <<< ((nI j0) &&& 31)))) j0) ||| ((nI 1) <<< ((nI i0) &&& 31)))) yy tt kk oo))) rfl dL_law_585 (fun H locs hG => ?_)
          refine lv_aload hx hb dL_law_586 (lv_at hl 8 rfl) ?_
          refine lv_iload hx hb dL_law_588 (lv_at hl 15 rfl) ?_
          refine lv_iload hx hb dL_law_590 (lv_at hl 16 rfl) ?_
          refine q_fSi (FR.n ((cNet g h N tk dom gr va dr off rt cnt lk dl td K E ds) ++ (lNet g ka nn aa (upd (upd ll i0 ((ll i0) ||| ((nI 1) <<< ((nI j0) &&& 31)))) j0 (((upd ll i0 ((ll i0) ||| ((nI 1) <<< ((nI j0) &&& 31)))) j0) ||| ((nI 1) <<< ((nI i0) &&& 31)))) yy tt kk oo))) (n := 2) (As := [.int (nI i0), .int (nI j0)]) (rest := [.ref (ka 3)]) hM hl.1 hG (c_L_pair l g  i0 j0 (by omega) (by omega) hne) rfl gL_law_L_pair (by decide +kernel) ⟨Nat.le_of_ble_eq_true rfl, Nat.le_of_ble_eq_true rfl⟩ rfl rfl (Nat.le_of_ble_eq_true rfl) dL_law_592 (c1 := cells) (s1 := slots) rfl rfl ⟨by omega, by omega⟩ (fun r_592 u_592 H locs hp_592 hG => ?_)
          have hG : cC g ((cNet g h N tk dom gr va dr off rt cnt lk dl td K E ds) ++ (lNet g ka nn aa (upd (upd ll i0 ((ll i0) ||| ((nI 1) <<< ((nI j0) &&& 31)))) j0 (((upd ll i0 ((ll i0) ||| ((nI 1) <<< ((nI j0) &&& 31)))) j0) ||| ((nI 1) <<< ((nI i0) &&& 31)))) yy tt kk oo)) A s H locs := hG
          subst hp_592
          refine lv_iload hx hb dL_law_595 (lv_at hl 15 rfl) ?_
          refine lv_iload hx hb dL_law_597 (lv_at hl 16 rfl) ?_
          refine lv_icmp_ge (tgt := 616) hx hb dL_law_599 (by decide) (fun c_599 => ?_) (fun c_599 => ?_)
          · have hlt : ¬ i0 < j0 := by have h9 := (nI_leI (by omega) (by omega)).mp c_599; omega
            refine lv_iload hx hb dL_law_616 (lv_at hl 1 rfl) ?_
            refine lv_i2l hx hb dL_law_618 (nI_l (n := v7) (by omega)) ?_
            refine lv_ldc2 (v := 100001) hx hb hown (hts (.constantLong RL 21 100001) (by decide +kernel)) dL_law_619 ?_
            refine q_renl (show (100001 : Int64) = lN 100001 from rfl) ?_
            refine lv_lmul hx hb dL_law_622 ?_
            refine q_renl (lN_mul v7 100001) ?_
            refine lv_iload hx hb dL_law_623 (lv_at hl 2 rfl) ?_
            refine lv_i2l hx hb dL_law_625 (nI_l (n := u7) (by omega)) ?_
            refine lv_ladd hx hb dL_law_626 ?_
            refine q_renl (lN_add (v7 * 100001) u7) ?_
            refine q_last hM hG 25 (i := prn i0 j0) rfl (prn_lt i0 (by omega) j0 (by omega) hne) (by decide) (ws1 := ((cNet g h N tk dom gr va dr off rt cnt lk dl td K E ds) ++ (lNet g ka nn aa (upd (upd ll i0 ((ll i0) ||| ((nI 1) <<< ((nI j0) &&& 31)))) j0 (((upd ll i0 ((ll i0) ||| ((nI 1) <<< ((nI j0) &&& 31)))) j0) ||| ((nI 1) <<< ((nI i0) &&& 31)))) (vp_updL yy (prn i0 j0) (lN (v7 * 100001 + u7))) tt kk oo))) rfl dL_law_627 (fun H locs hG => ?_)
            refine lv_aload hx hb dL_law_628 (lv_at hl 9 rfl) ?_
            refine lv_iload hx hb dL_law_630 (lv_at hl 15 rfl) ?_
            refine lv_iload hx hb dL_law_632 (lv_at hl 16 rfl) ?_
            refine q_fSi (FR.n ((cNet g h N tk dom gr va dr off rt cnt lk dl td K E ds) ++ (lNet g ka nn aa (upd (upd ll i0 ((ll i0) ||| ((nI 1) <<< ((nI j0) &&& 31)))) j0 (((upd ll i0 ((ll i0) ||| ((nI 1) <<< ((nI j0) &&& 31)))) j0) ||| ((nI 1) <<< ((nI i0) &&& 31)))) (vp_updL yy (prn i0 j0) (lN (v7 * 100001 + u7))) tt kk oo))) (n := 2) (As := [.int (nI i0), .int (nI j0)]) (rest := [.ref (ka 4)]) hM hl.1 hG (c_L_pair l g  i0 j0 (by omega) (by omega) hne) rfl gL_law_L_pair (by decide +kernel) ⟨Nat.le_of_ble_eq_true rfl, Nat.le_of_ble_eq_true rfl⟩ rfl rfl (Nat.le_of_ble_eq_true rfl) dL_law_634 (c1 := cells) (s1 := slots) rfl rfl ⟨by omega, by omega⟩ (fun r_634 u_634 H locs hp_634 hG => ?_)
            have hG : cC g ((cNet g h N tk dom gr va dr off rt cnt lk dl td K E ds) ++ (lNet g ka nn aa (upd (upd ll i0 ((ll i0) ||| ((nI 1) <<< ((nI j0) &&& 31)))) j0 (((upd ll i0 ((ll i0) ||| ((nI 1) <<< ((nI j0) &&& 31)))) j0) ||| ((nI 1) <<< ((nI i0) &&& 31)))) (vp_updL yy (prn i0 j0) (lN (v7 * 100001 + u7))) tt kk oo)) A s H locs := hG
            subst hp_634
            refine lv_iconst (v := nI 0) hx hb dL_law_637 (by decide) ?_
            refine q_iast hM hG 26 (i := prn i0 j0) rfl (prn_lt i0 (by omega) j0 (by omega) hne) (by decide) (ws1 := ((cNet g h N tk dom gr va dr off rt cnt lk dl td K E ds) ++ (lNet g ka nn aa (upd (upd ll i0 ((ll i0) ||| ((nI 1) <<< ((nI j0) &&& 31)))) j0 (((upd ll i0 ((ll i0) ||| ((nI 1) <<< ((nI j0) &&& 31)))) j0) ||| ((nI 1) <<< ((nI i0) &&& 31)))) (vp_updL yy (prn i0 j0) (lN (v7 * 100001 + u7))) (upd tt (prn i0 j0) (nI 0)) kk oo))) rfl dL_law_638 (fun H locs hG => ?_)
            refine lv_aload_n hx hb dL_law_639 rfl (lv_at hl 5 rfl) ?_
            refine lv_iconst (v := nI 1) hx hb dL_law_640 (by decide) ?_
            refine lv_dup2_11 hx hb dL_law_641 rfl rfl ?_
            refine q_iald hM hG 22 (i := 1) rfl (by decide) (by decide) dL_law_642 ?_
            refine q_ren (hn1.trans hC2) ?_
            refine lv_iconst (v := nI 1) hx hb dL_law_643 (by decide) ?_
            refine lv_iadd hx hb dL_law_644 ?_
            refine q_ren (nI_add C1 1) ?_
            refine q_iast hM hG 22 (i := 1) rfl (by decide) (by decide) (ws1 := ((cNet g h N tk dom gr va dr off rt cnt lk dl td K E ds) ++ (lNet g ka (upd nn 1 (nI (C1 + 1))) aa (upd (upd ll i0 ((ll i0) ||| ((nI 1) <<< ((nI j0) &&& 31)))) j0 (((upd ll i0 ((ll i0) ||| ((nI 1) <<< ((nI j0) &&& 31)))) j0) ||| ((nI 1) <<< ((nI i0) &&& 31)))) (vp_updL yy (prn i0 j0) (lN (v7 * 100001 + u7))) (upd tt (prn i0 j0) (nI 0)) kk oo))) rfl dL_law_645 (fun H locs hG => ?_)
            refine lv_aload_n hx hb dL_law_646 rfl (lv_at hl 4 rfl) ?_
            refine lv_iload hx hb dL_law_647 (lv_at hl 15 rfl) ?_
            refine lv_iload hx hb dL_law_649 (lv_at hl 16 rfl) ?_
            refine lv_iload hx hb dL_law_651 (lv_at hl 2 rfl) ?_
            refine lv_iload hx hb dL_law_653 (lv_at hl 1 rfl) ?_
            refine q_fWi (FR.l (lNet g ka (upd nn 1 (nI (C1 + 1))) aa (upd (upd ll i0 ((ll i0) ||| ((nI 1) <<< ((nI j0) &&& 31)))) j0 (((upd ll i0 ((ll i0) ||| ((nI 1) <<< ((nI j0) &&& 31)))) j0) ||| ((nI 1) <<< ((nI i0) &&& 31)))) (vp_updL yy (prn i0 j0) (lN (v7 * 100001 + u7))) (upd tt (prn i0 j0) (nI 0)) kk oo)) (n := 5) (As := [.ref (h 0), .int (nI i0), .int (nI j0), .int (nI u7), .int (nI v7)]) (rest := []) hM hl.1 hG (w_link l hl0 g h N tk dom gr va dr off rt cnt lk dl td K E ds i0 j0 hi hj hN hlk u7 v7 h_u7 h_v7) rfl gL_law_L_links (by decide +kernel) ⟨Nat.le_of_ble_eq_true rfl, Nat.le_of_ble_eq_true rfl⟩ rfl rfl (Nat.le_of_ble_eq_true rfl) dL_law_655 (c1 := cells + 1) (s1 := slots + 6) rfl rfl ⟨by omega, by omega⟩ (fun r v H locs hp hG => ?_)
            rcases v with ⟨u1, u2, u3, u4⟩ | _
            · obtain ⟨i9, j9, hi9, hj9, e9, f9, hP9, hQ9, eu1, eu2, eu3, eu4, er⟩ := hp
              obtain rfl : i0 = i9 := (nI_eq (by omega) (by omega)).mp e9
              obtain rfl : j0 = j9 := (nI_eq (by omega) (by omega)).mp f9
              try dsimp only at eu1 eu2 eu3 eu4
              subst eu1 eu2 eu3 eu4
              have hG : cC g ((cNet g h N tk dom gr va dr off rt (cnt + 1) (upd (upd lk (i0 * 10 + j0) 1) (j0 * 10 + i0) 1) (upd (upd dl (i0 * 10 + j0) (nI u7)) (j0 * 10 + i0) (nI v7)) (upd (upd td (i0 * 10 + j0) 0) (j0 * 10 + i0) 0) K E ds) ++ (lNet g ka (upd nn 1 (nI (C1 + 1))) aa (upd (upd ll i0 ((ll i0) ||| ((nI 1) <<< ((nI j0) &&& 31)))) j0 (((upd ll i0 ((ll i0) ||| ((nI 1) <<< ((nI j0) &&& 31)))) j0) ||| ((nI 1) <<< ((nI i0) &&& 31)))) (vp_updL yy (prn i0 j0) (lN (v7 * 100001 + u7))) (upd tt (prn i0 j0) (nI 0)) kk oo)) A s H locs := hG
              refine q_ren (er.trans (show cnt + 1 = nI (C1 + 1) by rw [hC2]; exact nI_1 C1)) ?_
              refine lv_iload hx hb dL_law_658 (lv_at hl 0 rfl) ?_
              refine lv_icmp_ne (tgt := 667) hx hb dL_law_660 (by decide) (fun c9 => absurd rfl c9) (fun _ => ?_)
              refine lv_iconst (v := nI 1) hx hb dL_law_663 (by decide) ?_
              refine lv_goto (tgt := 668) hx hb dL_law_664 (by decide) ?_
              refine lv_istore (lv' := [(9, .int (nI 1)), (19, .int (nI (C1 + 1))), (18, .int (nI v7)), (17, .int (nI u7)), (0, .ref b), (1, .ref (h 0)), (2, .ref (ka 0)), (3, .ref (ka 1)), (4, .ref (ka 2)), (5, .ref (ka 3)), (6, .ref (ka 4)), (7, .ref (ka 5)), (8, .ref (ka 6)), (10, .int (nI tn)), (13, .int (nI z)), (14, .int (nI i0)), (15, .int (nI j0)), (16, .int (nI 0))]) hx hb dL_law_668 hl (by decide) rfl (fun ls hl => ?_)
              refine lv_goto (tgt := 1260) hx hb dL_law_670 (by decide) ?_
              refine W.widen (k := cells + 60) (n := slots + 600) (by omega) (by omega) ?_
              exact kont _ _ _ ⟨_, _, _, _, _, _, _, _, _, _, _, _, _, _, _, _, _, _, _, _, _, _, hG, JV_link V (by omega) (by omega) hne h_u7 h_v7 (if_neg hlt).symm hal hC2 hC1, hN0⟩ (lv_sub hl [4, 5, 6, 7, 8, 9, 10, 11, 12, 0, 13, 14] rfl)
            · rcases hp with ⟨er, hij9⟩ | ⟨er, hne9, hl9⟩
              · exact absurd hij9 hne
              · exact absurd ((lkd_n (by omega) (by omega)).mp hl9) hal
          · have hlt : i0 < j0 := Nat.lt_of_not_le (fun h9 => c_599 ((nI_leI (by omega) (by omega)).mpr h9))
            refine lv_iload hx hb dL_law_602 (lv_at hl 2 rfl) ?_
            refine lv_i2l hx hb dL_law_604 (nI_l (n := u7) (by omega)) ?_
            refine lv_ldc2 (v := 100001) hx hb hown (hts (.constantLong RL 21 100001) (by decide +kernel)) dL_law_605 ?_
            refine q_renl (show (100001 : Int64) = lN 100001 from rfl) ?_
            refine lv_lmul hx hb dL_law_608 ?_
            refine q_renl (lN_mul u7 100001) ?_
            refine lv_iload hx hb dL_law_609 (lv_at hl 1 rfl) ?_
            refine lv_i2l hx hb dL_law_611 (nI_l (n := v7) (by omega)) ?_
            refine lv_ladd hx hb dL_law_612 ?_
            refine q_renl (lN_add (u7 * 100001) v7) ?_
            refine lv_goto (tgt := 627) hx hb dL_law_613 (by decide) ?_
            refine q_last hM hG 25 (i := prn i0 j0) rfl (prn_lt i0 (by omega) j0 (by omega) hne) (by decide) (ws1 := ((cNet g h N tk dom gr va dr off rt cnt lk dl td K E ds) ++ (lNet g ka nn aa (upd (upd ll i0 ((ll i0) ||| ((nI 1) <<< ((nI j0) &&& 31)))) j0 (((upd ll i0 ((ll i0) ||| ((nI 1) <<< ((nI j0) &&& 31)))) j0) ||| ((nI 1) <<< ((nI i0) &&& 31)))) (vp_updL yy (prn i0 j0) (lN (u7 * 100001 + v7))) tt kk oo))) rfl dL_law_627 (fun H locs hG => ?_)
            refine lv_aload hx hb dL_law_628 (lv_at hl 9 rfl) ?_
            refine lv_iload hx hb dL_law_630 (lv_at hl 15 rfl) ?_
            refine lv_iload hx hb dL_law_632 (lv_at hl 16 rfl) ?_
            refine q_fSi (FR.n ((cNet g h N tk dom gr va dr off rt cnt lk dl td K E ds) ++ (lNet g ka nn aa (upd (upd ll i0 ((ll i0) ||| ((nI 1) <<< ((nI j0) &&& 31)))) j0 (((upd ll i0 ((ll i0) ||| ((nI 1) <<< ((nI j0) &&& 31)))) j0) ||| ((nI 1) <<< ((nI i0) &&& 31)))) (vp_updL yy (prn i0 j0) (lN (u7 * 100001 + v7))) tt kk oo))) (n := 2) (As := [.int (nI i0), .int (nI j0)]) (rest := [.ref (ka 4)]) hM hl.1 hG (c_L_pair l g  i0 j0 (by omega) (by omega) hne) rfl gL_law_L_pair (by decide +kernel) ⟨Nat.le_of_ble_eq_true rfl, Nat.le_of_ble_eq_true rfl⟩ rfl rfl (Nat.le_of_ble_eq_true rfl) dL_law_634 (c1 := cells) (s1 := slots) rfl rfl ⟨by omega, by omega⟩ (fun r_634 u_634 H locs hp_634 hG => ?_)
            have hG : cC g ((cNet g h N tk dom gr va dr off rt cnt lk dl td K E ds) ++ (lNet g ka nn aa (upd (upd ll i0 ((ll i0) ||| ((nI 1) <<< ((nI j0) &&& 31)))) j0 (((upd ll i0 ((ll i0) ||| ((nI 1) <<< ((nI j0) &&& 31)))) j0) ||| ((nI 1) <<< ((nI i0) &&& 31)))) (vp_updL yy (prn i0 j0) (lN (u7 * 100001 + v7))) tt kk oo)) A s H locs := hG
            subst hp_634
            refine lv_iconst (v := nI 0) hx hb dL_law_637 (by decide) ?_
            refine q_iast hM hG 26 (i := prn i0 j0) rfl (prn_lt i0 (by omega) j0 (by omega) hne) (by decide) (ws1 := ((cNet g h N tk dom gr va dr off rt cnt lk dl td K E ds) ++ (lNet g ka nn aa (upd (upd ll i0 ((ll i0) ||| ((nI 1) <<< ((nI j0) &&& 31)))) j0 (((upd ll i0 ((ll i0) ||| ((nI 1) <<< ((nI j0) &&& 31)))) j0) ||| ((nI 1) <<< ((nI i0) &&& 31)))) (vp_updL yy (prn i0 j0) (lN (u7 * 100001 + v7))) (upd tt (prn i0 j0) (nI 0)) kk oo))) rfl dL_law_638 (fun H locs hG => ?_)
            refine lv_aload_n hx hb dL_law_639 rfl (lv_at hl 5 rfl) ?_
            refine lv_iconst (v := nI 1) hx hb dL_law_640 (by decide) ?_
            refine lv_dup2_11 hx hb dL_law_641 rfl rfl ?_
            refine q_iald hM hG 22 (i := 1) rfl (by decide) (by decide) dL_law_642 ?_
            refine q_ren (hn1.trans hC2) ?_
            refine lv_iconst (v := nI 1) hx hb dL_law_643 (by decide) ?_
            refine lv_iadd hx hb dL_law_644 ?_
            refine q_ren (nI_add C1 1) ?_
            refine q_iast hM hG 22 (i := 1) rfl (by decide) (by decide) (ws1 := ((cNet g h N tk dom gr va dr off rt cnt lk dl td K E ds) ++ (lNet g ka (upd nn 1 (nI (C1 + 1))) aa (upd (upd ll i0 ((ll i0) ||| ((nI 1) <<< ((nI j0) &&& 31)))) j0 (((upd ll i0 ((ll i0) ||| ((nI 1) <<< ((nI j0) &&& 31)))) j0) ||| ((nI 1) <<< ((nI i0) &&& 31)))) (vp_updL yy (prn i0 j0) (lN (u7 * 100001 + v7))) (upd tt (prn i0 j0) (nI 0)) kk oo))) rfl dL_law_645 (fun H locs hG => ?_)
            refine lv_aload_n hx hb dL_law_646 rfl (lv_at hl 4 rfl) ?_
            refine lv_iload hx hb dL_law_647 (lv_at hl 15 rfl) ?_
            refine lv_iload hx hb dL_law_649 (lv_at hl 16 rfl) ?_
            refine lv_iload hx hb dL_law_651 (lv_at hl 2 rfl) ?_
            refine lv_iload hx hb dL_law_653 (lv_at hl 1 rfl) ?_
            refine q_fWi (FR.l (lNet g ka (upd nn 1 (nI (C1 + 1))) aa (upd (upd ll i0 ((ll i0) ||| ((nI 1) <<< ((nI j0) &&& 31)))) j0 (((upd ll i0 ((ll i0) ||| ((nI 1) <<< ((nI j0) &&& 31)))) j0) ||| ((nI 1) <<< ((nI i0) &&& 31)))) (vp_updL yy (prn i0 j0) (lN (u7 * 100001 + v7))) (upd tt (prn i0 j0) (nI 0)) kk oo)) (n := 5) (As := [.ref (h 0), .int (nI i0), .int (nI j0), .int (nI u7), .int (nI v7)]) (rest := []) hM hl.1 hG (w_link l hl0 g h N tk dom gr va dr off rt cnt lk dl td K E ds i0 j0 hi hj hN hlk u7 v7 h_u7 h_v7) rfl gL_law_L_links (by decide +kernel) ⟨Nat.le_of_ble_eq_true rfl, Nat.le_of_ble_eq_true rfl⟩ rfl rfl (Nat.le_of_ble_eq_true rfl) dL_law_655 (c1 := cells + 1) (s1 := slots + 6) rfl rfl ⟨by omega, by omega⟩ (fun r v H locs hp hG => ?_)
            rcases v with ⟨u1, u2, u3, u4⟩ | _
            · obtain ⟨i9, j9, hi9, hj9, e9, f9, hP9, hQ9, eu1, eu2, eu3, eu4, er⟩ := hp
              obtain rfl : i0 = i9 := (nI_eq (by omega) (by omega)).mp e9
              obtain rfl : j0 = j9 := (nI_eq (by omega) (by omega)).mp f9
              try dsimp only at eu1 eu2 eu3 eu4
              subst eu1 eu2 eu3 eu4
              have hG : cC g ((cNet g h N tk dom gr va dr off rt (cnt + 1) (upd (upd lk (i0 * 10 + j0) 1) (j0 * 10 + i0) 1) (upd (upd dl (i0 * 10 + j0) (nI u7)) (j0 * 10 + i0) (nI v7)) (upd (upd td (i0 * 10 + j0) 0) (j0 * 10 + i0) 0) K E ds) ++ (lNet g ka (upd nn 1 (nI (C1 + 1))) aa (upd (upd ll i0 ((ll i0) ||| ((nI 1) <<< ((nI j0) &&& 31)))) j0 (((upd ll i0 ((ll i0) ||| ((nI 1) <<< ((nI j0) &&& 31)))) j0) ||| ((nI 1) <<< ((nI i0) &&& 31)))) (vp_updL yy (prn i0 j0) (lN (u7 * 100001 + v7))) (upd tt (prn i0 j0) (nI 0)) kk oo)) A s H locs := hG
              refine q_ren (er.trans (show cnt + 1 = nI (C1 + 1) by rw [hC2]; exact nI_1 C1)) ?_
              refine lv_iload hx hb dL_law_658 (lv_at hl 0 rfl) ?_
              refine lv_icmp_ne (tgt := 667) hx hb dL_law_660 (by decide) (fun c9 => absurd rfl c9) (fun _ => ?_)
              refine lv_iconst (v := nI 1) hx hb dL_law_663 (by decide) ?_
              refine lv_goto (tgt := 668) hx hb dL_law_664 (by decide) ?_
              refine lv_istore (lv' := [(9, .int (nI 1)), (19, .int (nI (C1 + 1))), (18, .int (nI v7)), (17, .int (nI u7)), (0, .ref b), (1, .ref (h 0)), (2, .ref (ka 0)), (3, .ref (ka 1)), (4, .ref (ka 2)), (5, .ref (ka 3)), (6, .ref (ka 4)), (7, .ref (ka 5)), (8, .ref (ka 6)), (10, .int (nI tn)), (13, .int (nI z)), (14, .int (nI i0)), (15, .int (nI j0)), (16, .int (nI 0))]) hx hb dL_law_668 hl (by decide) rfl (fun ls hl => ?_)
              refine lv_goto (tgt := 1260) hx hb dL_law_670 (by decide) ?_
              refine W.widen (k := cells + 60) (n := slots + 600) (by omega) (by omega) ?_
              exact kont _ _ _ ⟨_, _, _, _, _, _, _, _, _, _, _, _, _, _, _, _, _, _, _, _, _, _, hG, JV_link V (by omega) (by omega) hne h_u7 h_v7 (if_pos hlt).symm hal hC2 hC1, hN0⟩ (lv_sub hl [4, 5, 6, 7, 8, 9, 10, 11, 12, 0, 13, 14] rfl)
            · rcases hp with ⟨er, hij9⟩ | ⟨er, hne9, hl9⟩
              · exact absurd hij9 hne
              · exact absurd ((lkd_n (by omega) (by omega)).mp hl9) hal
      · have hij : i0 = j0 := (nI_eq (by omega) (by omega)).mp c_532
        refine lv_bipush (v := (-12)) hx hb dL_law_535 (by decide) ?_
        refine lv_goto (tgt := 555) hx hb dL_law_537 (by decide) ?_
        refine lv_istore (lv' := [(19, .int (-12 : Int32)), (18, .int (nI v7)), (17, .int (nI u7)), (0, .ref b), (1, .ref (h 0)), (2, .ref (ka 0)), (3, .ref (ka 1)), (4, .ref (ka 2)), (5, .ref (ka 3)), (6, .ref (ka 4)), (7, .ref (ka 5)), (8, .ref (ka 6)), (9, .int (nI 1)), (10, .int (nI tn)), (13, .int (nI z)), (14, .int (nI i0)), (15, .int (nI j0)), (16, .int (nI 0))]) hx hb dL_law_555 hl (by decide) rfl (fun ls hl => ?_)
        refine lv_iload hx hb dL_law_557 (lv_at hl 0 rfl) ?_
        refine lv_if_le (tgt := 646) hx hb dL_law_559 (by decide) (fun _ => ?_) (fun c9 => False.elim (by revert c9; decide))
        refine lv_aload_n hx hb dL_law_646 rfl (lv_at hl 4 rfl) ?_
        refine lv_iload hx hb dL_law_647 (lv_at hl 15 rfl) ?_
        refine lv_iload hx hb dL_law_649 (lv_at hl 16 rfl) ?_
        refine lv_iload hx hb dL_law_651 (lv_at hl 2 rfl) ?_
        refine lv_iload hx hb dL_law_653 (lv_at hl 1 rfl) ?_
        refine q_fWi (FR.l (lNet g ka nn aa ll yy tt kk oo)) (n := 5) (As := [.ref (h 0), .int (nI i0), .int (nI j0), .int (nI u7), .int (nI v7)]) (rest := []) hM hl.1 hG (w_link l hl0 g h N tk dom gr va dr off rt cnt lk dl td K E ds i0 j0 hi hj hN hlk u7 v7 h_u7 h_v7) rfl gL_law_L_links (by decide +kernel) ⟨Nat.le_of_ble_eq_true rfl, Nat.le_of_ble_eq_true rfl⟩ rfl rfl (Nat.le_of_ble_eq_true rfl) dL_law_655 (c1 := cells + 1) (s1 := slots + 6) rfl rfl ⟨by omega, by omega⟩ (fun r v H locs hp hG => ?_)
        rcases v with ⟨u1, u2, u3, u4⟩ | _
        · obtain ⟨i9, j9, hi9, hj9, e9, f9, hP9, hQ9, eu1, eu2, eu3, eu4, er⟩ := hp
          exact absurd c_532 hP9.1
        · rcases hp with ⟨er, hij9⟩ | ⟨er, hne9, hl9⟩
          · have hG : cC g ((cNet g h N tk dom gr va dr off rt cnt lk dl td K E ds) ++ (lNet g ka nn aa ll yy tt kk oo)) A s H locs := hG
            refine q_ren er ?_
            refine lv_iload hx hb dL_law_658 (lv_at hl 0 rfl) ?_
            refine lv_icmp_ne (tgt := 667) hx hb dL_law_660 (by decide) (fun c9 => False.elim (by revert c9; decide)) (fun _ => ?_)
            refine lv_iconst (v := nI 1) hx hb dL_law_663 (by decide) ?_
            refine lv_goto (tgt := 668) hx hb dL_law_664 (by decide) ?_
            refine lv_istore (lv' := [(9, .int (nI 1)), (19, .int (-12 : Int32)), (18, .int (nI v7)), (17, .int (nI u7)), (0, .ref b), (1, .ref (h 0)), (2, .ref (ka 0)), (3, .ref (ka 1)), (4, .ref (ka 2)), (5, .ref (ka 3)), (6, .ref (ka 4)), (7, .ref (ka 5)), (8, .ref (ka 6)), (10, .int (nI tn)), (13, .int (nI z)), (14, .int (nI i0)), (15, .int (nI j0)), (16, .int (nI 0))]) hx hb dL_law_668 hl (by decide) rfl (fun ls hl => ?_)
            refine lv_goto (tgt := 1260) hx hb dL_law_670 (by decide) ?_
            refine W.widen (k := cells + 60) (n := slots + 600) (by omega) (by omega) ?_
            exact kont _ _ _ ⟨_, _, _, _, _, _, _, _, _, _, _, _, _, _, _, _, _, _, _, _, _, _, hG, V, hN0⟩ (lv_sub hl [4, 5, 6, 7, 8, 9, 10, 11, 12, 0, 13, 14] rfl)
          · exact absurd hij hne9
    refine lv_iload hx hb dL_law_505 (lv_at hl 12 rfl) ?_
    refine lv_iconst (v := nI 3) hx hb dL_law_507 (by decide) ?_
    refine lv_irem hx hb dL_law_508 (by decide) ?_
    refine q_ren (pk_rem (a := z) (by omega) (by decide) (by decide)) ?_
    refine lv_if_ne (tgt := 517) hx hb dL_law_509 (by decide) (fun c_509 => ?_) (fun c_509 => ?_)
    · refine lv_iload hx hb dL_law_517 (lv_at hl 12 rfl) ?_
      refine lv_bipush (v := nI 40) hx hb dL_law_519 (by decide) ?_
      refine lv_idiv hx hb dL_law_521 (by decide) ?_
      refine q_ren (pk_div (a := z) (by omega) (by decide) (by decide)) ?_
      refine lv_sipush (v := nI 2000) hx hb dL_law_522 (by decide) ?_
      refine lv_irem hx hb dL_law_525 (by decide) ?_
      refine q_ren (pk_rem (a := z / 40) (by omega) (by decide) (by decide)) ?_
      refine lv_istore (lv' := [(18, .int (nI ((z / 40) % 2000))), (17, .int (nI u7)), (0, .ref b), (1, .ref (h 0)), (2, .ref (ka 0)), (3, .ref (ka 1)), (4, .ref (ka 2)), (5, .ref (ka 3)), (6, .ref (ka 4)), (7, .ref (ka 5)), (8, .ref (ka 6)), (9, .int (nI 1)), (10, .int (nI tn)), (13, .int (nI z)), (14, .int (nI i0)), (15, .int (nI j0)), (16, .int (nI 0))]) hx hb dL_law_526 hl (by decide) rfl (fun ls hl => ?_)
      exact cut_528 ((z / 40) % 2000) (by omega) _ _ hG _ (lv_sub hl [0, 1, 2, 3, 4, 5, 6, 7, 8, 9, 10, 11, 12, 13, 14, 15, 16] rfl)
    · refine lv_iload hx hb dL_law_512 (lv_at hl 0 rfl) ?_
      refine lv_goto (tgt := 526) hx hb dL_law_514 (by decide) ?_
      refine lv_istore (lv' := [(18, .int (nI u7)), (17, .int (nI u7)), (0, .ref b), (1, .ref (h 0)), (2, .ref (ka 0)), (3, .ref (ka 1)), (4, .ref (ka 2)), (5, .ref (ka 3)), (6, .ref (ka 4)), (7, .ref (ka 5)), (8, .ref (ka 6)), (9, .int (nI 1)), (10, .int (nI tn)), (13, .int (nI z)), (14, .int (nI i0)), (15, .int (nI j0)), (16, .int (nI 0))]) hx hb dL_law_526 hl (by decide) rfl (fun ls hl => ?_)
      exact cut_528 u7 (by omega) _ _ hG _ (lv_sub hl [0, 1, 2, 3, 4, 5, 6, 7, 8, 9, 10, 11, 12, 13, 14, 15, 16] rfl)
  refine lv_iload hx hb dL_law_478 (lv_at hl 11 rfl) ?_
  refine lv_iconst (v := nI 4) hx hb dL_law_480 (by decide) ?_
  refine lv_irem hx hb dL_law_481 (by decide) ?_
  refine q_ren (pk_rem (a := z) (by omega) (by decide) (by decide)) ?_
  refine lv_if_ne (tgt := 495) hx hb dL_law_482 (by decide) (fun c_482 => ?_) (fun c_482 => ?_)
  · refine lv_iload hx hb dL_law_495 (lv_at hl 11 rfl) ?_
    refine lv_iconst (v := nI 4) hx hb dL_law_497 (by decide) ?_
    refine lv_idiv hx hb dL_law_498 (by decide) ?_
    refine q_ren (pk_div (a := z) (by omega) (by decide) (by decide)) ?_
    refine lv_sipush (v := nI 2000) hx hb dL_law_499 (by decide) ?_
    refine lv_irem hx hb dL_law_502 (by decide) ?_
    refine q_ren (pk_rem (a := z / 4) (by omega) (by decide) (by decide)) ?_
    refine lv_istore (lv' := [(17, .int (nI ((z / 4) % 2000))), (0, .ref b), (1, .ref (h 0)), (2, .ref (ka 0)), (3, .ref (ka 1)), (4, .ref (ka 2)), (5, .ref (ka 3)), (6, .ref (ka 4)), (7, .ref (ka 5)), (8, .ref (ka 6)), (9, .int (nI 1)), (10, .int (nI tn)), (13, .int (nI z)), (14, .int (nI i0)), (15, .int (nI j0)), (16, .int (nI 0))]) hx hb dL_law_503 hl (by decide) rfl (fun ls hl => ?_)
    exact cut_505 ((z / 4) % 2000) (by omega) _ _ hG _ (lv_sub hl [0, 1, 2, 3, 4, 5, 6, 7, 8, 9, 10, 11, 12, 13, 14, 15] rfl)
  · refine lv_iload hx hb dL_law_485 (lv_at hl 11 rfl) ?_
    refine lv_iconst (v := nI 4) hx hb dL_law_487 (by decide) ?_
    refine lv_idiv hx hb dL_law_488 (by decide) ?_
    refine q_ren (pk_div (a := z) (by omega) (by decide) (by decide)) ?_
    refine lv_ldc (v := 100001) hx hb hown (hts (.constant RL 137 100001) (by decide +kernel)) dL_law_489 ?_
    refine q_ren (show (100001 : Int32) = nI 100001 from rfl) ?_
    refine lv_irem hx hb dL_law_491 (by decide) ?_
    refine q_ren (pk_rem (a := z / 4) (by omega) (by decide) (by decide)) ?_
    refine lv_goto (tgt := 503) hx hb dL_law_492 (by decide) ?_
    refine lv_istore (lv' := [(17, .int (nI ((z / 4) % 100001))), (0, .ref b), (1, .ref (h 0)), (2, .ref (ka 0)), (3, .ref (ka 1)), (4, .ref (ka 2)), (5, .ref (ka 3)), (6, .ref (ka 4)), (7, .ref (ka 5)), (8, .ref (ka 6)), (9, .int (nI 1)), (10, .int (nI tn)), (13, .int (nI z)), (14, .int (nI i0)), (15, .int (nI j0)), (16, .int (nI 0))]) hx hb dL_law_503 hl (by decide) rfl (fun ls hl => ?_)
    exact cut_505 ((z / 4) % 100001) (by omega) _ _ hG _ (lv_sub hl [0, 1, 2, 3, 4, 5, 6, 7, 8, 9, 10, 11, 12, 13, 14, 15] rfl)
