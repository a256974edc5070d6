set_option maxHeartbeats 4000000 in
set_option maxRecDepth 100000 in
theorem lc_cut1 {p : Program} {e : Env} {s : State} {m : MethodId} {below : List Frame} {meth : Method} {c : Code} (l : Launch) (hl0 : l.stackTraces = false) {b L : Nat} {xs : Nat → Int32} (C0 : lw_At p s m meth c b L xs) {g : EN} {h ka : Nat → Nat} {A : Nat → Prop} {N : Nat} {tk : Int32} {dom : Nat → Int32} {gr : Nat → Int32} {va : Nat → Int32} {dr : Nat → Int32} {off : Nat → Int64} {rt : Nat → Int64} {cnt : Int32} {lk : Nat → Int32} {dl : Nat → Int32} {td : Nat → Int32} {K : KT} {E : KT} {ds : Nat → Int32} {nn : Nat → Int32} {aa : Nat → Int32} {ll : Nat → Int32} {yy : Nat → Int64} {tt : Nat → Int32} {kk : Nat → Int64} {oo : Nat → Int64} {H : Heap} {locs : List Loc} {cells slots : Nat} (hroom : cells + 60 ≤ room_1.cells ∧ slots + 600 ≤ room_1.slots) (hG : cC g ((cNet g h N tk dom gr va dr off rt cnt lk dl td K E ds) ++ (lNet g ka nn aa ll yy tt kk oo)) A s H locs) (V : JV N tk dom gr va dr off rt cnt lk dl td K nn aa ll yy tt kk oo) {tn z : Nat} (hz : z < 2 ^ 27) {i0 j0 : Nat} (hi : i0 < N) (hj : j0 < N) (hN0 : 0 < N) (hal : lk (i0 * 10 + j0) = 1) {Q : State → Prop} {ls : Array Slot} (hl : lv_has ls 20 [(0, .ref b), (1, .ref (h 0)), (2, .ref (ka 0)), (3, .ref (ka 1)), (4, .ref (ka 2)), (5, .ref (ka 3)), (6, .ref (ka 4)), (7, .ref (ka 5)), (8, .ref (ka 6)), (9, .int (nI 1)), (10, .int (nI tn)), (13, .int (nI z)), (14, .int (nI i0)), (15, .int (nI j0)), (16, .int (nI 1))])
    (kont : ∀ (H1 : Heap) (locs1 : List Loc) (ls1 : Array Slot), JI g h ka A s H1 locs1 → lv_has ls1 20 [(0, .ref b), (1, .ref (h 0)), (2, .ref (ka 0)), (3, .ref (ka 1)), (4, .ref (ka 2)), (5, .ref (ka 3)), (6, .ref (ka 4)), (7, .ref (ka 5)), (8, .ref (ka 6)), (9, .int (nI 1)), (10, .int (nI tn)), (13, .int (nI z))] → W p l e room_1 s m #[Value.ref b] below meth c H1 locs1 (cells + 60) (slots + 600) Q (F0 m 1260 ls1 [])) : W p l e room_1 s m #[Value.ref b] below meth c H locs cells slots Q (F0 m 679 ls []) := by
  obtain ⟨hx, hb, hr, hml, hown, hts0, hX, hbl, hlocks, hgv⟩ := C0
  have hM : CallFix p m c cL_law 20 s #[Value.ref b] wsL_law RL := ⟨hx, hb, hml, hown, fun w h => hts0 w (wsL_law_in w h)⟩
  have hts := hM.2.2.2.2
  obtain ⟨hN, hg, hlk, hself, hsy, hn0, hn1, hn2, hA, hB, hY, hT, hK, hO, C1, hC1, hC2, hC3⟩ := id V
  have hne : ¬ i0 = j0 := fun h9 => hself j0 (by omega) (by rw [h9] at hal; exact hal)
  have h1C : 1 ≤ C1 := by obtain ⟨C9, h91, h92, h93⟩ := link_pos V (by omega) (by omega) hal; have h94 : C1 = C9 := (nI_eq (by omega) (by omega)).mp (hC2.symm.trans h93); omega
  obtain ⟨r1, s1, q1, a11, a12, a13, a14, a15, a16, a17, a18, a19⟩ := id (hK i0 hi)
  obtain ⟨r2, s2, q2, a21, a22, a23, a24, a25, a26, a27, a28, a29⟩ := id (hK j0 hj)
  refine lv_iload hx hb dL_law_679 (lv_at hl 14 rfl) ?_
  refine lv_if_eq (tgt := 692) hx hb dL_law_681 (by decide) (fun c9 => False.elim (by revert c9; decide)) (fun _ => ?_)
  refine lv_aload_n hx hb dL_law_684 rfl (lv_at hl 2 rfl) ?_
  refine lv_iconst (v := nI 1) hx hb dL_law_685 (by decide) ?_
  refine q_iald hM hG 22 (i := 1) rfl (by decide) (by decide) dL_law_686 ?_
  refine q_ren (hn1.trans hC2) ?_
  refine lv_iconst (v := nI 1) hx hb dL_law_687 (by decide) ?_
  refine lv_isub hx hb dL_law_688 ?_
  refine q_ren (pk_sub h1C) ?_
  refine lv_goto (tgt := 694) hx hb dL_law_689 (by decide) ?_
  refine lv_istore (lv' := [(17, .int (nI (C1 - 1))), (0, .ref b), (1, .ref (h 0)), (2, .ref (ka 0)), (3, .ref (ka 1)), (4, .ref (ka 2)), (5, .ref (ka 3)), (6, .ref (ka 4)), (7, .ref (ka 5)), (8, .ref (ka 6)), (9, .int (nI 1)), (10, .int (nI tn)), (13, .int (nI z)), (14, .int (nI i0)), (15, .int (nI j0)), (16, .int (nI 1))]) hx hb dL_law_694 hl (by decide) rfl (fun ls hl => ?_)
  refine lv_iload hx hb dL_law_696 (lv_at hl 15 rfl) ?_
  refine lv_if_eq (tgt := 800) hx hb dL_law_698 (by decide) (fun c9 => False.elim (by revert c9; decide)) (fun _ => ?_)
  refine lv_aload hx hb dL_law_701 (lv_at hl 5 rfl) ?_
  refine lv_iload hx hb dL_law_703 (lv_at hl 13 rfl) ?_
  refine lv_dup2_11 hx hb dL_law_705 rfl rfl ?_
  refine q_iald hM hG 24 (i := i0) rfl (by omega) (by decide) dL_law_706 ?_
  refine lv_iconst (v := nI 1) hx hb dL_law_707 (by decide) ?_
  refine lv_iload hx hb dL_law_708 (lv_at hl 14 rfl) ?_
  refine lv_ishl hx hb dL_law_710 ?_
  refine lv_iconst (v := (-1)) hx hb dL_law_711 (by decide) ?_
  refine lv_ixor hx hb dL_law_712 ?_
  refine lv_iand hx hb dL_law_713 ?_
  refine q_iast hM hG 24 (i := i0) rfl (by omega) (by decide) (ws1 := ((cNet g h N tk dom gr va dr off rt cnt lk dl td K E ds) ++ (lNet g ka nn aa (upd ll i0 ((ll i0) &&& (((nI 1) <<< ((nI j0) &&& 31)) ^^^ (-1 : Int32)))) yy tt kk oo))) rfl dL_law_714 (fun H locs hG => ?_)
  refine lv_aload hx hb dL_law_715 (lv_at hl 5 rfl) ?_
  refine lv_iload hx hb dL_law_717 (lv_at hl 14 rfl) ?_
  refine lv_dup2_11 hx hb dL_law_719 rfl rfl ?_
  refine q_iald hM hG 24 (i := j0) rfl (by omega) (by decide) dL_law_720 ?_
  refine lv_iconst (v := nI 1) hx hb dL_law_721 (by decide) ?_
  refine lv_iload hx hb dL_law_722 (lv_at hl 13 rfl) ?_
  refine lv_ishl hx hb dL_law_724 ?_
  refine lv_iconst (v := (-1)) hx hb dL_law_725 (by decide) ?_
  refine lv_ixor hx hb dL_law_726 ?_
  refine lv_iand hx hb dL_law_727 ?_
  refine q_iast hM hG 24 (i := j0) rfl (by omega) (by decide) (ws1 := ((cNet g h N tk dom gr va dr off rt cnt lk dl td K E ds) ++ (lNet g ka nn aa (upd (upd ll i0 ((ll i0) &&& (((nI 1) <<< ((nI j0) &&& 31)) ^^^ (-1 : Int32)))) j0 (((upd ll i0 ((ll i0) &&& (((nI 1) <<< ((nI j0) &&& 31)) ^^^ (-1 : Int32)))) j0) &&& (((nI 1) <<< ((nI i0) &&& 31)) ^^^ (-1 : Int32)))) yy tt kk oo))) rfl dL_law_728 (fun H locs hG => ?_)
  refine lv_aload_n hx hb dL_law_729 rfl (lv_at hl 3 rfl) ?_
  refine lv_iconst (v := nI 1) hx hb dL_law_730 (by decide) ?_
  refine lv_dup2_11 hx hb dL_law_731 rfl rfl ?_
  refine q_iald hM hG 22 (i := 1) rfl (by decide) (by decide) dL_law_732 ?_
  refine q_ren (hn1.trans hC2) ?_
  refine lv_iconst (v := nI 1) hx hb dL_law_733 (by decide) ?_
  refine lv_isub hx hb dL_law_734 ?_
  refine q_ren (pk_sub h1C) ?_
  refine q_iast hM hG 22 (i := 1) rfl (by decide) (by decide) (ws1 := ((cNet g h N tk dom gr va dr off rt cnt lk dl td K E ds) ++ (lNet g ka (upd nn 1 (nI (C1 - 1))) aa (upd (upd ll i0 ((ll i0) &&& (((nI 1) <<< ((nI j0) &&& 31)) ^^^ (-1 : Int32)))) j0 (((upd ll i0 ((ll i0) &&& (((nI 1) <<< ((nI j0) &&& 31)) ^^^ (-1 : Int32)))) j0) &&& (((nI 1) <<< ((nI i0) &&& 31)) ^^^ (-1 : Int32)))) yy tt kk oo))) rfl dL_law_735 (fun H locs hG => ?_)
  refine lv_aload hx hb dL_law_736 (lv_at hl 8 rfl) ?_
  refine lv_iload hx hb dL_law_738 (lv_at hl 13 rfl) ?_
  refine lv_aload hx hb dL_law_740 (lv_at hl 8 rfl) ?_
  refine lv_iload hx hb dL_law_742 (lv_at hl 13 rfl) ?_
  refine q_lald hM hG 27 (i := i0) rfl (by omega) (by decide) dL_law_744 ?_
  refine q_renl a19 ?_
  refine q_fSi (FR.n ((cNet g h N tk dom gr va dr off rt cnt lk dl td K E ds) ++ (lNet g ka (upd nn 1 (nI (C1 - 1))) aa (upd (upd ll i0 ((ll i0) &&& (((nI 1) <<< ((nI j0) &&& 31)) ^^^ (-1 : Int32)))) j0 (((upd ll i0 ((ll i0) &&& (((nI 1) <<< ((nI j0) &&& 31)) ^^^ (-1 : Int32)))) j0) &&& (((nI 1) <<< ((nI i0) &&& 31)) ^^^ (-1 : Int32)))) yy tt kk oo))) (n := 1) (As := [.long (lN (r1 * 110 + s1 * 11 + q1))]) (rest := [.int (nI i0), .ref (ka 5)]) hM hl.1 hG (c_L_parent l g  (r1 * 110 + s1 * 11 + q1) (by omega) ) rfl gL_law_L_parent (by decide +kernel) ⟨Nat.le_of_ble_eq_true rfl, Nat.le_of_ble_eq_true rfl⟩ rfl rfl (Nat.le_of_ble_eq_true rfl) dL_law_745 (c1 := cells) (s1 := slots) rfl rfl ⟨by omega, by omega⟩ (fun r_745 u_745 H locs hp_745 hG => ?_)
  have hG : cC g ((cNet g h N tk dom gr va dr off rt cnt lk dl td K E ds) ++ (lNet g ka (upd nn 1 (nI (C1 - 1))) aa (upd (upd ll i0 ((ll i0) &&& (((nI 1) <<< ((nI j0) &&& 31)) ^^^ (-1 : Int32)))) j0 (((upd ll i0 ((ll i0) &&& (((nI 1) <<< ((nI j0) &&& 31)) ^^^ (-1 : Int32)))) j0) &&& (((nI 1) <<< ((nI i0) &&& 31)) ^^^ (-1 : Int32)))) yy tt kk oo)) A s H locs := hG
  subst hp_745
  refine q_ren (show nI ((r1 * 110 + s1 * 11 + q1) % 11) - 1 = (nI q1 - 1) from by rw [show (r1 * 110 + s1 * 11 + q1) % 11 = q1 by omega]) ?_
  refine lv_iload hx hb dL_law_748 (lv_at hl 14 rfl) ?_
  refine lv_icmp_ne (tgt := 762) hx hb dL_law_750 (by decide) (fun c_750 => ?_) (fun c_750 => ?_)
  · refine lv_aload hx hb dL_law_762 (lv_at hl 8 rfl) ?_
    refine lv_iload hx hb dL_law_764 (lv_at hl 13 rfl) ?_
    refine q_lald hM hG 27 (i := i0) rfl (by omega) (by decide) dL_law_766 ?_
    refine q_renl a19 ?_
    refine q_last hM hG 27 (i := i0) rfl (by omega) (by decide) (ws1 := ((cNet g h N tk dom gr va dr off rt cnt lk dl td K E ds) ++ (lNet g ka (upd nn 1 (nI (C1 - 1))) aa (upd (upd ll i0 ((ll i0) &&& (((nI 1) <<< ((nI j0) &&& 31)) ^^^ (-1 : Int32)))) j0 (((upd ll i0 ((ll i0) &&& (((nI 1) <<< ((nI j0) &&& 31)) ^^^ (-1 : Int32)))) j0) &&& (((nI 1) <<< ((nI i0) &&& 31)) ^^^ (-1 : Int32)))) yy tt (vp_updL kk i0 (lN (r1 * 110 + s1 * 11 + q1))) oo))) rfl dL_law_767 (fun H locs hG => ?_)
    refine lv_aload hx hb dL_law_768 (lv_at hl 8 rfl) ?_
    refine lv_iload hx hb dL_law_770 (lv_at hl 14 rfl) ?_
    refine lv_aload hx hb dL_law_772 (lv_at hl 8 rfl) ?_
    refine lv_iload hx hb dL_law_774 (lv_at hl 14 rfl) ?_
    refine q_lald hM hG 27 (i := j0) rfl (by omega) (by decide) dL_law_776 ?_
    refine q_renl ((pk_uLn (fun h9 => hne h9.symm)).trans a29) ?_
    refine q_fSi (FR.n ((cNet g h N tk dom gr va dr off rt cnt lk dl td K E ds) ++ (lNet g ka (upd nn 1 (nI (C1 - 1))) aa (upd (upd ll i0 ((ll i0) &&& (((nI 1) <<< ((nI j0) &&& 31)) ^^^ (-1 : Int32)))) j0 (((upd ll i0 ((ll i0) &&& (((nI 1) <<< ((nI j0) &&& 31)) ^^^ (-1 : Int32)))) j0) &&& (((nI 1) <<< ((nI i0) &&& 31)) ^^^ (-1 : Int32)))) yy tt (vp_updL kk i0 (lN (r1 * 110 + s1 * 11 + q1))) oo))) (n := 1) (As := [.long (lN (r2 * 110 + s2 * 11 + q2))]) (rest := [.int (nI j0), .ref (ka 5)]) hM hl.1 hG (c_L_parent l g  (r2 * 110 + s2 * 11 + q2) (by omega) ) rfl gL_law_L_parent (by decide +kernel) ⟨Nat.le_of_ble_eq_true rfl, Nat.le_of_ble_eq_true rfl⟩ rfl rfl (Nat.le_of_ble_eq_true rfl) dL_law_777 (c1 := cells) (s1 := slots) rfl rfl ⟨by omega, by omega⟩ (fun r_777 u_777 H locs hp_777 hG => ?_)
    have hG : cC g ((cNet g h N tk dom gr va dr off rt cnt lk dl td K E ds) ++ (lNet g ka (upd nn 1 (nI (C1 - 1))) aa (upd (upd ll i0 ((ll i0) &&& (((nI 1) <<< ((nI j0) &&& 31)) ^^^ (-1 : Int32)))) j0 (((upd ll i0 ((ll i0) &&& (((nI 1) <<< ((nI j0) &&& 31)) ^^^ (-1 : Int32)))) j0) &&& (((nI 1) <<< ((nI i0) &&& 31)) ^^^ (-1 : Int32)))) yy tt (vp_updL kk i0 (lN (r1 * 110 + s1 * 11 + q1))) oo)) A s H locs := hG
    subst hp_777
    refine q_ren (show nI ((r2 * 110 + s2 * 11 + q2) % 11) - 1 = (nI q2 - 1) from by rw [show (r2 * 110 + s2 * 11 + q2) % 11 = q2 by omega]) ?_
    refine lv_iload hx hb dL_law_780 (lv_at hl 13 rfl) ?_
    refine lv_icmp_ne (tgt := 794) hx hb dL_law_782 (by decide) (fun c_782 => ?_) (fun c_782 => ?_)
    · refine lv_aload hx hb dL_law_794 (lv_at hl 8 rfl) ?_
      refine lv_iload hx hb dL_law_796 (lv_at hl 14 rfl) ?_
      refine q_lald hM hG 27 (i := j0) rfl (by omega) (by decide) dL_law_798 ?_
      refine q_renl ((pk_uLn (fun h9 => hne h9.symm)).trans a29) ?_
      refine q_last hM hG 27 (i := j0) rfl (by omega) (by decide) (ws1 := ((cNet g h N tk dom gr va dr off rt cnt lk dl td K E ds) ++ (lNet g ka (upd nn 1 (nI (C1 - 1))) aa (upd (upd ll i0 ((ll i0) &&& (((nI 1) <<< ((nI j0) &&& 31)) ^^^ (-1 : Int32)))) j0 (((upd ll i0 ((ll i0) &&& (((nI 1) <<< ((nI j0) &&& 31)) ^^^ (-1 : Int32)))) j0) &&& (((nI 1) <<< ((nI i0) &&& 31)) ^^^ (-1 : Int32)))) yy tt (vp_updL (vp_updL kk i0 (lN (r1 * 110 + s1 * 11 + q1))) j0 (lN (r2 * 110 + s2 * 11 + q2))) oo))) rfl dL_law_799 (fun H locs hG => ?_)
      refine lv_aload_n hx hb dL_law_800 rfl (lv_at hl 2 rfl) ?_
      refine lv_iconst (v := nI 0) hx hb dL_law_801 (by decide) ?_
      refine lv_iload hx hb dL_law_802 (lv_at hl 13 rfl) ?_
      refine lv_iload hx hb dL_law_804 (lv_at hl 14 rfl) ?_
      refine lv_iconst (v := nI 0) hx hb dL_law_806 (by decide) ?_
      refine q_fWi (FR.l (lNet g ka (upd nn 1 (nI (C1 - 1))) aa (upd (upd ll i0 ((ll i0) &&& (((nI 1) <<< ((nI j0) &&& 31)) ^^^ (-1 : Int32)))) j0 (((upd ll i0 ((ll i0) &&& (((nI 1) <<< ((nI j0) &&& 31)) ^^^ (-1 : Int32)))) j0) &&& (((nI 1) <<< ((nI i0) &&& 31)) ^^^ (-1 : Int32)))) yy tt (vp_updL (vp_updL kk i0 (lN (r1 * 110 + s1 * 11 + q1))) j0 (lN (r2 * 110 + s2 * 11 + q2))) oo)) (n := 5) (As := [.ref (h 0), .int (nI 0), .int (nI i0), .int (nI j0), .int (nI 0)]) (rest := []) hM hl.1 hG (w_cut l hl0 g h N tk dom gr va dr off rt cnt lk dl td K E ds i0 j0 hi hj hN hlk) rfl gL_law_L_does (by decide +kernel) ⟨Nat.le_of_ble_eq_true rfl, Nat.le_of_ble_eq_true rfl⟩ rfl rfl (Nat.le_of_ble_eq_true rfl) dL_law_807 (c1 := cells + 1) (s1 := slots + 6) rfl rfl ⟨by omega, by omega⟩ (fun r v H locs hp hG => ?_)
      rcases v with ⟨u1, u2, u3⟩ | _
      · obtain ⟨i9, j9, hi9, hj9, e9, f9, hQ9, eu1, eu2, eu3, er⟩ := hp
        obtain rfl : i0 = i9 := (nI_eq (by omega) (by omega)).mp e9
        obtain rfl : j0 = j9 := (nI_eq (by omega) (by omega)).mp f9
        try dsimp only at eu1 eu2 eu3
        subst eu1 eu2 eu3
        have hG : cC g ((cNet g h N tk dom gr va dr off rt (cnt - 1) (upd (upd lk (i0 * 10 + j0) 0) (j0 * 10 + i0) 0) dl td (kfp gr va (kfp gr va K i0 j0) j0 i0) E ds) ++ (lNet g ka (upd nn 1 (nI (C1 - 1))) aa (upd (upd ll i0 ((ll i0) &&& (((nI 1) <<< ((nI j0) &&& 31)) ^^^ (-1 : Int32)))) j0 (((upd ll i0 ((ll i0) &&& (((nI 1) <<< ((nI j0) &&& 31)) ^^^ (-1 : Int32)))) j0) &&& (((nI 1) <<< ((nI i0) &&& 31)) ^^^ (-1 : Int32)))) yy tt (vp_updL (vp_updL kk i0 (lN (r1 * 110 + s1 * 11 + q1))) j0 (lN (r2 * 110 + s2 * 11 + q2))) oo)) A s H locs := hG
        refine q_ren (er.trans (show cnt - 1 = nI (C1 - 1) by rw [hC2]; exact pk_sub (a := C1) (b := 1) h1C)) ?_
        refine lv_iload hx hb dL_law_810 (lv_at hl 0 rfl) ?_
        refine lv_icmp_ne (tgt := 819) hx hb dL_law_812 (by decide) (fun c9 => absurd rfl c9) (fun _ => ?_)
        refine lv_iconst (v := nI 1) hx hb dL_law_815 (by decide) ?_
        refine lv_goto (tgt := 820) hx hb dL_law_816 (by decide) ?_
        refine lv_istore (lv' := [(9, .int (nI 1)), (17, .int (nI (C1 - 1))), (0, .ref b), (1, .ref (h 0)), (2, .ref (ka 0)), (3, .ref (ka 1)), (4, .ref (ka 2)), (5, .ref (ka 3)), (6, .ref (ka 4)), (7, .ref (ka 5)), (8, .ref (ka 6)), (10, .int (nI tn)), (13, .int (nI z)), (14, .int (nI i0)), (15, .int (nI j0)), (16, .int (nI 1))]) hx hb dL_law_820 hl (by decide) rfl (fun ls hl => ?_)
        refine lv_goto (tgt := 1260) hx hb dL_law_822 (by decide) ?_
        refine W.widen (k := cells + 60) (n := slots + 600) (by omega) (by omega) ?_
        exact kont _ _ _ ⟨_, _, _, _, _, _, _, _, _, _, _, _, _, _, _, _, _, _, _, _, _, _, hG, JV_cut V (by omega) (by omega) hne hal hC2 hC1 h1C (Or.inr ⟨fun h9 => c_750 (a18.symm.trans h9), a19.symm⟩) (Or.inr ⟨fun h9 => c_782 (a28.symm.trans h9), a29.symm⟩), hN0⟩ (lv_sub hl [2, 3, 4, 5, 6, 7, 8, 9, 10, 0, 11, 12] rfl)
      · obtain ⟨er, hl9⟩ := hp
        exact absurd ((lkd_n (by omega) (by omega)).mpr hal) hl9
    · refine lv_aload_n hx hb dL_law_785 rfl (lv_at hl 4 rfl) ?_
      refine lv_iload hx hb dL_law_786 (lv_at hl 14 rfl) ?_
      refine q_fSl (FR.r (cNet g h N tk dom gr va dr off rt cnt lk dl td K E ds)) (n := 2) (As := [.ref (ka 1), .int (nI j0)]) (rest := [.int (nI j0), .ref (ka 5)]) hM hl.1 hG (c_L_own l g ka (upd nn 1 (nI (C1 - 1))) aa (upd (upd ll i0 ((ll i0) &&& (((nI 1) <<< ((nI j0) &&& 31)) ^^^ (-1 : Int32)))) j0 (((upd ll i0 ((ll i0) &&& (((nI 1) <<< ((nI j0) &&& 31)) ^^^ (-1 : Int32)))) j0) &&& (((nI 1) <<< ((nI i0) &&& 31)) ^^^ (-1 : Int32)))) yy tt (vp_updL kk i0 (lN (r1 * 110 + s1 * 11 + q1))) oo N dom gr va dr j0 hj hN hA hg) rfl gL_law_L_own (by decide +kernel) ⟨Nat.le_of_ble_eq_true rfl, Nat.le_of_ble_eq_true rfl⟩ rfl rfl (Nat.le_of_ble_eq_true rfl) dL_law_788 (c1 := cells) (s1 := slots) rfl rfl ⟨by omega, by omega⟩ (fun r_788 u_788 H locs hp_788 hG => ?_)
      have hG : cC g ((cNet g h N tk dom gr va dr off rt cnt lk dl td K E ds) ++ (lNet g ka (upd nn 1 (nI (C1 - 1))) aa (upd (upd ll i0 ((ll i0) &&& (((nI 1) <<< ((nI j0) &&& 31)) ^^^ (-1 : Int32)))) j0 (((upd ll i0 ((ll i0) &&& (((nI 1) <<< ((nI j0) &&& 31)) ^^^ (-1 : Int32)))) j0) &&& (((nI 1) <<< ((nI i0) &&& 31)) ^^^ (-1 : Int32)))) yy tt (vp_updL kk i0 (lN (r1 * 110 + s1 * 11 + q1))) oo)) A s H locs := hG
      subst hp_788
      refine lv_goto (tgt := 799) hx hb dL_law_791 (by decide) ?_
      refine q_last hM hG 27 (i := j0) rfl (by omega) (by decide) (ws1 := ((cNet g h N tk dom gr va dr off rt cnt lk dl td K E ds) ++ (lNet g ka (upd nn 1 (nI (C1 - 1))) aa (upd (upd ll i0 ((ll i0) &&& (((nI 1) <<< ((nI j0) &&& 31)) ^^^ (-1 : Int32)))) j0 (((upd ll i0 ((ll i0) &&& (((nI 1) <<< ((nI j0) &&& 31)) ^^^ (-1 : Int32)))) j0) &&& (((nI 1) <<< ((nI i0) &&& 31)) ^^^ (-1 : Int32)))) yy tt (vp_updL (vp_updL kk i0 (lN (r1 * 110 + s1 * 11 + q1))) j0 (lN (rkn gr va j0 * 110))) oo))) rfl dL_law_799 (fun H locs hG => ?_)
      refine lv_aload_n hx hb dL_law_800 rfl (lv_at hl 2 rfl) ?_
      refine lv_iconst (v := nI 0) hx hb dL_law_801 (by decide) ?_
      refine lv_iload hx hb dL_law_802 (lv_at hl 13 rfl) ?_
      refine lv_iload hx hb dL_law_804 (lv_at hl 14 rfl) ?_
      refine lv_iconst (v := nI 0) hx hb dL_law_806 (by decide) ?_
      refine q_fWi (FR.l (lNet g ka (upd nn 1 (nI (C1 - 1))) aa (upd (upd ll i0 ((ll i0) &&& (((nI 1) <<< ((nI j0) &&& 31)) ^^^ (-1 : Int32)))) j0 (((upd ll i0 ((ll i0) &&& (((nI 1) <<< ((nI j0) &&& 31)) ^^^ (-1 : Int32)))) j0) &&& (((nI 1) <<< ((nI i0) &&& 31)) ^^^ (-1 : Int32)))) yy tt (vp_updL (vp_updL kk i0 (lN (r1 * 110 + s1 * 11 + q1))) j0 (lN (rkn gr va j0 * 110))) oo)) (n := 5) (As := [.ref (h 0), .int (nI 0), .int (nI i0), .int (nI j0), .int (nI 0)]) (rest := []) hM hl.1 hG (w_cut l hl0 g h N tk dom gr va dr off rt cnt lk dl td K E ds i0 j0 hi hj hN hlk) rfl gL_law_L_does (by decide +kernel) ⟨Nat.le_of_ble_eq_true rfl, Nat.le_of_ble_eq_true rfl⟩ rfl rfl (Nat.le_of_ble_eq_true rfl) dL_law_807 (c1 := cells + 1) (s1 := slots + 6) rfl rfl ⟨by omega, by omega⟩ (fun r v H locs hp hG => ?_)
      rcases v with ⟨u1, u2, u3⟩ | _
      · obtain ⟨i9, j9, hi9, hj9, e9, f9, hQ9, eu1, eu2, eu3, er⟩ := hp
        obtain rfl : i0 = i9 := (nI_eq (by omega) (by omega)).mp e9
        obtain rfl : j0 = j9 := (nI_eq (by omega) (by omega)).mp f9
        try dsimp only at eu1 eu2 eu3
        subst eu1 eu2 eu3
        have hG : cC g ((cNet g h N tk dom gr va dr off rt (cnt - 1) (upd (upd lk (i0 * 10 + j0) 0) (j0 * 10 + i0) 0) dl td (kfp gr va (kfp gr va K i0 j0) j0 i0) E ds) ++ (lNet g ka (upd nn 1 (nI (C1 - 1))) aa (upd (upd ll i0 ((ll i0) &&& (((nI 1) <<< ((nI j0) &&& 31)) ^^^ (-1 : Int32)))) j0 (((upd ll i0 ((ll i0) &&& (((nI 1) <<< ((nI j0) &&& 31)) ^^^ (-1 : Int32)))) j0) &&& (((nI 1) <<< ((nI i0) &&& 31)) ^^^ (-1 : Int32)))) yy tt (vp_updL (vp_updL kk i0 (lN (r1 * 110 + s1 * 11 + q1))) j0 (lN (rkn gr va j0 * 110))) oo)) A s H locs := hG
        refine q_ren (er.trans (show cnt - 1 = nI (C1 - 1) by rw [hC2]; exact pk_sub (a := C1) (b := 1) h1C)) ?_
        refine lv_iload hx hb dL_law_810 (lv_at hl 0 rfl) ?_
        refine lv_icmp_ne (tgt := 819) hx hb dL_law_812 (by decide) (fun c9 => absurd rfl c9) (fun _ => ?_)
        refine lv_iconst (v := nI 1) hx hb dL_law_815 (by decide) ?_
        refine lv_goto (tgt := 820) hx hb dL_law_816 (by decide) ?_
        refine lv_istore (lv' := [(9, .int (nI 1)), (17, .int (nI (C1 - 1))), (0, .ref b), (1, .ref (h 0)), (2, .ref (ka 0)), (3, .ref (ka 1)), (4, .ref (ka 2)), (5, .ref (ka 3)), (6, .ref (ka 4)), (7, .ref (ka 5)), (8, .ref (ka 6)), (10, .int (nI tn)), (13, .int (nI z)), (14, .int (nI i0)), (15, .int (nI j0)), (16, .int (nI 1))]) hx hb dL_law_820 hl (by decide) rfl (fun ls hl => ?_)
        refine lv_goto (tgt := 1260) hx hb dL_law_822 (by decide) ?_
        refine W.widen (k := cells + 60) (n := slots + 600) (by omega) (by omega) ?_
        exact kont _ _ _ ⟨_, _, _, _, _, _, _, _, _, _, _, _, _, _, _, _, _, _, _, _, _, _, hG, JV_cut V (by omega) (by omega) hne hal hC2 hC1 h1C (Or.inr ⟨fun h9 => c_750 (a18.symm.trans h9), a19.symm⟩) (Or.inl ⟨a28.trans c_782, rfl⟩), hN0⟩ (lv_sub hl [2, 3, 4, 5, 6, 7, 8, 9, 10, 0, 11, 12] rfl)
      · obtain ⟨er, hl9⟩ := hp
        exact absurd ((lkd_n (by omega) (by omega)).mpr hal) hl9
  · refine lv_aload_n hx hb dL_law_753 rfl (lv_at hl 4 rfl) ?_
    refine lv_iload hx hb dL_law_754 (lv_at hl 13 rfl) ?_
    refine q_fSl (FR.r (cNet g h N tk dom gr va dr off rt cnt lk dl td K E ds)) (n := 2) (As := [.ref (ka 1), .int (nI i0)]) (rest := [.int (nI i0), .ref (ka 5)]) hM hl.1 hG (c_L_own l g ka (upd nn 1 (nI (C1 - 1))) aa (upd (upd ll i0 ((ll i0) &&& (((nI 1) <<< ((nI j0) &&& 31)) ^^^ (-1 : Int32)))) j0 (((upd ll i0 ((ll i0) &&& (((nI 1) <<< ((nI j0) &&& 31)) ^^^ (-1 : Int32)))) j0) &&& (((nI 1) <<< ((nI i0) &&& 31)) ^^^ (-1 : Int32)))) yy tt kk oo N dom gr va dr i0 hi hN hA hg) rfl gL_law_L_own (by decide +kernel) ⟨Nat.le_of_ble_eq_true rfl, Nat.le_of_ble_eq_true rfl⟩ rfl rfl (Nat.le_of_ble_eq_true rfl) dL_law_756 (c1 := cells) (s1 := slots) rfl rfl ⟨by omega, by omega⟩ (fun r_756 u_756 H locs hp_756 hG => ?_)
    have hG : cC g ((cNet g h N tk dom gr va dr off rt cnt lk dl td K E ds) ++ (lNet g ka (upd nn 1 (nI (C1 - 1))) aa (upd (upd ll i0 ((ll i0) &&& (((nI 1) <<< ((nI j0) &&& 31)) ^^^ (-1 : Int32)))) j0 (((upd ll i0 ((ll i0) &&& (((nI 1) <<< ((nI j0) &&& 31)) ^^^ (-1 : Int32)))) j0) &&& (((nI 1) <<< ((nI i0) &&& 31)) ^^^ (-1 : Int32)))) yy tt kk oo)) A s H locs := hG
    subst hp_756
    refine lv_goto (tgt := 767) hx hb dL_law_759 (by decide) ?_
    refine q_last hM hG 27 (i := i0) rfl (by omega) (by decide) (ws1 := ((cNet g h N tk dom gr va dr off rt cnt lk dl td K E ds) ++ (lNet g ka (upd nn 1 (nI (C1 - 1))) aa (upd (upd ll i0 ((ll i0) &&& (((nI 1) <<< ((nI j0) &&& 31)) ^^^ (-1 : Int32)))) j0 (((upd ll i0 ((ll i0) &&& (((nI 1) <<< ((nI j0) &&& 31)) ^^^ (-1 : Int32)))) j0) &&& (((nI 1) <<< ((nI i0) &&& 31)) ^^^ (-1 : Int32)))) yy tt (vp_updL kk i0 (lN (rkn gr va i0 * 110))) oo))) rfl dL_law_767 (fun H locs hG => ?_)
    refine lv_aload hx hb dL_law_768 (lv_at hl 8 rfl) ?_
    refine lv_iload hx hb dL_law_770 (lv_at hl 14 rfl) ?_
    refine lv_aload hx hb dL_law_772 (lv_at hl 8 rfl) ?_
    refine lv_iload hx hb dL_law_774 (lv_at hl 14 rfl) ?_
    refine q_lald hM hG 27 (i := j0) rfl (by omega) (by decide) dL_law_776 ?_
    refine q_renl ((pk_uLn (fun h9 => hne h9.symm)).trans a29) ?_
    refine q_fSi (FR.n ((cNet g h N tk dom gr va dr off rt cnt lk dl td K E ds) ++ (lNet g ka (upd nn 1 (nI (C1 - 1))) aa (upd (upd ll i0 ((ll i0) &&& (((nI 1) <<< ((nI j0) &&& 31)) ^^^ (-1 : Int32)))) j0 (((upd ll i0 ((ll i0) &&& (((nI 1) <<< ((nI j0) &&& 31)) ^^^ (-1 : Int32)))) j0) &&& (((nI 1) <<< ((nI i0) &&& 31)) ^^^ (-1 : Int32)))) yy tt (vp_updL kk i0 (lN (rkn gr va i0 * 110))) oo))) (n := 1) (As := [.long (lN (r2 * 110 + s2 * 11 + q2))]) (rest := [.int (nI j0), .ref (ka 5)]) hM hl.1 hG (c_L_parent l g  (r2 * 110 + s2 * 11 + q2) (by omega) ) rfl gL_law_L_parent (by decide +kernel) ⟨Nat.le_of_ble_eq_true rfl, Nat.le_of_ble_eq_true rfl⟩ rfl rfl (Nat.le_of_ble_eq_true rfl) dL_law_777 (c1 := cells) (s1 := slots) rfl rfl ⟨by omega, by omega⟩ (fun r_777 u_777 H locs hp_777 hG => ?_)
    have hG : cC g ((cNet g h N tk dom gr va dr off rt cnt lk dl td K E ds) ++ (lNet g ka (upd nn 1 (nI (C1 - 1))) aa (upd (upd ll i0 ((ll i0) &&& (((nI 1) <<< ((nI j0) &&& 31)) ^^^ (-1 : Int32)))) j0 (((upd ll i0 ((ll i0) &&& (((nI 1) <<< ((nI j0) &&& 31)) ^^^ (-1 : Int32)))) j0) &&& (((nI 1) <<< ((nI i0) &&& 31)) ^^^ (-1 : Int32)))) yy tt (vp_updL kk i0 (lN (rkn gr va i0 * 110))) oo)) A s H locs := hG
    subst hp_777
    refine q_ren (show nI ((r2 * 110 + s2 * 11 + q2) % 11) - 1 = (nI q2 - 1) from by rw [show (r2 * 110 + s2 * 11 + q2) % 11 = q2 by omega]) ?_
    refine lv_iload hx hb dL_law_780 (lv_at hl 13 rfl) ?_
    refine lv_icmp_ne (tgt := 794) hx hb dL_law_782 (by decide) (fun c_782 => ?_) (fun c_782 => ?_)
    · refine lv_aload hx hb dL_law_794 (lv_at hl 8 rfl) ?_
      refine lv_iload hx hb dL_law_796 (lv_at hl 14 rfl) ?_
      refine q_lald hM hG 27 (i := j0) rfl (by omega) (by decide) dL_law_798 ?_
      refine q_renl ((pk_uLn (fun h9 => hne h9.symm)).trans a29) ?_
      refine q_last hM hG 27 (i := j0) rfl (by omega) (by decide) (ws1 := ((cNet g h N tk dom gr va dr off rt cnt lk dl td K E ds) ++ (lNet g ka (upd nn 1 (nI (C1 - 1))) aa (upd (upd ll i0 ((ll i0) &&& (((nI 1) <<< ((nI j0) &&& 31)) ^^^ (-1 : Int32)))) j0 (((upd ll i0 ((ll i0) &&& (((nI 1) <<< ((nI j0) &&& 31)) ^^^ (-1 : Int32)))) j0) &&& (((nI 1) <<< ((nI i0) &&& 31)) ^^^ (-1 : Int32)))) yy tt (vp_updL (vp_updL kk i0 (lN (rkn gr va i0 * 110))) j0 (lN (r2 * 110 + s2 * 11 + q2))) oo))) rfl dL_law_799 (fun H locs hG => ?_)
      refine lv_aload_n hx hb dL_law_800 rfl (lv_at hl 2 rfl) ?_
      refine lv_iconst (v := nI 0) hx hb dL_law_801 (by decide) ?_
      refine lv_iload hx hb dL_law_802 (lv_at hl 13 rfl) ?_
      refine lv_iload hx hb dL_law_804 (lv_at hl 14 rfl) ?_
      refine lv_iconst (v := nI 0) hx hb dL_law_806 (by decide) ?_
      refine q_fWi (FR.l (lNet g ka (upd nn 1 (nI (C1 - 1))) aa (upd (upd ll i0 ((ll i0) &&& (((nI 1) <<< ((nI j0) &&& 31)) ^^^ (-1 : Int32)))) j0 (((upd ll i0 ((ll i0) &&& (((nI 1) <<< ((nI j0) &&& 31)) ^^^ (-1 : Int32)))) j0) &&& (((nI 1) <<< ((nI i0) &&& 31)) ^^^ (-1 : Int32)))) yy tt (vp_updL (vp_updL kk i0 (lN (rkn gr va i0 * 110))) j0 (lN (r2 * 110 + s2 * 11 + q2))) oo)) (n := 5) (As := [.ref (h 0), .int (nI 0), .int (nI i0), .int (nI j0), .int (nI 0)]) (rest := []) hM hl.1 hG (w_cut l hl0 g h N tk dom gr va dr off rt cnt lk dl td K E ds i0 j0 hi hj hN hlk) rfl gL_law_L_does (by decide +kernel) ⟨Nat.le_of_ble_eq_true rfl, Nat.le_of_ble_eq_true rfl⟩ rfl rfl (Nat.le_of_ble_eq_true rfl) dL_law_807 (c1 := cells + 1) (s1 := slots + 6) rfl rfl ⟨by omega, by omega⟩ (fun r v H locs hp hG => ?_)
      rcases v with ⟨u1, u2, u3⟩ | _
      · obtain ⟨i9, j9, hi9, hj9, e9, f9, hQ9, eu1, eu2, eu3, er⟩ := hp
        obtain rfl : i0 = i9 := (nI_eq (by omega) (by omega)).mp e9
        obtain rfl : j0 = j9 := (nI_eq (by omega) (by omega)).mp f9
        try dsimp only at eu1 eu2 eu3
        subst eu1 eu2 eu3
        have hG : cC g ((cNet g h N tk dom gr va dr off rt (cnt - 1) (upd (upd lk (i0 * 10 + j0) 0) (j0 * 10 + i0) 0) dl td (kfp gr va (kfp gr va K i0 j0) j0 i0) E ds) ++ (lNet g ka (upd nn 1 (nI (C1 - 1))) aa (upd (upd ll i0 ((ll i0) &&& (((nI 1) <<< ((nI j0) &&& 31)) ^^^ (-1 : Int32)))) j0 (((upd ll i0 ((ll i0) &&& (((nI 1) <<< ((nI j0) &&& 31)) ^^^ (-1 : Int32)))) j0) &&& (((nI 1) <<< ((nI i0) &&& 31)) ^^^ (-1 : Int32)))) yy tt (vp_updL (vp_updL kk i0 (lN (rkn gr va i0 * 110))) j0 (lN (r2 * 110 + s2 * 11 + q2))) oo)) A s H locs := hG
        refine q_ren (er.trans (show cnt - 1 = nI (C1 - 1) by rw [hC2]; exact pk_sub (a := C1) (b := 1) h1C)) ?_
        refine lv_iload hx hb dL_law_810 (lv_at hl 0 rfl) ?_
        refine lv_icmp_ne (tgt := 819) hx hb dL_law_812 (by decide) (fun c9 => absurd rfl c9) (fun _ => ?_)
        refine lv_iconst (v := nI 1) hx hb dL_law_815 (by decide) ?_
        refine lv_goto (tgt := 820) hx hb dL_law_816 (by decide) ?_
        refine lv_istore (lv' := [(9, .int (nI 1)), (17, .int (nI (C1 - 1))), (0, .ref b), (1, .ref (h 0)), (2, .ref (ka 0)), (3, .ref (ka 1)), (4, .ref (ka 2)), (5, .ref (ka 3)), (6, .ref (ka 4)), (7, .ref (ka 5)), (8, .ref (ka 6)), (10, .int (nI tn)), (13, .int (nI z)), (14, .int (nI i0)), (15, .int (nI j0)), (16, .int (nI 1))]) hx hb dL_law_820 hl (by decide) rfl (fun ls hl => ?_)
        refine lv_goto (tgt := 1260) hx hb dL_law_822 (by decide) ?_
        refine W.widen (k := cells + 60) (n := slots + 600) (by omega) (by omega) ?_
        exact kont _ _ _ ⟨_, _, _, _, _, _, _, _, _, _, _, _, _, _, _, _, _, _, _, _, _, _, hG, JV_cut V (by omega) (by omega) hne hal hC2 hC1 h1C (Or.inl ⟨a18.trans c_750, rfl⟩) (Or.inr ⟨fun h9 => c_782 (a28.symm.trans h9), a29.symm⟩), hN0⟩ (lv_sub hl [2, 3, 4, 5, 6, 7, 8, 9, 10, 0, 11, 12] rfl)
      · obtain ⟨er, hl9⟩ := hp
        exact absurd ((lkd_n (by omega) (by omega)).mpr hal) hl9
    · refine lv_aload_n hx hb dL_law_785 rfl (lv_at hl 4 rfl) ?_
      refine lv_iload hx hb dL_law_786 (lv_at hl 14 rfl) ?_
      refine q_fSl (FR.r (cNet g h N tk dom gr va dr off rt cnt lk dl td K E ds)) (n := 2) (As := [.ref (ka 1), .int (nI j0)]) (rest := [.int (nI j0), .ref (ka 5)]) hM hl.1 hG (c_L_own l g ka (upd nn 1 (nI (C1 - 1))) aa (upd (upd ll i0 ((ll i0) &&& (((nI 1) <<< ((nI j0) &&& 31)) ^^^ (-1 : Int32)))) j0 (((upd ll i0 ((ll i0) &&& (((nI 1) <<< ((nI j0) &&& 31)) ^^^ (-1 : Int32)))) j0) &&& (((nI 1) <<< ((nI i0) &&& 31)) ^^^ (-1 : Int32)))) yy tt (vp_updL kk i0 (lN (rkn gr va i0 * 110))) oo N dom gr va dr j0 hj hN hA hg) rfl gL_law_L_own (by decide +kernel) ⟨Nat.le_of_ble_eq_true rfl, Nat.le_of_ble_eq_true rfl⟩ rfl rfl (Nat.le_of_ble_eq_true rfl) dL_law_788 (c1 := cells) (s1 := slots) rfl rfl ⟨by omega, by omega⟩ (fun r_788 u_788 H locs hp_788 hG => ?_)
      have hG : cC g ((cNet g h N tk dom gr va dr off rt cnt lk dl td K E ds) ++ (lNet g ka (upd nn 1 (nI (C1 - 1))) aa (upd (upd ll i0 ((ll i0) &&& (((nI 1) <<< ((nI j0) &&& 31)) ^^^ (-1 : Int32)))) j0 (((upd ll i0 ((ll i0) &&& (((nI 1) <<< ((nI j0) &&& 31)) ^^^ (-1 : Int32)))) j0) &&& (((nI 1) <<< ((nI i0) &&& 31)) ^^^ (-1 : Int32)))) yy tt (vp_updL kk i0 (lN (rkn gr va i0 * 110))) oo)) A s H locs := hG
      subst hp_788
      refine lv_goto (tgt := 799) hx hb dL_law_791 (by decide) ?_
      refine q_last hM hG 27 (i := j0) rfl (by omega) (by decide) (ws1 := ((cNet g h N tk dom gr va dr off rt cnt lk dl td K E ds) ++ (lNet g ka (upd nn 1 (nI (C1 - 1))) aa (upd (upd ll i0 ((ll i0) &&& (((nI 1) <<< ((nI j0) &&& 31)) ^^^ (-1 : Int32)))) j0 (((upd ll i0 ((ll i0) &&& (((nI 1) <<< ((nI j0) &&& 31)) ^^^ (-1 : Int32)))) j0) &&& (((nI 1) <<< ((nI i0) &&& 31)) ^^^ (-1 : Int32)))) yy tt (vp_updL (vp_updL kk i0 (lN (rkn gr va i0 * 110))) j0 (lN (rkn gr va j0 * 110))) oo))) rfl dL_law_799 (fun H locs hG => ?_)
      refine lv_aload_n hx hb dL_law_800 rfl (lv_at hl 2 rfl) ?_
      refine lv_iconst (v := nI 0) hx hb dL_law_801 (by decide) ?_
      refine lv_iload hx hb dL_law_802 (lv_at hl 13 rfl) ?_
      refine lv_iload hx hb dL_law_804 (lv_at hl 14 rfl) ?_
      refine lv_iconst (v := nI 0) hx hb dL_law_806 (by decide) ?_
      refine q_fWi (FR.l (lNet g ka (upd nn 1 (nI (C1 - 1))) aa (upd (upd ll i0 ((ll i0) &&& (((nI 1) <<< ((nI j0) &&& 31)) ^^^ (-1 : Int32)))) j0 (((upd ll i0 ((ll i0) &&& (((nI 1) <<< ((nI j0) &&& 31)) ^^^ (-1 : Int32)))) j0) &&& (((nI 1) <<< ((nI i0) &&& 31)) ^^^ (-1 : Int32)))) yy tt (vp_updL (vp_updL kk i0 (lN (rkn gr va i0 * 110))) j0 (lN (rkn gr va j0 * 110))) oo)) (n := 5) (As := [.ref (h 0), .int (nI 0), .int (nI i0), .int (nI j0), .int (nI 0)]) (rest := []) hM hl.1 hG (w_cut l hl0 g h N tk dom gr va dr off rt cnt lk dl td K E ds i0 j0 hi hj hN hlk) rfl gL_law_L_does (by decide +kernel) ⟨Nat.le_of_ble_eq_true rfl, Nat.le_of_ble_eq_true rfl⟩ rfl rfl (Nat.le_of_ble_eq_true rfl) dL_law_807 (c1 := cells + 1) (s1 := slots + 6) rfl rfl ⟨by omega, by omega⟩ (fun r v H locs hp hG => ?_)
      rcases v with ⟨u1, u2, u3⟩ | _
      · obtain ⟨i9, j9, hi9, hj9, e9, f9, hQ9, eu1, eu2, eu3, er⟩ := hp
        obtain rfl : i0 = i9 := (nI_eq (by omega) (by omega)).mp e9
        obtain rfl : j0 = j9 := (nI_eq (by omega) (by omega)).mp f9
        try dsimp only at eu1 eu2 eu3
        subst eu1 eu2 eu3
        have hG : cC g ((cNet g h N tk dom gr va dr off rt (cnt - 1) (upd (upd lk (i0 * 10 + j0) 0) (j0 * 10 + i0) 0) dl td (kfp gr va (kfp gr va K i0 j0) j0 i0) E ds) ++ (lNet g ka (upd nn 1 (nI (C1 - 1))) aa (upd (upd ll i0 ((ll i0) &&& (((nI 1) <<< ((nI j0) &&& 31)) ^^^ (-1 : Int32)))) j0 (((upd ll i0 ((ll i0) &&& (((nI 1) <<< ((nI j0) &&& 31)) ^^^ (-1 : Int32)))) j0) &&& (((nI 1) <<< ((nI i0) &&& 31)) ^^^ (-1 : Int32)))) yy tt (vp_updL (vp_updL kk i0 (lN (rkn gr va i0 * 110))) j0 (lN (rkn gr va j0 * 110))) oo)) A s H locs := hG
        refine q_ren (er.trans (show cnt - 1 = nI (C1 - 1) by rw [hC2]; exact pk_sub (a := C1) (b := 1) h1C)) ?_
        refine lv_iload hx hb dL_law_810 (lv_at hl 0 rfl) ?_
        refine lv_icmp_ne (tgt := 819) hx hb dL_law_812 (by decide) (fun c9 => absurd rfl c9) (fun _ => ?_)
        refine lv_iconst (v := nI 1) hx hb dL_law_815 (by decide) ?_
        refine lv_goto (tgt := 820) hx hb dL_law_816 (by decide) ?_
        refine lv_istore (lv' := [(9, .int (nI 1)), (17, .int (nI (C1 - 1))), (0, .ref b), (1, .ref (h 0)), (2, .ref (ka 0)), (3, .ref (ka 1)), (4, .ref (ka 2)), (5, .ref (ka 3)), (6, .ref (ka 4)), (7, .ref (ka 5)), (8, .ref (ka 6)), (10, .int (nI tn)), (13, .int (nI z)), (14, .int (nI i0)), (15, .int (nI j0)), (16, .int (nI 1))]) hx hb dL_law_820 hl (by decide) rfl (fun ls hl => ?_)
        refine lv_goto (tgt := 1260) hx hb dL_law_822 (by decide) ?_
        refine W.widen (k := cells + 60) (n := slots + 600) (by omega) (by omega) ?_
        exact kont _ _ _ ⟨_, _, _, _, _, _, _, _, _, _, _, _, _, _, _, _, _, _, _, _, _, _, hG, JV_cut V (by omega) (by omega) hne hal hC2 hC1 h1C (Or.inl ⟨a18.trans c_750, rfl⟩) (Or.inl ⟨a28.trans c_782, rfl⟩), hN0⟩ (lv_sub hl [2, 3, 4, 5, 6, 7, 8, 9, 10, 0, 11, 12] rfl)
      · obtain ⟨er, hl9⟩ := hp
        exact absurd ((lkd_n (by omega) (by omega)).mpr hal) hl9

set_option maxHeartbeats 4000000 in
set_option maxRecDepth 100000 in
theorem lc_cut0 {p : Program} {e : Env} {s : State} {m : MethodId} {below : List Frame} {meth : Method} {c : Code} (l : Launch) (hl0 : l.stackTraces = false) {b L : Nat} {xs : Nat → Int32} (C0 : lw_At p s m meth c b L xs) {g : EN} {h ka : Nat → Nat} {A : Nat → Prop} {N : Nat} {tk : Int32} {dom : Nat → Int32} {gr : Nat → Int32} {va : Nat → Int32} {dr : Nat → Int32} {off : Nat → Int64} {rt : Nat → Int64} {cnt : Int32} {lk : Nat → Int32} {dl : Nat → Int32} {td : Nat → Int32} {K : KT} {E : KT} {ds : Nat → Int32} {nn : Nat → Int32} {aa : Nat → Int32} {ll : Nat → Int32} {yy : Nat → Int64} {tt : Nat → Int32} {kk : Nat → Int64} {oo : Nat → Int64} {H : Heap} {locs : List Loc} {cells slots : Nat} (hroom : cells + 60 ≤ room_1.cells ∧ slots + 600 ≤ room_1.slots) (hG : cC g ((cNet g h N tk dom gr va dr off rt cnt lk dl td K E ds) ++ (lNet g ka nn aa ll yy tt kk oo)) A s H locs) (V : JV N tk dom gr va dr off rt cnt lk dl td K nn aa ll yy tt kk oo) {tn z : Nat} (hz : z < 2 ^ 27) {i0 j0 : Nat} (hi : i0 < N) (hj : j0 < N) (hN0 : 0 < N) (hal : ¬ lk (i0 * 10 + j0) = 1) {Q : State → Prop} {ls : Array Slot} (hl : lv_has ls 20 [(0, .ref b), (1, .ref (h 0)), (2, .ref (ka 0)), (3, .ref (ka 1)), (4, .ref (ka 2)), (5, .ref (ka 3)), (6, .ref (ka 4)), (7, .ref (ka 5)), (8, .ref (ka 6)), (9, .int (nI 1)), (10, .int (nI tn)), (13, .int (nI z)), (14, .int (nI i0)), (15, .int (nI j0)), (16, .int (nI 0))])
    (kont : ∀ (H1 : Heap) (locs1 : List Loc) (ls1 : Array Slot), JI g h ka A s H1 locs1 → lv_has ls1 20 [(0, .ref b), (1, .ref (h 0)), (2, .ref (ka 0)), (3, .ref (ka 1)), (4, .ref (ka 2)), (5, .ref (ka 3)), (6, .ref (ka 4)), (7, .ref (ka 5)), (8, .ref (ka 6)), (9, .int (nI 1)), (10, .int (nI tn)), (13, .int (nI z))] → W p l e room_1 s m #[Value.ref b] below meth c H1 locs1 (cells + 60) (slots + 600) Q (F0 m 1260 ls1 [])) : W p l e room_1 s m #[Value.ref b] below meth c H locs cells slots Q (F0 m 679 ls []) := by
  obtain ⟨hx, hb, hr, hml, hown, hts0, hX, hbl, hlocks, hgv⟩ := C0
  have hM : CallFix p m c cL_law 20 s #[Value.ref b] wsL_law RL := ⟨hx, hb, hml, hown, fun w h => hts0 w (wsL_law_in w h)⟩
  have hts := hM.2.2.2.2
  obtain ⟨hN, hg, hlk, hself, hsy, hn0, hn1, hn2, hA, hB, hY, hT, hK, hO, C1, hC1, hC2, hC3⟩ := id V
  refine lv_iload hx hb dL_law_679 (lv_at hl 14 rfl) ?_
  refine lv_if_eq (tgt := 692) hx hb dL_law_681 (by decide) (fun _ => ?_) (fun c9 => False.elim (by revert c9; decide))
  refine lv_ldc (v := (-2000000013)) hx hb hown (hts (.constant RL 75 (-2000000013)) (by decide +kernel)) dL_law_692 ?_
  refine lv_istore (lv' := [(17, .int (-2000000013 : Int32)), (0, .ref b), (1, .ref (h 0)), (2, .ref (ka 0)), (3, .ref (ka 1)), (4, .ref (ka 2)), (5, .ref (ka 3)), (6, .ref (ka 4)), (7, .ref (ka 5)), (8, .ref (ka 6)), (9, .int (nI 1)), (10, .int (nI tn)), (13, .int (nI z)), (14, .int (nI i0)), (15, .int (nI j0)), (16, .int (nI 0))]) hx hb dL_law_694 hl (by decide) rfl (fun ls hl => ?_)
  refine lv_iload hx hb dL_law_696 (lv_at hl 15 rfl) ?_
  refine lv_if_eq (tgt := 800) hx hb dL_law_698 (by decide) (fun _ => ?_) (fun c9 => False.elim (by revert c9; decide))
  refine lv_aload_n hx hb dL_law_800 rfl (lv_at hl 2 rfl) ?_
  refine lv_iconst (v := nI 0) hx hb dL_law_801 (by decide) ?_
  refine lv_iload hx hb dL_law_802 (lv_at hl 13 rfl) ?_
  refine lv_iload hx hb dL_law_804 (lv_at hl 14 rfl) ?_
  refine lv_iconst (v := nI 0) hx hb dL_law_806 (by decide) ?_
  refine q_fWi (FR.l (lNet g ka nn aa ll yy tt kk oo)) (n := 5) (As := [.ref (h 0), .int (nI 0), .int (nI i0), .int (nI j0), .int (nI 0)]) (rest := []) hM hl.1 hG (w_cut l hl0 g h N tk dom gr va dr off rt cnt lk dl td K E ds i0 j0 hi hj hN hlk) rfl gL_law_L_does (by decide +kernel) ⟨Nat.le_of_ble_eq_true rfl, Nat.le_of_ble_eq_true rfl⟩ rfl rfl (Nat.le_of_ble_eq_true rfl) dL_law_807 (c1 := cells + 1) (s1 := slots + 6) rfl rfl ⟨by omega, by omega⟩ (fun r v H locs hp hG => ?_)
  rcases v with ⟨u1, u2, u3⟩ | _
  · obtain ⟨i9, j9, hi9, hj9, e9, f9, hQ9, eu1, eu2, eu3, er⟩ := hp
    exact absurd ((lkd_n (by omega) (by omega)).mp hQ9) hal
  · obtain ⟨er, hl9⟩ := hp
    have hG : cC g ((cNet g h N tk dom gr va dr off rt cnt lk dl td K E ds) ++ (lNet g ka nn aa ll yy tt kk oo)) A s H locs := hG
    refine q_ren er ?_
    refine lv_iload hx hb dL_law_810 (lv_at hl 0 rfl) ?_
    refine lv_icmp_ne (tgt := 819) hx hb dL_law_812 (by decide) (fun c9 => False.elim (by revert c9; decide)) (fun _ => ?_)
    refine lv_iconst (v := nI 1) hx hb dL_law_815 (by decide) ?_
    refine lv_goto (tgt := 820) hx hb dL_law_816 (by decide) ?_
    refine lv_istore (lv' := [(9, .int (nI 1)), (17, .int (-2000000013 : Int32)), (0, .ref b), (1, .ref (h 0)), (2, .ref (ka 0)), (3, .ref (ka 1)), (4, .ref (ka 2)), (5, .ref (ka 3)), (6, .ref (ka 4)), (7, .ref (ka 5)), (8, .ref (ka 6)), (10, .int (nI tn)), (13, .int (nI z)), (14, .int (nI i0)), (15, .int (nI j0)), (16, .int (nI 0))]) hx hb dL_law_820 hl (by decide) rfl (fun ls hl => ?_)
    refine lv_goto (tgt := 1260) hx hb dL_law_822 (by decide) ?_
    refine W.widen (k := cells + 60) (n := slots + 600) (by omega) (by omega) ?_
    exact kont _ _ _ ⟨_, _, _, _, _, _, _, _, _, _, _, _, _, _, _, _, _, _, _, _, _, _, hG, V, hN0⟩ (lv_sub hl [2, 3, 4, 5, 6, 7, 8, 9, 10, 0, 11, 12] rfl)
