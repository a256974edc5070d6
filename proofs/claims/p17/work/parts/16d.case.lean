set_option maxHeartbeats 4000000 in
set_option maxRecDepth 100000 in
theorem lc_15 {p : Program} {e : Env} {s : State} {m : MethodId} {below : List Frame} {meth : Method} {c : Code} (l : Launch) (hl0 : l.stackTraces = false) {b L : Nat} {xs : Nat → Int32} (hL30 : L < 2 ^ 30) (C0 : lw_At p s m meth c b L xs) {z : Prop} {g : EN} {hc hm : Nat → Nat} {o : Nat} {A : Nat → Prop} (hbA : ¬ A b) {i : Nat} (hi : i + 5 ≤ L) {H : Heap} {locs : List Loc} {cells slots : Nat} (hroom : cells + 2 ≤ room_1.cells ∧ slots + 16 ≤ room_1.slots) (hI : LI z g hc hm o A s H locs) {Q : State → Prop} {ls : Array Slot} (hl : lv_has ls 8 [(0, .ref b), (1, .ref (hc 0)), (2, .ref (hm 0)), (3, .ref o), (4, .int (nI i))])
    (kk : ∀ (H1 : Heap) (locs1 : List Loc) (ls1 : Array Slot), LI False g hc hm o A s H1 locs1 → lv_has ls1 8 [(0, .ref b), (1, .ref (hc 0)), (2, .ref (hm 0)), (3, .ref o), (4, .int (nI i))] → W p l e room_1 s m #[Value.ref b] below meth c H1 locs1 (cells + 1) (slots + 6) Q (F0 m 843 ls1 [])) : W p l e room_1 s m #[Value.ref b] below meth c H locs cells slots Q (F0 m 690 ls []) := by
  obtain ⟨hx, hb, hr, hml, hown, hts, hX, hbl, hlocks, hgv⟩ := C0
  have hM : CallFix p m c cL_law 8 s #[Value.ref b] wsL_law RL := ⟨hx, hb, hml, hown, fun w h => hts w (wsL_law_in w h)⟩
  obtain ⟨N, tk, dom, gr, va, dr, off, rt, cnt, lk, dl, td, K, E, ds, M, X, dm, thr, f, hG, ⟨hN, hg, hlk, hsy, hR⟩, hz0⟩ := hI
  refine lv_aload_n hx hb dL_law_690 rfl (lv_at hl 1 rfl) ?_
  refine lv_aload_n hx hb dL_law_691 rfl (lv_at hl 0 rfl) ?_
  refine lv_iload hx hb dL_law_692 (lv_at hl 4 rfl) ?_
  refine lv_iconst (v := 1) hx hb dL_law_694 (by decide) ?_
  refine lv_iadd hx hb dL_law_695 ?_
  refine q_ren (nI_add i 1) ?_
  refine q_sld hM hG hX hbl hbA (by omega) hL30 dL_law_696 ?_
  refine lv_aload_n hx hb dL_law_697 rfl (lv_at hl 3 rfl) ?_
  refine q_callW (n := 3) (As := [.ref (hc 0), .int (xs (i + 1)), .ref o]) (rest := []) hM hl.1 hG (w_stepsByGraph l hl0 g hc o f N tk dom gr va dr off rt cnt lk dl td K E ds (xs (i + 1)) hN hlk hg) rfl gL_law_L_stepsByGraph (by decide +kernel) ⟨Nat.le_of_ble_eq_true rfl, Nat.le_of_ble_eq_true rfl⟩ rfl rfl (Nat.le_of_ble_eq_true rfl) dL_law_698 (c1 := cells + 1) (s1 := slots + 6) rfl rfl ⟨by omega, by omega⟩ (fun r v H locs hp hG => ?_)
  rcases v with ⟨u1, f1⟩ | _
  · obtain ⟨rfl, r0, hc0, hf⟩ := hp
    dsimp only at hc0 hf
    obtain ⟨i0, hi0, hx0, w0, d0, hbb, hr0⟩ := hc0
    have hG : cC g ((oNet g o f1 ++ (cNet g hc N tk dom gr va dr off rt cnt lk dl td K E u1)) ++ (mNet g hm N tk dom gr va dr off rt cnt lk dl td M X dm thr)) A s H locs := hG
    refine lv_istore (lv' := [(5, .int 0), (0, .ref b), (1, .ref (hc 0)), (2, .ref (hm 0)), (3, .ref o), (4, .int (nI i))]) hx hb dL_law_701 hl (by decide) rfl (fun ls hl => ?_)
    refine lv_aload_n hx hb dL_law_703 rfl (lv_at hl 3 rfl) ?_
    refine lv_aload_n hx hb dL_law_704 rfl (lv_at hl 1 rfl) ?_
    refine lv_iload hx hb dL_law_705 (lv_at hl 5 rfl) ?_
    refine lv_iconst (v := 1) hx hb dL_law_707 (by decide) ?_
    refine lv_iadd hx hb dL_law_708 ?_
    refine q_ren (nI_add i 1) ?_
    refine q_sld hM hG hX hbl hbA (by omega) hL30 dL_law_709 ?_
    refine q_callMi (n := 1) (As := [.int (xs (i + 1))]) (rest := []) hM hl.1 hG (c_X3_stepsByGraph l g hm N tk dom gr va dr off rt cnt lk dl td M X dm thr (xs (i + 1)) hN hlk hsy hg) rfl gL_law_X3_stepsByGraph (by decide +kernel) ⟨Nat.le_of_ble_eq_true rfl, Nat.le_of_ble_eq_true rfl⟩ 0 rfl rfl rfl rfl rfl (Nat.le_of_ble_eq_true rfl) dL_law_710 (c1 := cells + 1) (s1 := slots + 6) rfl rfl ⟨by omega, by omega⟩ (fun rb u2 H locs hp2 hG => ?_)
    obtain ⟨t, m1⟩ := u2
    dsimp only at hp2
    obtain rfl : t = 0 := cd1.ok hp2.1 ⟨i0, hi0, hx0⟩
    obtain ⟨i1, hi1, hx1, w1, d1, hb1, hrb⟩ := hp2.2 rfl
    obtain rfl : i0 = i1 := (nI_eq (by omega) (by omega)).mp (hx0.symm.trans hx1)
    have huq := bestBy_uniq hN hg hbb hb1
    have hG : cC g ((oNet g o f1 ++ (cNet g hc N tk dom gr va dr off rt cnt lk dl td K E u1)) ++ (mNet g hm N tk dom gr va dr off rt cnt lk dl td M X m1 0)) A s H locs := hG
    refine lv_istore (lv' := [(6, .int rb), (5, .int 0), (0, .ref b), (1, .ref (hc 0)), (2, .ref (hm 0)), (3, .ref o), (4, .int (nI i))]) hx hb dL_law_713 hl (by decide) rfl (fun ls hl => ?_)
    refine lv_aload_n hx hb dL_law_715 rfl (lv_at hl 4 rfl) ?_
    refine q_callMi (n := 0) (As := []) (rest := []) hM hl.1 hG (c_X3_thrown l g hm N tk dom gr va dr off rt cnt lk dl td M X m1 0) rfl gL_law_X3_thrown (by decide +kernel) ⟨Nat.le_of_ble_eq_true rfl, Nat.le_of_ble_eq_true rfl⟩ 0 rfl rfl rfl rfl rfl (Nat.le_of_ble_eq_true rfl) dL_law_716 (c1 := cells + 1) (s1 := slots + 6) rfl rfl ⟨by omega, by omega⟩ (fun rt9 ut9 H locs hp9 hG => ?_)
    obtain rfl := hp9.symm
    have hG : cC g ((oNet g o f1 ++ (cNet g hc N tk dom gr va dr off rt cnt lk dl td K E u1)) ++ (mNet g hm N tk dom gr va dr off rt cnt lk dl td M X m1 0)) A s H locs := hG
    refine lv_iload hx hb dL_law_719 (lv_at hl 1 rfl) ?_
    refine lv_icmp_eq (tgt := 726) hx hb dL_law_721 (by decide) (fun _ => ?_) (fun c9 => absurd rfl c9)
    refine lv_iload hx hb dL_law_726 (lv_at hl 1 rfl) ?_
    refine lv_if_ne (tgt := 743) hx hb dL_law_728 (by decide) (fun c9 => absurd rfl c9) (fun _ => ?_)
    refine lv_aload_n hx hb dL_law_731 rfl (lv_at hl 5 rfl) ?_
    refine lv_iconst (v := 0) hx hb dL_law_732 (by decide) ?_
    refine q_lald hM hG 0 (i := 0) rfl (by decide) (by decide) dL_law_733 ?_
    refine lv_iload hx hb dL_law_734 (lv_at hl 0 rfl) ?_
    refine lv_i2l hx hb dL_law_736 rfl ?_
    refine W.lcmp hx hb dL_law_737 ?_
    refine q_ren (lg_eq0 (hf.trans (congrArg Int32.toInt64 (by rw [hr0, hrb, huq.2])))) ?_
    refine lv_if_eq (tgt := 743) hx hb dL_law_738 (by decide) (fun _ => ?_) (fun c9 => absurd rfl c9)
    refine lv_goto (tgt := 843) hx hb dL_law_743 (by decide) ?_
    exact kk _ _ _ ⟨_, _, _, _, _, _, _, _, _, _, _, _, _, _, _, _, _, _, _, _, hG, ⟨hN, hg, hlk, hsy, hR⟩, False.elim⟩ (lv_sub hl [2, 3, 4, 5, 6] rfl)
  · have hG : cC g ((oNet g o f ++ (cNet g hc N tk dom gr va dr off rt cnt lk dl td K E ds)) ++ (mNet g hm N tk dom gr va dr off rt cnt lk dl td M X dm thr)) A s H locs := hG
    have h9 : xk1 r (okN N (xs (i + 1))) := hp
    refine lv_istore (lv' := [(5, .int r), (0, .ref b), (1, .ref (hc 0)), (2, .ref (hm 0)), (3, .ref o), (4, .int (nI i))]) hx hb dL_law_701 hl (by decide) rfl (fun ls hl => ?_)
    refine lv_aload_n hx hb dL_law_703 rfl (lv_at hl 3 rfl) ?_
    refine lv_aload_n hx hb dL_law_704 rfl (lv_at hl 1 rfl) ?_
    refine lv_iload hx hb dL_law_705 (lv_at hl 5 rfl) ?_
    refine lv_iconst (v := 1) hx hb dL_law_707 (by decide) ?_
    refine lv_iadd hx hb dL_law_708 ?_
    refine q_ren (nI_add i 1) ?_
    refine q_sld hM hG hX hbl hbA (by omega) hL30 dL_law_709 ?_
    refine q_callMi (n := 1) (As := [.int (xs (i + 1))]) (rest := []) hM hl.1 hG (c_X3_stepsByGraph l g hm N tk dom gr va dr off rt cnt lk dl td M X dm thr (xs (i + 1)) hN hlk hsy hg) rfl gL_law_X3_stepsByGraph (by decide +kernel) ⟨Nat.le_of_ble_eq_true rfl, Nat.le_of_ble_eq_true rfl⟩ 0 rfl rfl rfl rfl rfl (Nat.le_of_ble_eq_true rfl) dL_law_710 (c1 := cells + 1) (s1 := slots + 6) rfl rfl ⟨by omega, by omega⟩ (fun rb u2 H locs hp2 hG => ?_)
    obtain ⟨t, m1⟩ := u2
    dsimp only at hp2
    have hk : t = r := cd1_uniq hp2.1 h9.cd.1
    have h0 : ¬ t = 0 := by rw [hk]; exact h9.cd.2
    have hG : cC g ((oNet g o f ++ (cNet g hc N tk dom gr va dr off rt cnt lk dl td K E ds)) ++ (mNet g hm N tk dom gr va dr off rt cnt lk dl td M X m1 t)) A s H locs := hG
    refine lv_istore (lv' := [(6, .int rb), (5, .int r), (0, .ref b), (1, .ref (hc 0)), (2, .ref (hm 0)), (3, .ref o), (4, .int (nI i))]) hx hb dL_law_713 hl (by decide) rfl (fun ls hl => ?_)
    refine lv_aload_n hx hb dL_law_715 rfl (lv_at hl 4 rfl) ?_
    refine q_callMi (n := 0) (As := []) (rest := []) hM hl.1 hG (c_X3_thrown l g hm N tk dom gr va dr off rt cnt lk dl td M X m1 t) rfl gL_law_X3_thrown (by decide +kernel) ⟨Nat.le_of_ble_eq_true rfl, Nat.le_of_ble_eq_true rfl⟩ 0 rfl rfl rfl rfl rfl (Nat.le_of_ble_eq_true rfl) dL_law_716 (c1 := cells + 1) (s1 := slots + 6) rfl rfl ⟨by omega, by omega⟩ (fun rt9 ut9 H locs hp9 hG => ?_)
    obtain rfl := hp9.symm
    have hG : cC g ((oNet g o f ++ (cNet g hc N tk dom gr va dr off rt cnt lk dl td K E ds)) ++ (mNet g hm N tk dom gr va dr off rt cnt lk dl td M X m1 t)) A s H locs := hG
    refine lv_iload hx hb dL_law_719 (lv_at hl 1 rfl) ?_
    refine lv_icmp_eq (tgt := 726) hx hb dL_law_721 (by decide) (fun _ => ?_) (fun c9 => absurd hk c9)
    refine lv_iload hx hb dL_law_726 (lv_at hl 1 rfl) ?_
    refine lv_if_ne (tgt := 743) hx hb dL_law_728 (by decide) (fun _ => ?_) (fun c9 => absurd c9 h9.cd.2)
    refine lv_goto (tgt := 843) hx hb dL_law_743 (by decide) ?_
    exact kk _ _ _ ⟨_, _, _, _, _, _, _, _, _, _, _, _, _, _, _, _, _, _, _, _, hG, ⟨hN, hg, hlk, hsy, hR⟩, False.elim⟩ (lv_sub hl [2, 3, 4, 5, 6] rfl)

set_option maxHeartbeats 4000000 in
set_option maxRecDepth 100000 in
theorem lc_16 {p : Program} {e : Env} {s : State} {m : MethodId} {below : List Frame} {meth : Method} {c : Code} (l : Launch) (hl0 : l.stackTraces = false) {b L : Nat} {xs : Nat → Int32} (hL30 : L < 2 ^ 30) (C0 : lw_At p s m meth c b L xs) {z : Prop} {g : EN} {hc hm : Nat → Nat} {o : Nat} {A : Nat → Prop} (hbA : ¬ A b) {i : Nat} (hi : i + 5 ≤ L) {H : Heap} {locs : List Loc} {cells slots : Nat} (hroom : cells + 2 ≤ room_1.cells ∧ slots + 16 ≤ room_1.slots) (hI : LI z g hc hm o A s H locs) {Q : State → Prop} {ls : Array Slot} (hl : lv_has ls 8 [(0, .ref b), (1, .ref (hc 0)), (2, .ref (hm 0)), (3, .ref o), (4, .int (nI i))])
    (kk : ∀ (H1 : Heap) (locs1 : List Loc) (ls1 : Array Slot), LI False g hc hm o A s H1 locs1 → lv_has ls1 8 [(0, .ref b), (1, .ref (hc 0)), (2, .ref (hm 0)), (3, .ref o), (4, .int (nI i))] → W p l e room_1 s m #[Value.ref b] below meth c H1 locs1 (cells + 1) (slots + 6) Q (F0 m 843 ls1 [])) : W p l e room_1 s m #[Value.ref b] below meth c H locs cells slots Q (F0 m 746 ls []) := by
  obtain ⟨hx, hb, hr, hml, hown, hts, hX, hbl, hlocks, hgv⟩ := C0
  have hM : CallFix p m c cL_law 8 s #[Value.ref b] wsL_law RL := ⟨hx, hb, hml, hown, fun w h => hts w (wsL_law_in w h)⟩
  obtain ⟨N, tk, dom, gr, va, dr, off, rt, cnt, lk, dl, td, K, E, ds, M, X, dm, thr, f, hG, ⟨hN, hg, hlk, hsy, hR⟩, hz0⟩ := hI
  refine lv_aload_n hx hb dL_law_746 rfl (lv_at hl 1 rfl) ?_
  have hG : cC g (((mNet g hm N tk dom gr va dr off rt cnt lk dl td M X dm thr) ++ oNet g o f) ++ (cNet g hc N tk dom gr va dr off rt cnt lk dl td K E ds)) A s H locs := by rw [List.append_assoc]; exact hG.swap
  refine q_callMi (n := 0) (As := []) (rest := []) hM hl.1 hG (c_X2_isSettled l g hc N tk dom gr va dr off rt cnt lk dl td K E ds  hN hlk hg) rfl gL_law_X2_isSettled (by decide +kernel) ⟨Nat.le_of_ble_eq_true rfl, Nat.le_of_ble_eq_true rfl⟩ 0 rfl rfl rfl rfl rfl (Nat.le_of_ble_eq_true rfl) dL_law_747 (c1 := cells) (s1 := slots) rfl rfl ⟨by omega, by omega⟩ (fun rx ux H locs hpx hG => ?_)
  have hG : cC g ((oNet g o f ++ (cNet g hc N tk dom gr va dr off rt cnt lk dl td K E ux)) ++ (mNet g hm N tk dom gr va dr off rt cnt lk dl td M X dm thr)) A s H locs := by rw [List.append_assoc] at hG; exact hG.swap
  refine lv_pop hx hb dL_law_750 rfl ?_
  refine lv_aload_n hx hb dL_law_751 rfl (lv_at hl 2 rfl) ?_
  refine q_callMi (n := 0) (As := []) (rest := []) hM hl.1 hG (c_X3_isSettled l g hm N tk dom gr va dr off rt cnt lk dl td M X dm thr  hN hlk hsy hg) rfl gL_law_X3_isSettled (by decide +kernel) ⟨Nat.le_of_ble_eq_true rfl, Nat.le_of_ble_eq_true rfl⟩ 0 rfl rfl rfl rfl rfl (Nat.le_of_ble_eq_true rfl) dL_law_752 (c1 := cells) (s1 := slots) rfl rfl ⟨by omega, by omega⟩ (fun rb u2 H locs hp2 hG => ?_)
  have hG : cC g ((oNet g o f ++ (cNet g hc N tk dom gr va dr off rt cnt lk dl td K E ux)) ++ (mNet g hm N tk dom gr va dr off rt cnt lk dl td M X u2 0)) A s H locs := hG
  refine lv_pop hx hb dL_law_755 rfl ?_
  refine lv_goto (tgt := 843) hx hb dL_law_756 (by decide) ?_
  refine W.widen (k := cells + 1) (n := slots + 6) (by omega) (by omega) ?_
  exact kk _ _ _ ⟨_, _, _, _, _, _, _, _, _, _, _, _, _, _, _, _, _, _, _, _, hG, ⟨hN, hg, hlk, hsy, hR⟩, False.elim⟩ (lv_sub hl [0, 1, 2, 3, 4] rfl)

set_option maxHeartbeats 4000000 in
set_option maxRecDepth 100000 in
theorem lc_17 {p : Program} {e : Env} {s : State} {m : MethodId} {below : List Frame} {meth : Method} {c : Code} (l : Launch) (hl0 : l.stackTraces = false) {b L : Nat} {xs : Nat → Int32} (hL30 : L < 2 ^ 30) (C0 : lw_At p s m meth c b L xs) {z : Prop} {g : EN} {hc hm : Nat → Nat} {o : Nat} {A : Nat → Prop} (hbA : ¬ A b) {i : Nat} (hi : i + 5 ≤ L) {H : Heap} {locs : List Loc} {cells slots : Nat} (hroom : cells + 2 ≤ room_1.cells ∧ slots + 16 ≤ room_1.slots) (hI : LI z g hc hm o A s H locs) {Q : State → Prop} {ls : Array Slot} (hl : lv_has ls 8 [(0, .ref b), (1, .ref (hc 0)), (2, .ref (hm 0)), (3, .ref o), (4, .int (nI i))])
    (kk : ∀ (H1 : Heap) (locs1 : List Loc) (ls1 : Array Slot), LI False g hc hm o A s H1 locs1 → lv_has ls1 8 [(0, .ref b), (1, .ref (hc 0)), (2, .ref (hm 0)), (3, .ref o), (4, .int (nI i))] → W p l e room_1 s m #[Value.ref b] below meth c H1 locs1 (cells + 1) (slots + 6) Q (F0 m 843 ls1 [])) : W p l e room_1 s m #[Value.ref b] below meth c H locs cells slots Q (F0 m 759 ls []) := by
  obtain ⟨hx, hb, hr, hml, hown, hts, hX, hbl, hlocks, hgv⟩ := C0
  have hM : CallFix p m c cL_law 8 s #[Value.ref b] wsL_law RL := ⟨hx, hb, hml, hown, fun w h => hts w (wsL_law_in w h)⟩
  obtain ⟨N, tk, dom, gr, va, dr, off, rt, cnt, lk, dl, td, K, E, ds, M, X, dm, thr, f, hG, ⟨hN, hg, hlk, hsy, hR⟩, hz0⟩ := hI
  refine lv_aload_n hx hb dL_law_759 rfl (lv_at hl 1 rfl) ?_
  refine lv_aload_n hx hb dL_law_760 rfl (lv_at hl 0 rfl) ?_
  refine lv_iload hx hb dL_law_761 (lv_at hl 4 rfl) ?_
  refine lv_iconst (v := 1) hx hb dL_law_763 (by decide) ?_
  refine lv_iadd hx hb dL_law_764 ?_
  refine q_ren (nI_add i 1) ?_
  refine q_sld hM hG hX hbl hbA (by omega) hL30 dL_law_765 ?_
  refine lv_aload_n hx hb dL_law_766 rfl (lv_at hl 3 rfl) ?_
  refine q_callW (n := 3) (As := [.ref (hc 0), .int (xs (i + 1)), .ref o]) (rest := []) hM hl.1 hG (w_offset l hl0 g hc o f N tk dom gr va dr off rt cnt lk dl td K E ds (xs (i + 1)) hN) rfl gL_law_L_offset (by decide +kernel) ⟨Nat.le_of_ble_eq_true rfl, Nat.le_of_ble_eq_true rfl⟩ rfl rfl (Nat.le_of_ble_eq_true rfl) dL_law_767 (c1 := cells + 1) (s1 := slots + 6) rfl rfl ⟨by omega, by omega⟩ (fun r v H locs hp hG => ?_)
  rcases v with ⟨u1, f1⟩ | _
  · obtain ⟨rfl, r0, hc0, hf⟩ := hp
    dsimp only at hc0 hf
    obtain ⟨i0, hi0, hx0, rfl⟩ := hc0
    have hG : cC g ((oNet g o f1 ++ (cNet g hc N tk dom gr va dr off rt cnt lk dl td K E ds)) ++ (mNet g hm N tk dom gr va dr off rt cnt lk dl td M X dm thr)) A s H locs := hG
    refine lv_istore (lv' := [(5, .int 0), (0, .ref b), (1, .ref (hc 0)), (2, .ref (hm 0)), (3, .ref o), (4, .int (nI i))]) hx hb dL_law_770 hl (by decide) rfl (fun ls hl => ?_)
    refine lv_aload_n hx hb dL_law_772 rfl (lv_at hl 3 rfl) ?_
    refine lv_aload_n hx hb dL_law_773 rfl (lv_at hl 1 rfl) ?_
    refine lv_iload hx hb dL_law_774 (lv_at hl 5 rfl) ?_
    refine lv_iconst (v := 1) hx hb dL_law_776 (by decide) ?_
    refine lv_iadd hx hb dL_law_777 ?_
    refine q_ren (nI_add i 1) ?_
    refine q_sld hM hG hX hbl hbA (by omega) hL30 dL_law_778 ?_
    refine q_callMl (n := 1) (As := [.int (xs (i + 1))]) (rest := []) hM hl.1 hG (c_X3_offset l g hm N tk dom gr va dr off rt cnt lk dl td M X dm thr (xs (i + 1)) hN) rfl gL_law_X3_offset (by decide +kernel) ⟨Nat.le_of_ble_eq_true rfl, Nat.le_of_ble_eq_true rfl⟩ 0 rfl rfl rfl rfl rfl (Nat.le_of_ble_eq_true rfl) dL_law_779 (c1 := cells + 1) (s1 := slots + 6) rfl rfl ⟨by omega, by omega⟩ (fun rb u2 H locs hp2 hG => ?_)
    obtain ⟨t, ht9⟩ : ∃ t, t = u2 := ⟨_, rfl⟩
    subst ht9
    obtain rfl : t = 0 := cd1.ok hp2.1 ⟨i0, hi0, hx0⟩
    obtain ⟨i1, hi1, hx1, rfl⟩ := hp2.2.1 rfl
    obtain rfl : i0 = i1 := (nI_eq (by omega) (by omega)).mp (hx0.symm.trans hx1)
    have hG : cC g ((oNet g o f1 ++ (cNet g hc N tk dom gr va dr off rt cnt lk dl td K E ds)) ++ (mNet g hm N tk dom gr va dr off rt cnt lk dl td M X dm 0)) A s H locs := hG
    refine lv_lstore (lv' := [(6, .long (off i0)), (5, .int 0), (0, .ref b), (1, .ref (hc 0)), (2, .ref (hm 0)), (3, .ref o), (4, .int (nI i))]) hx hb dL_law_782 hl (by decide) rfl (fun ls hl => ?_)
    refine lv_goto (tgt := 843) hx hb dL_law_784 (by decide) ?_
    exact kk _ _ _ ⟨_, _, _, _, _, _, _, _, _, _, _, _, _, _, _, _, _, _, _, _, hG, ⟨hN, hg, hlk, hsy, hR⟩, False.elim⟩ (lv_sub hl [2, 3, 4, 5, 6] rfl)
  · have hG : cC g ((oNet g o f ++ (cNet g hc N tk dom gr va dr off rt cnt lk dl td K E ds)) ++ (mNet g hm N tk dom gr va dr off rt cnt lk dl td M X dm thr)) A s H locs := hG
    have h9 : xk1 r (okN N (xs (i + 1))) := hp
    refine lv_istore (lv' := [(5, .int r), (0, .ref b), (1, .ref (hc 0)), (2, .ref (hm 0)), (3, .ref o), (4, .int (nI i))]) hx hb dL_law_770 hl (by decide) rfl (fun ls hl => ?_)
    refine lv_aload_n hx hb dL_law_772 rfl (lv_at hl 3 rfl) ?_
    refine lv_aload_n hx hb dL_law_773 rfl (lv_at hl 1 rfl) ?_
    refine lv_iload hx hb dL_law_774 (lv_at hl 5 rfl) ?_
    refine lv_iconst (v := 1) hx hb dL_law_776 (by decide) ?_
    refine lv_iadd hx hb dL_law_777 ?_
    refine q_ren (nI_add i 1) ?_
    refine q_sld hM hG hX hbl hbA (by omega) hL30 dL_law_778 ?_
    refine q_callMl (n := 1) (As := [.int (xs (i + 1))]) (rest := []) hM hl.1 hG (c_X3_offset l g hm N tk dom gr va dr off rt cnt lk dl td M X dm thr (xs (i + 1)) hN) rfl gL_law_X3_offset (by decide +kernel) ⟨Nat.le_of_ble_eq_true rfl, Nat.le_of_ble_eq_true rfl⟩ 0 rfl rfl rfl rfl rfl (Nat.le_of_ble_eq_true rfl) dL_law_779 (c1 := cells + 1) (s1 := slots + 6) rfl rfl ⟨by omega, by omega⟩ (fun rb u2 H locs hp2 hG => ?_)
    obtain ⟨t, ht9⟩ : ∃ t, t = u2 := ⟨_, rfl⟩
    subst ht9
    have hk : t = r := cd1_uniq hp2.1 h9.cd.1
    have h0 : ¬ t = 0 := by rw [hk]; exact h9.cd.2
    have hG : cC g ((oNet g o f ++ (cNet g hc N tk dom gr va dr off rt cnt lk dl td K E ds)) ++ (mNet g hm N tk dom gr va dr off rt cnt lk dl td M X dm t)) A s H locs := hG
    refine lv_lstore (lv' := [(6, .long rb), (5, .int r), (0, .ref b), (1, .ref (hc 0)), (2, .ref (hm 0)), (3, .ref o), (4, .int (nI i))]) hx hb dL_law_782 hl (by decide) rfl (fun ls hl => ?_)
    refine lv_goto (tgt := 843) hx hb dL_law_784 (by decide) ?_
    exact kk _ _ _ ⟨_, _, _, _, _, _, _, _, _, _, _, _, _, _, _, _, _, _, _, _, hG, ⟨hN, hg, hlk, hsy, hR⟩, False.elim⟩ (lv_sub hl [2, 3, 4, 5, 6] rfl)

set_option maxHeartbeats 4000000 in
set_option maxRecDepth 100000 in
theorem lc_18 {p : Program} {e : Env} {s : State} {m : MethodId} {below : List Frame} {meth : Method} {c : Code} (l : Launch) (hl0 : l.stackTraces = false) {b L : Nat} {xs : Nat → Int32} (hL30 : L < 2 ^ 30) (C0 : lw_At p s m meth c b L xs) {z : Prop} {g : EN} {hc hm : Nat → Nat} {o : Nat} {A : Nat → Prop} (hbA : ¬ A b) {i : Nat} (hi : i + 5 ≤ L) {H : Heap} {locs : List Loc} {cells slots : Nat} (hroom : cells + 2 ≤ room_1.cells ∧ slots + 16 ≤ room_1.slots) (hI : LI z g hc hm o A s H locs) {Q : State → Prop} {ls : Array Slot} (hl : lv_has ls 8 [(0, .ref b), (1, .ref (hc 0)), (2, .ref (hm 0)), (3, .ref o), (4, .int (nI i))])
    (kk : ∀ (H1 : Heap) (locs1 : List Loc) (ls1 : Array Slot), LI False g hc hm o A s H1 locs1 → lv_has ls1 8 [(0, .ref b), (1, .ref (hc 0)), (2, .ref (hm 0)), (3, .ref o), (4, .int (nI i))] → W p l e room_1 s m #[Value.ref b] below meth c H1 locs1 (cells + 1) (slots + 6) Q (F0 m 843 ls1 [])) : W p l e room_1 s m #[Value.ref b] below meth c H locs cells slots Q (F0 m 787 ls []) := by
  obtain ⟨hx, hb, hr, hml, hown, hts, hX, hbl, hlocks, hgv⟩ := C0
  have hM : CallFix p m c cL_law 8 s #[Value.ref b] wsL_law RL := ⟨hx, hb, hml, hown, fun w h => hts w (wsL_law_in w h)⟩
  obtain ⟨N, tk, dom, gr, va, dr, off, rt, cnt, lk, dl, td, K, E, ds, M, X, dm, thr, f, hG, ⟨hN, hg, hlk, hsy, hR⟩, hz0⟩ := hI
  refine lv_aload_n hx hb dL_law_787 rfl (lv_at hl 1 rfl) ?_
  refine lv_aload_n hx hb dL_law_788 rfl (lv_at hl 0 rfl) ?_
  refine lv_iload hx hb dL_law_789 (lv_at hl 4 rfl) ?_
  refine lv_iconst (v := 1) hx hb dL_law_791 (by decide) ?_
  refine lv_iadd hx hb dL_law_792 ?_
  refine q_ren (nI_add i 1) ?_
  refine q_sld hM hG hX hbl hbA (by omega) hL30 dL_law_793 ?_
  refine lv_aload_n hx hb dL_law_794 rfl (lv_at hl 3 rfl) ?_
  refine q_callW (n := 3) (As := [.ref (hc 0), .int (xs (i + 1)), .ref o]) (rest := []) hM hl.1 hG (w_rate l hl0 g hc o f N tk dom gr va dr off rt cnt lk dl td K E ds (xs (i + 1)) hN) rfl gL_law_L_rate (by decide +kernel) ⟨Nat.le_of_ble_eq_true rfl, Nat.le_of_ble_eq_true rfl⟩ rfl rfl (Nat.le_of_ble_eq_true rfl) dL_law_795 (c1 := cells + 1) (s1 := slots + 6) rfl rfl ⟨by omega, by omega⟩ (fun r v H locs hp hG => ?_)
  rcases v with ⟨u1, f1⟩ | _
  · obtain ⟨rfl, r0, hc0, hf⟩ := hp
    dsimp only at hc0 hf
    obtain ⟨i0, hi0, hx0, rfl⟩ := hc0
    have hG : cC g ((oNet g o f1 ++ (cNet g hc N tk dom gr va dr off rt cnt lk dl td K E ds)) ++ (mNet g hm N tk dom gr va dr off rt cnt lk dl td M X dm thr)) A s H locs := hG
    refine lv_istore (lv' := [(5, .int 0), (0, .ref b), (1, .ref (hc 0)), (2, .ref (hm 0)), (3, .ref o), (4, .int (nI i))]) hx hb dL_law_798 hl (by decide) rfl (fun ls hl => ?_)
    refine lv_aload_n hx hb dL_law_800 rfl (lv_at hl 3 rfl) ?_
    refine lv_aload_n hx hb dL_law_801 rfl (lv_at hl 1 rfl) ?_
    refine lv_iload hx hb dL_law_802 (lv_at hl 5 rfl) ?_
    refine lv_iconst (v := 1) hx hb dL_law_804 (by decide) ?_
    refine lv_iadd hx hb dL_law_805 ?_
    refine q_ren (nI_add i 1) ?_
    refine q_sld hM hG hX hbl hbA (by omega) hL30 dL_law_806 ?_
    refine q_callMl (n := 1) (As := [.int (xs (i + 1))]) (rest := []) hM hl.1 hG (c_X3_rate l g hm N tk dom gr va dr off rt cnt lk dl td M X dm thr (xs (i + 1)) hN) rfl gL_law_X3_rate (by decide +kernel) ⟨Nat.le_of_ble_eq_true rfl, Nat.le_of_ble_eq_true rfl⟩ 0 rfl rfl rfl rfl rfl (Nat.le_of_ble_eq_true rfl) dL_law_807 (c1 := cells + 1) (s1 := slots + 6) rfl rfl ⟨by omega, by omega⟩ (fun rb u2 H locs hp2 hG => ?_)
    obtain ⟨t, ht9⟩ : ∃ t, t = u2 := ⟨_, rfl⟩
    subst ht9
    obtain rfl : t = 0 := cd1.ok hp2.1 ⟨i0, hi0, hx0⟩
    obtain ⟨i1, hi1, hx1, rfl⟩ := hp2.2.1 rfl
    obtain rfl : i0 = i1 := (nI_eq (by omega) (by omega)).mp (hx0.symm.trans hx1)
    have hG : cC g ((oNet g o f1 ++ (cNet g hc N tk dom gr va dr off rt cnt lk dl td K E ds)) ++ (mNet g hm N tk dom gr va dr off rt cnt lk dl td M X dm 0)) A s H locs := hG
    refine lv_lstore (lv' := [(6, .long (rt i0)), (5, .int 0), (0, .ref b), (1, .ref (hc 0)), (2, .ref (hm 0)), (3, .ref o), (4, .int (nI i))]) hx hb dL_law_810 hl (by decide) rfl (fun ls hl => ?_)
    refine lv_goto (tgt := 843) hx hb dL_law_812 (by decide) ?_
    exact kk _ _ _ ⟨_, _, _, _, _, _, _, _, _, _, _, _, _, _, _, _, _, _, _, _, hG, ⟨hN, hg, hlk, hsy, hR⟩, False.elim⟩ (lv_sub hl [2, 3, 4, 5, 6] rfl)
  · have hG : cC g ((oNet g o f ++ (cNet g hc N tk dom gr va dr off rt cnt lk dl td K E ds)) ++ (mNet g hm N tk dom gr va dr off rt cnt lk dl td M X dm thr)) A s H locs := hG
    have h9 : xk1 r (okN N (xs (i + 1))) := hp
    refine lv_istore (lv' := [(5, .int r), (0, .ref b), (1, .ref (hc 0)), (2, .ref (hm 0)), (3, .ref o), (4, .int (nI i))]) hx hb dL_law_798 hl (by decide) rfl (fun ls hl => ?_)
    refine lv_aload_n hx hb dL_law_800 rfl (lv_at hl 3 rfl) ?_
    refine lv_aload_n hx hb dL_law_801 rfl (lv_at hl 1 rfl) ?_
    refine lv_iload hx hb dL_law_802 (lv_at hl 5 rfl) ?_
    refine lv_iconst (v := 1) hx hb dL_law_804 (by decide) ?_
    refine lv_iadd hx hb dL_law_805 ?_
    refine q_ren (nI_add i 1) ?_
    refine q_sld hM hG hX hbl hbA (by omega) hL30 dL_law_806 ?_
    refine q_callMl (n := 1) (As := [.int (xs (i + 1))]) (rest := []) hM hl.1 hG (c_X3_rate l g hm N tk dom gr va dr off rt cnt lk dl td M X dm thr (xs (i + 1)) hN) rfl gL_law_X3_rate (by decide +kernel) ⟨Nat.le_of_ble_eq_true rfl, Nat.le_of_ble_eq_true rfl⟩ 0 rfl rfl rfl rfl rfl (Nat.le_of_ble_eq_true rfl) dL_law_807 (c1 := cells + 1) (s1 := slots + 6) rfl rfl ⟨by omega, by omega⟩ (fun rb u2 H locs hp2 hG => ?_)
    obtain ⟨t, ht9⟩ : ∃ t, t = u2 := ⟨_, rfl⟩
    subst ht9
    have hk : t = r := cd1_uniq hp2.1 h9.cd.1
    have h0 : ¬ t = 0 := by rw [hk]; exact h9.cd.2
    have hG : cC g ((oNet g o f ++ (cNet g hc N tk dom gr va dr off rt cnt lk dl td K E ds)) ++ (mNet g hm N tk dom gr va dr off rt cnt lk dl td M X dm t)) A s H locs := hG
    refine lv_lstore (lv' := [(6, .long rb), (5, .int r), (0, .ref b), (1, .ref (hc 0)), (2, .ref (hm 0)), (3, .ref o), (4, .int (nI i))]) hx hb dL_law_810 hl (by decide) rfl (fun ls hl => ?_)
    refine lv_goto (tgt := 843) hx hb dL_law_812 (by decide) ?_
    exact kk _ _ _ ⟨_, _, _, _, _, _, _, _, _, _, _, _, _, _, _, _, _, _, _, _, hG, ⟨hN, hg, hlk, hsy, hR⟩, False.elim⟩ (lv_sub hl [2, 3, 4, 5, 6] rfl)

set_option maxHeartbeats 4000000 in
set_option maxRecDepth 100000 in
theorem lc_19 {p : Program} {e : Env} {s : State} {m : MethodId} {below : List Frame} {meth : Method} {c : Code} (l : Launch) (hl0 : l.stackTraces = false) {b L : Nat} {xs : Nat → Int32} (hL30 : L < 2 ^ 30) (C0 : lw_At p s m meth c b L xs) {z : Prop} {g : EN} {hc hm : Nat → Nat} {o : Nat} {A : Nat → Prop} (hbA : ¬ A b) {i : Nat} (hi : i + 5 ≤ L) {H : Heap} {locs : List Loc} {cells slots : Nat} (hroom : cells + 2 ≤ room_1.cells ∧ slots + 16 ≤ room_1.slots) (hI : LI z g hc hm o A s H locs) {Q : State → Prop} {ls : Array Slot} (hl : lv_has ls 8 [(0, .ref b), (1, .ref (hc 0)), (2, .ref (hm 0)), (3, .ref o), (4, .int (nI i))])
    (kk : ∀ (H1 : Heap) (locs1 : List Loc) (ls1 : Array Slot), LI False g hc hm o A s H1 locs1 → lv_has ls1 8 [(0, .ref b), (1, .ref (hc 0)), (2, .ref (hm 0)), (3, .ref o), (4, .int (nI i))] → W p l e room_1 s m #[Value.ref b] below meth c H1 locs1 (cells + 1) (slots + 6) Q (F0 m 843 ls1 [])) : W p l e room_1 s m #[Value.ref b] below meth c H locs cells slots Q (F0 m 815 ls []) := by
  obtain ⟨hx, hb, hr, hml, hown, hts, hX, hbl, hlocks, hgv⟩ := C0
  have hM : CallFix p m c cL_law 8 s #[Value.ref b] wsL_law RL := ⟨hx, hb, hml, hown, fun w h => hts w (wsL_law_in w h)⟩
  obtain ⟨N, tk, dom, gr, va, dr, off, rt, cnt, lk, dl, td, K, E, ds, M, X, dm, thr, f, hG, ⟨hN, hg, hlk, hsy, hR⟩, hz0⟩ := hI
  refine lv_aload_n hx hb dL_law_815 rfl (lv_at hl 1 rfl) ?_
  refine lv_aload_n hx hb dL_law_816 rfl (lv_at hl 0 rfl) ?_
  refine lv_iload hx hb dL_law_817 (lv_at hl 4 rfl) ?_
  refine lv_iconst (v := 1) hx hb dL_law_819 (by decide) ?_
  refine lv_iadd hx hb dL_law_820 ?_
  refine q_ren (nI_add i 1) ?_
  refine q_sld hM hG hX hbl hbA (by omega) hL30 dL_law_821 ?_
  refine lv_aload_n hx hb dL_law_822 rfl (lv_at hl 3 rfl) ?_
  refine q_callW (n := 3) (As := [.ref (hc 0), .int (xs (i + 1)), .ref o]) (rest := []) hM hl.1 hG (w_spread l hl0 g hc o f N tk dom gr va dr off rt cnt lk dl td K E ds (xs (i + 1)) hN) rfl gL_law_L_spread (by decide +kernel) ⟨Nat.le_of_ble_eq_true rfl, Nat.le_of_ble_eq_true rfl⟩ rfl rfl (Nat.le_of_ble_eq_true rfl) dL_law_823 (c1 := cells + 1) (s1 := slots + 6) rfl rfl ⟨by omega, by omega⟩ (fun r v H locs hp hG => ?_)
  rcases v with ⟨u1, f1⟩ | _
  · obtain ⟨rfl, r0, hc0, hf⟩ := hp
    dsimp only at hc0 hf
    obtain ⟨hP, hr0⟩ := hc0
    have hG : cC g ((oNet g o f1 ++ (cNet g hc N tk dom gr va dr off rt cnt lk dl td K E ds)) ++ (mNet g hm N tk dom gr va dr off rt cnt lk dl td M X dm thr)) A s H locs := hG
    refine lv_istore (lv' := [(5, .int 0), (0, .ref b), (1, .ref (hc 0)), (2, .ref (hm 0)), (3, .ref o), (4, .int (nI i))]) hx hb dL_law_826 hl (by decide) rfl (fun ls hl => ?_)
    refine lv_aload_n hx hb dL_law_828 rfl (lv_at hl 3 rfl) ?_
    refine lv_aload_n hx hb dL_law_829 rfl (lv_at hl 1 rfl) ?_
    refine lv_iload hx hb dL_law_830 (lv_at hl 5 rfl) ?_
    refine lv_iconst (v := 1) hx hb dL_law_832 (by decide) ?_
    refine lv_iadd hx hb dL_law_833 ?_
    refine q_ren (nI_add i 1) ?_
    refine q_sld hM hG hX hbl hbA (by omega) hL30 dL_law_834 ?_
    refine q_callMl (n := 1) (As := [.int (xs (i + 1))]) (rest := []) hM hl.1 hG (c_X3_spread l g hm N tk dom gr va dr off rt cnt lk dl td M X dm thr (xs (i + 1)) hN) rfl gL_law_X3_spread (by decide +kernel) ⟨Nat.le_of_ble_eq_true rfl, Nat.le_of_ble_eq_true rfl⟩ 0 rfl rfl rfl rfl rfl (Nat.le_of_ble_eq_true rfl) dL_law_835 (c1 := cells + 1) (s1 := slots + 6) rfl rfl ⟨by omega, by omega⟩ (fun rb u2 H locs hp2 hG => ?_)
    obtain ⟨t, ht9⟩ : ∃ t, t = u2 := ⟨_, rfl⟩
    subst ht9
    obtain rfl : t = 0 := cd1.ok hp2.1 hP
    have hG : cC g ((oNet g o f1 ++ (cNet g hc N tk dom gr va dr off rt cnt lk dl td K E ds)) ++ (mNet g hm N tk dom gr va dr off rt cnt lk dl td M X dm 0)) A s H locs := hG
    refine lv_lstore (lv' := [(6, .long rb), (5, .int 0), (0, .ref b), (1, .ref (hc 0)), (2, .ref (hm 0)), (3, .ref o), (4, .int (nI i))]) hx hb dL_law_838 hl (by decide) rfl (fun ls hl => ?_)
    refine lv_goto (tgt := 843) hx hb dL_law_840 (by decide) ?_
    exact kk _ _ _ ⟨_, _, _, _, _, _, _, _, _, _, _, _, _, _, _, _, _, _, _, _, hG, ⟨hN, hg, hlk, hsy, hR⟩, False.elim⟩ (lv_sub hl [2, 3, 4, 5, 6] rfl)
  · have hG : cC g ((oNet g o f ++ (cNet g hc N tk dom gr va dr off rt cnt lk dl td K E ds)) ++ (mNet g hm N tk dom gr va dr off rt cnt lk dl td M X dm thr)) A s H locs := hG
    have h9 : xk1 r (inR 0 (xs (i + 1)) 1) := hp
    refine lv_istore (lv' := [(5, .int r), (0, .ref b), (1, .ref (hc 0)), (2, .ref (hm 0)), (3, .ref o), (4, .int (nI i))]) hx hb dL_law_826 hl (by decide) rfl (fun ls hl => ?_)
    refine lv_aload_n hx hb dL_law_828 rfl (lv_at hl 3 rfl) ?_
    refine lv_aload_n hx hb dL_law_829 rfl (lv_at hl 1 rfl) ?_
    refine lv_iload hx hb dL_law_830 (lv_at hl 5 rfl) ?_
    refine lv_iconst (v := 1) hx hb dL_law_832 (by decide) ?_
    refine lv_iadd hx hb dL_law_833 ?_
    refine q_ren (nI_add i 1) ?_
    refine q_sld hM hG hX hbl hbA (by omega) hL30 dL_law_834 ?_
    refine q_callMl (n := 1) (As := [.int (xs (i + 1))]) (rest := []) hM hl.1 hG (c_X3_spread l g hm N tk dom gr va dr off rt cnt lk dl td M X dm thr (xs (i + 1)) hN) rfl gL_law_X3_spread (by decide +kernel) ⟨Nat.le_of_ble_eq_true rfl, Nat.le_of_ble_eq_true rfl⟩ 0 rfl rfl rfl rfl rfl (Nat.le_of_ble_eq_true rfl) dL_law_835 (c1 := cells + 1) (s1 := slots + 6) rfl rfl ⟨by omega, by omega⟩ (fun rb u2 H locs hp2 hG => ?_)
    obtain ⟨t, ht9⟩ : ∃ t, t = u2 := ⟨_, rfl⟩
    subst ht9
    have hk : t = r := cd1_uniq hp2.1 h9.cd.1
    have h0 : ¬ t = 0 := by rw [hk]; exact h9.cd.2
    have hG : cC g ((oNet g o f ++ (cNet g hc N tk dom gr va dr off rt cnt lk dl td K E ds)) ++ (mNet g hm N tk dom gr va dr off rt cnt lk dl td M X dm t)) A s H locs := hG
    refine lv_lstore (lv' := [(6, .long rb), (5, .int r), (0, .ref b), (1, .ref (hc 0)), (2, .ref (hm 0)), (3, .ref o), (4, .int (nI i))]) hx hb dL_law_838 hl (by decide) rfl (fun ls hl => ?_)
    refine lv_goto (tgt := 843) hx hb dL_law_840 (by decide) ?_
    exact kk _ _ _ ⟨_, _, _, _, _, _, _, _, _, _, _, _, _, _, _, _, _, _, _, _, hG, ⟨hN, hg, hlk, hsy, hR⟩, False.elim⟩ (lv_sub hl [2, 3, 4, 5, 6] rfl)
