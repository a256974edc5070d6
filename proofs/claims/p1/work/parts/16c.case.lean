set_option maxHeartbeats 4000000 in
set_option maxRecDepth 100000 in
theorem lc_10 {p : Program} {e : Env} {s : State} {m : MethodId} {below : List Frame} {meth : Method} {c : Code} (l : Launch) (hl0 : l.stackTraces = false) {b L : Nat} {xs : Nat → Int32} (hL30 : L < 2 ^ 30) (C0 : lw_At p s m meth c b L xs) {z : Prop} {g : EN} {hc hm : Nat → Nat} {o : Nat} {A : Nat → Prop} (hbA : ¬ A b) {i : Nat} (hi : i + 5 ≤ L) {H : Heap} {locs : List Loc} {cells slots : Nat} (hroom : cells + 2 ≤ room_1.cells ∧ slots + 16 ≤ room_1.slots) (hI : LI z g hc hm o A s H locs) {Q : State → Prop} {ls : Array Slot} (hl : lv_has ls 8 [(0, .ref b), (1, .ref (hc 0)), (2, .ref (hm 0)), (3, .ref o), (4, .int (nI i))])
    (kk : ∀ (H1 : Heap) (locs1 : List Loc) (ls1 : Array Slot), LI False g hc hm o A s H1 locs1 → lv_has ls1 8 [(0, .ref b), (1, .ref (hc 0)), (2, .ref (hm 0)), (3, .ref o), (4, .int (nI i))] → W p l e room_1 s m #[Value.ref b] below meth c H1 locs1 (cells + 1) (slots + 6) Q (F0 m 1287 ls1 [])) : W p l e room_1 s m #[Value.ref b] below meth c H locs cells slots Q (F0 m 761 ls []) := by
  obtain ⟨hx, hb, hr, hml, hown, hts, hX, hbl, hlocks, hgv⟩ := C0
  have hM : CallFix p m c cL_law 8 s #[Value.ref b] wsL_law RL := ⟨hx, hb, hml, hown, fun w h => hts w (wsL_law_in w h)⟩
  obtain ⟨N, tk, dom, gr, va, dr, off, rt, cnt, lk, dl, td, K, E, ds, M, X, dm, thr, f, hG, ⟨hN, hg, hlk, hsy, hR⟩, hz0⟩ := hI
  refine lv_aload_n hx hb dL_law_761 rfl (lv_at hl 1 rfl) ?_
  refine lv_aload_n hx hb dL_law_762 rfl (lv_at hl 0 rfl) ?_
  refine lv_iload hx hb dL_law_763 (lv_at hl 4 rfl) ?_
  refine lv_iconst (v := 1) hx hb dL_law_765 (by decide) ?_
  refine lv_iadd hx hb dL_law_766 ?_
  refine q_ren (nI_add i 1) ?_
  refine q_sld hM hG hX hbl hbA (by omega) hL30 dL_law_767 ?_
  refine lv_aload_n hx hb dL_law_768 rfl (lv_at hl 3 rfl) ?_
  refine q_callW (n := 3) (As := [.ref (hc 0), .int (xs (i + 1)), .ref o]) (rest := []) hM hl.1 hG (w_best l hl0 g hc o f N tk dom gr va dr off rt cnt lk dl td K E ds (xs (i + 1)) hN) rfl gL_law_L_best (by decide +kernel) ⟨Nat.le_of_ble_eq_true rfl, Nat.le_of_ble_eq_true rfl⟩ rfl rfl (Nat.le_of_ble_eq_true rfl) dL_law_769 (c1 := cells + 1) (s1 := slots + 6) rfl rfl ⟨by omega, by omega⟩ (fun r v H locs hp hG => ?_)
  rcases v with ⟨u1, f1⟩ | _
  · obtain ⟨rfl, r0, hc0, hf⟩ := hp
    dsimp only at hc0 hf
    obtain ⟨i0, hi0, hx0, rfl⟩ := hc0
    have hG : cC g ((oNet g o f1 ++ (cNet g hc N tk dom gr va dr off rt cnt lk dl td K E ds)) ++ (mNet g hm N tk dom gr va dr off rt cnt lk dl td M X dm thr)) A s H locs := hG
    refine lv_istore (lv' := [(5, .int 0), (0, .ref b), (1, .ref (hc 0)), (2, .ref (hm 0)), (3, .ref o), (4, .int (nI i))]) hx hb dL_law_772 hl (by decide) rfl (fun ls hl => ?_)
    refine lv_aload_n hx hb dL_law_774 rfl (lv_at hl 3 rfl) ?_
    refine lv_aload_n hx hb dL_law_775 rfl (lv_at hl 1 rfl) ?_
    refine lv_iload hx hb dL_law_776 (lv_at hl 5 rfl) ?_
    refine lv_iconst (v := 1) hx hb dL_law_778 (by decide) ?_
    refine lv_iadd hx hb dL_law_779 ?_
    refine q_ren (nI_add i 1) ?_
    refine q_sld hM hG hX hbl hbA (by omega) hL30 dL_law_780 ?_
    refine q_callMi (n := 1) (As := [.int (xs (i + 1))]) (rest := []) hM hl.1 hG (c_X3_best l g hm N tk dom gr va dr off rt cnt lk dl td M X dm thr (xs (i + 1)) hN) rfl gL_law_X3_best (by decide +kernel) ⟨Nat.le_of_ble_eq_true rfl, Nat.le_of_ble_eq_true rfl⟩ 0 rfl rfl rfl rfl rfl (Nat.le_of_ble_eq_true rfl) dL_law_781 (c1 := cells + 1) (s1 := slots + 6) rfl rfl ⟨by omega, by omega⟩ (fun rb u2 H locs hp2 hG => ?_)
    obtain ⟨t, ht9⟩ : ∃ t, t = u2 := ⟨_, rfl⟩
    subst ht9
    obtain rfl : t = 0 := cd1.ok hp2.1 ⟨i0, hi0, hx0⟩
    obtain ⟨i1, hi1, hx1, rfl⟩ := hp2.2.1 rfl
    obtain rfl : i0 = i1 := (nI_eq (by omega) (by omega)).mp (hx0.symm.trans hx1)
    have hG : cC g ((oNet g o f1 ++ (cNet g hc N tk dom gr va dr off rt cnt lk dl td K E ds)) ++ (mNet g hm N tk dom gr va dr off rt cnt lk dl td M X dm 0)) A s H locs := hG
    refine lv_istore (lv' := [(6, .int (M.1 i0)), (5, .int 0), (0, .ref b), (1, .ref (hc 0)), (2, .ref (hm 0)), (3, .ref o), (4, .int (nI i))]) hx hb dL_law_784 hl (by decide) rfl (fun ls hl => ?_)
    refine lv_aload_n hx hb dL_law_786 rfl (lv_at hl 4 rfl) ?_
    refine q_callMi (n := 0) (As := []) (rest := []) hM hl.1 hG (c_X3_thrown l g hm N tk dom gr va dr off rt cnt lk dl td M X dm 0) rfl gL_law_X3_thrown (by decide +kernel) ⟨Nat.le_of_ble_eq_true rfl, Nat.le_of_ble_eq_true rfl⟩ 0 rfl rfl rfl rfl rfl (Nat.le_of_ble_eq_true rfl) dL_law_787 (c1 := cells + 1) (s1 := slots + 6) rfl rfl ⟨by omega, by omega⟩ (fun rt9 ut9 H locs hp9 hG => ?_)
    obtain rfl := hp9.symm
    have hG : cC g ((oNet g o f1 ++ (cNet g hc N tk dom gr va dr off rt cnt lk dl td K E ds)) ++ (mNet g hm N tk dom gr va dr off rt cnt lk dl td M X dm 0)) A s H locs := hG
    refine lv_iload hx hb dL_law_790 (lv_at hl 1 rfl) ?_
    refine lv_icmp_eq (tgt := 797) hx hb dL_law_792 (by decide) (fun _ => ?_) (fun c9 => absurd rfl c9)
    refine lv_iload hx hb dL_law_797 (lv_at hl 1 rfl) ?_
    refine lv_if_ne (tgt := 814) hx hb dL_law_799 (by decide) (fun c9 => absurd rfl c9) (fun _ => ?_)
    refine lv_aload_n hx hb dL_law_802 rfl (lv_at hl 5 rfl) ?_
    refine lv_iconst (v := 0) hx hb dL_law_803 (by decide) ?_
    refine q_lald hM hG 0 (i := 0) rfl (by decide) (by decide) dL_law_804 ?_
    refine lv_iload hx hb dL_law_805 (lv_at hl 0 rfl) ?_
    refine lv_i2l hx hb dL_law_807 rfl ?_
    refine W.lcmp hx hb dL_law_808 ?_
    refine q_ren (lg_eq0 (hf.trans (congrArg Int32.toInt64 (by rw [hR.1])))) ?_
    refine lv_if_eq (tgt := 814) hx hb dL_law_809 (by decide) (fun _ => ?_) (fun c9 => absurd rfl c9)
    refine lv_goto (tgt := 1287) hx hb dL_law_814 (by decide) ?_
    exact kk _ _ _ ⟨_, _, _, _, _, _, _, _, _, _, _, _, _, _, _, _, _, _, _, _, hG, ⟨hN, hg, hlk, hsy, hR⟩, False.elim⟩ (lv_sub hl [2, 3, 4, 5, 6] rfl)
  · have hG : cC g ((oNet g o f ++ (cNet g hc N tk dom gr va dr off rt cnt lk dl td K E ds)) ++ (mNet g hm N tk dom gr va dr off rt cnt lk dl td M X dm thr)) A s H locs := hG
    have h9 : xk1 r (okN N (xs (i + 1))) := hp
    refine lv_istore (lv' := [(5, .int r), (0, .ref b), (1, .ref (hc 0)), (2, .ref (hm 0)), (3, .ref o), (4, .int (nI i))]) hx hb dL_law_772 hl (by decide) rfl (fun ls hl => ?_)
    refine lv_aload_n hx hb dL_law_774 rfl (lv_at hl 3 rfl) ?_
    refine lv_aload_n hx hb dL_law_775 rfl (lv_at hl 1 rfl) ?_
    refine lv_iload hx hb dL_law_776 (lv_at hl 5 rfl) ?_
    refine lv_iconst (v := 1) hx hb dL_law_778 (by decide) ?_
    refine lv_iadd hx hb dL_law_779 ?_
    refine q_ren (nI_add i 1) ?_
    refine q_sld hM hG hX hbl hbA (by omega) hL30 dL_law_780 ?_
    refine q_callMi (n := 1) (As := [.int (xs (i + 1))]) (rest := []) hM hl.1 hG (c_X3_best l g hm N tk dom gr va dr off rt cnt lk dl td M X dm thr (xs (i + 1)) hN) rfl gL_law_X3_best (by decide +kernel) ⟨Nat.le_of_ble_eq_true rfl, Nat.le_of_ble_eq_true rfl⟩ 0 rfl rfl rfl rfl rfl (Nat.le_of_ble_eq_true rfl) dL_law_781 (c1 := cells + 1) (s1 := slots + 6) rfl rfl ⟨by omega, by omega⟩ (fun rb u2 H locs hp2 hG => ?_)
    obtain ⟨t, ht9⟩ : ∃ t, t = u2 := ⟨_, rfl⟩
    subst ht9
    have hk : t = r := cd1_uniq hp2.1 h9.cd.1
    have h0 : ¬ t = 0 := by rw [hk]; exact h9.cd.2
    have hG : cC g ((oNet g o f ++ (cNet g hc N tk dom gr va dr off rt cnt lk dl td K E ds)) ++ (mNet g hm N tk dom gr va dr off rt cnt lk dl td M X dm t)) A s H locs := hG
    refine lv_istore (lv' := [(6, .int rb), (5, .int r), (0, .ref b), (1, .ref (hc 0)), (2, .ref (hm 0)), (3, .ref o), (4, .int (nI i))]) hx hb dL_law_784 hl (by decide) rfl (fun ls hl => ?_)
    refine lv_aload_n hx hb dL_law_786 rfl (lv_at hl 4 rfl) ?_
    refine q_callMi (n := 0) (As := []) (rest := []) hM hl.1 hG (c_X3_thrown l g hm N tk dom gr va dr off rt cnt lk dl td M X dm t) rfl gL_law_X3_thrown (by decide +kernel) ⟨Nat.le_of_ble_eq_true rfl, Nat.le_of_ble_eq_true rfl⟩ 0 rfl rfl rfl rfl rfl (Nat.le_of_ble_eq_true rfl) dL_law_787 (c1 := cells + 1) (s1 := slots + 6) rfl rfl ⟨by omega, by omega⟩ (fun rt9 ut9 H locs hp9 hG => ?_)
    obtain rfl := hp9.symm
    have hG : cC g ((oNet g o f ++ (cNet g hc N tk dom gr va dr off rt cnt lk dl td K E ds)) ++ (mNet g hm N tk dom gr va dr off rt cnt lk dl td M X dm t)) A s H locs := hG
    refine lv_iload hx hb dL_law_790 (lv_at hl 1 rfl) ?_
    refine lv_icmp_eq (tgt := 797) hx hb dL_law_792 (by decide) (fun _ => ?_) (fun c9 => absurd hk c9)
    refine lv_iload hx hb dL_law_797 (lv_at hl 1 rfl) ?_
    refine lv_if_ne (tgt := 814) hx hb dL_law_799 (by decide) (fun _ => ?_) (fun c9 => absurd c9 h9.cd.2)
    refine lv_goto (tgt := 1287) hx hb dL_law_814 (by decide) ?_
    exact kk _ _ _ ⟨_, _, _, _, _, _, _, _, _, _, _, _, _, _, _, _, _, _, _, _, hG, ⟨hN, hg, hlk, hsy, hR⟩, False.elim⟩ (lv_sub hl [2, 3, 4, 5, 6] rfl)

set_option maxHeartbeats 4000000 in
set_option maxRecDepth 100000 in
theorem lc_11 {p : Program} {e : Env} {s : State} {m : MethodId} {below : List Frame} {meth : Method} {c : Code} (l : Launch) (hl0 : l.stackTraces = false) {b L : Nat} {xs : Nat → Int32} (hL30 : L < 2 ^ 30) (C0 : lw_At p s m meth c b L xs) {z : Prop} {g : EN} {hc hm : Nat → Nat} {o : Nat} {A : Nat → Prop} (hbA : ¬ A b) {i : Nat} (hi : i + 5 ≤ L) {H : Heap} {locs : List Loc} {cells slots : Nat} (hroom : cells + 2 ≤ room_1.cells ∧ slots + 16 ≤ room_1.slots) (hI : LI z g hc hm o A s H locs) {Q : State → Prop} {ls : Array Slot} (hl : lv_has ls 8 [(0, .ref b), (1, .ref (hc 0)), (2, .ref (hm 0)), (3, .ref o), (4, .int (nI i))])
    (kk : ∀ (H1 : Heap) (locs1 : List Loc) (ls1 : Array Slot), LI False g hc hm o A s H1 locs1 → lv_has ls1 8 [(0, .ref b), (1, .ref (hc 0)), (2, .ref (hm 0)), (3, .ref o), (4, .int (nI i))] → W p l e room_1 s m #[Value.ref b] below meth c H1 locs1 (cells + 1) (slots + 6) Q (F0 m 1287 ls1 [])) : W p l e room_1 s m #[Value.ref b] below meth c H locs cells slots Q (F0 m 817 ls []) := by
  obtain ⟨hx, hb, hr, hml, hown, hts, hX, hbl, hlocks, hgv⟩ := C0
  have hM : CallFix p m c cL_law 8 s #[Value.ref b] wsL_law RL := ⟨hx, hb, hml, hown, fun w h => hts w (wsL_law_in w h)⟩
  obtain ⟨N, tk, dom, gr, va, dr, off, rt, cnt, lk, dl, td, K, E, ds, M, X, dm, thr, f, hG, ⟨hN, hg, hlk, hsy, hR⟩, hz0⟩ := hI
  refine lv_aload_n hx hb dL_law_817 rfl (lv_at hl 1 rfl) ?_
  refine lv_aload_n hx hb dL_law_818 rfl (lv_at hl 0 rfl) ?_
  refine lv_iload hx hb dL_law_819 (lv_at hl 4 rfl) ?_
  refine lv_iconst (v := 1) hx hb dL_law_821 (by decide) ?_
  refine lv_iadd hx hb dL_law_822 ?_
  refine q_ren (nI_add i 1) ?_
  refine q_sld hM hG hX hbl hbA (by omega) hL30 dL_law_823 ?_
  refine lv_aload_n hx hb dL_law_824 rfl (lv_at hl 3 rfl) ?_
  refine q_callW (n := 3) (As := [.ref (hc 0), .int (xs (i + 1)), .ref o]) (rest := []) hM hl.1 hG (w_steps l hl0 g hc o f N tk dom gr va dr off rt cnt lk dl td K E ds (xs (i + 1)) hN) rfl gL_law_L_steps (by decide +kernel) ⟨Nat.le_of_ble_eq_true rfl, Nat.le_of_ble_eq_true rfl⟩ rfl rfl (Nat.le_of_ble_eq_true rfl) dL_law_825 (c1 := cells + 1) (s1 := slots + 6) rfl rfl ⟨by omega, by omega⟩ (fun r v H locs hp hG => ?_)
  rcases v with ⟨u1, f1⟩ | _
  · obtain ⟨rfl, r0, hc0, hf⟩ := hp
    dsimp only at hc0 hf
    obtain ⟨i0, hi0, hx0, rfl⟩ := hc0
    have hG : cC g ((oNet g o f1 ++ (cNet g hc N tk dom gr va dr off rt cnt lk dl td K E ds)) ++ (mNet g hm N tk dom gr va dr off rt cnt lk dl td M X dm thr)) A s H locs := hG
    refine lv_istore (lv' := [(5, .int 0), (0, .ref b), (1, .ref (hc 0)), (2, .ref (hm 0)), (3, .ref o), (4, .int (nI i))]) hx hb dL_law_828 hl (by decide) rfl (fun ls hl => ?_)
    refine lv_aload_n hx hb dL_law_830 rfl (lv_at hl 3 rfl) ?_
    refine lv_aload_n hx hb dL_law_831 rfl (lv_at hl 1 rfl) ?_
    refine lv_iload hx hb dL_law_832 (lv_at hl 5 rfl) ?_
    refine lv_iconst (v := 1) hx hb dL_law_834 (by decide) ?_
    refine lv_iadd hx hb dL_law_835 ?_
    refine q_ren (nI_add i 1) ?_
    refine q_sld hM hG hX hbl hbA (by omega) hL30 dL_law_836 ?_
    refine q_callMi (n := 1) (As := [.int (xs (i + 1))]) (rest := []) hM hl.1 hG (c_X3_steps l g hm N tk dom gr va dr off rt cnt lk dl td M X dm thr (xs (i + 1)) hN) rfl gL_law_X3_steps (by decide +kernel) ⟨Nat.le_of_ble_eq_true rfl, Nat.le_of_ble_eq_true rfl⟩ 0 rfl rfl rfl rfl rfl (Nat.le_of_ble_eq_true rfl) dL_law_837 (c1 := cells + 1) (s1 := slots + 6) rfl rfl ⟨by omega, by omega⟩ (fun rb u2 H locs hp2 hG => ?_)
    obtain ⟨t, ht9⟩ : ∃ t, t = u2 := ⟨_, rfl⟩
    subst ht9
    obtain rfl : t = 0 := cd1.ok hp2.1 ⟨i0, hi0, hx0⟩
    obtain ⟨i1, hi1, hx1, rfl⟩ := hp2.2.1 rfl
    obtain rfl : i0 = i1 := (nI_eq (by omega) (by omega)).mp (hx0.symm.trans hx1)
    have hG : cC g ((oNet g o f1 ++ (cNet g hc N tk dom gr va dr off rt cnt lk dl td K E ds)) ++ (mNet g hm N tk dom gr va dr off rt cnt lk dl td M X dm 0)) A s H locs := hG
    refine lv_istore (lv' := [(6, .int (M.2.2.2.1 i0)), (5, .int 0), (0, .ref b), (1, .ref (hc 0)), (2, .ref (hm 0)), (3, .ref o), (4, .int (nI i))]) hx hb dL_law_840 hl (by decide) rfl (fun ls hl => ?_)
    refine lv_aload_n hx hb dL_law_842 rfl (lv_at hl 4 rfl) ?_
    refine q_callMi (n := 0) (As := []) (rest := []) hM hl.1 hG (c_X3_thrown l g hm N tk dom gr va dr off rt cnt lk dl td M X dm 0) rfl gL_law_X3_thrown (by decide +kernel) ⟨Nat.le_of_ble_eq_true rfl, Nat.le_of_ble_eq_true rfl⟩ 0 rfl rfl rfl rfl rfl (Nat.le_of_ble_eq_true rfl) dL_law_843 (c1 := cells + 1) (s1 := slots + 6) rfl rfl ⟨by omega, by omega⟩ (fun rt9 ut9 H locs hp9 hG => ?_)
    obtain rfl := hp9.symm
    have hG : cC g ((oNet g o f1 ++ (cNet g hc N tk dom gr va dr off rt cnt lk dl td K E ds)) ++ (mNet g hm N tk dom gr va dr off rt cnt lk dl td M X dm 0)) A s H locs := hG
    refine lv_iload hx hb dL_law_846 (lv_at hl 1 rfl) ?_
    refine lv_icmp_eq (tgt := 853) hx hb dL_law_848 (by decide) (fun _ => ?_) (fun c9 => absurd rfl c9)
    refine lv_iload hx hb dL_law_853 (lv_at hl 1 rfl) ?_
    refine lv_if_ne (tgt := 870) hx hb dL_law_855 (by decide) (fun c9 => absurd rfl c9) (fun _ => ?_)
    refine lv_aload_n hx hb dL_law_858 rfl (lv_at hl 5 rfl) ?_
    refine lv_iconst (v := 0) hx hb dL_law_859 (by decide) ?_
    refine q_lald hM hG 0 (i := 0) rfl (by decide) (by decide) dL_law_860 ?_
    refine lv_iload hx hb dL_law_861 (lv_at hl 0 rfl) ?_
    refine lv_i2l hx hb dL_law_863 rfl ?_
    refine W.lcmp hx hb dL_law_864 ?_
    refine q_ren (lg_eq0 (hf.trans (congrArg Int32.toInt64 (by rw [hR.2.1])))) ?_
    refine lv_if_eq (tgt := 870) hx hb dL_law_865 (by decide) (fun _ => ?_) (fun c9 => absurd rfl c9)
    refine lv_goto (tgt := 1287) hx hb dL_law_870 (by decide) ?_
    exact kk _ _ _ ⟨_, _, _, _, _, _, _, _, _, _, _, _, _, _, _, _, _, _, _, _, hG, ⟨hN, hg, hlk, hsy, hR⟩, False.elim⟩ (lv_sub hl [2, 3, 4, 5, 6] rfl)
  · have hG : cC g ((oNet g o f ++ (cNet g hc N tk dom gr va dr off rt cnt lk dl td K E ds)) ++ (mNet g hm N tk dom gr va dr off rt cnt lk dl td M X dm thr)) A s H locs := hG
    have h9 : xk1 r (okN N (xs (i + 1))) := hp
    refine lv_istore (lv' := [(5, .int r), (0, .ref b), (1, .ref (hc 0)), (2, .ref (hm 0)), (3, .ref o), (4, .int (nI i))]) hx hb dL_law_828 hl (by decide) rfl (fun ls hl => ?_)
    refine lv_aload_n hx hb dL_law_830 rfl (lv_at hl 3 rfl) ?_
    refine lv_aload_n hx hb dL_law_831 rfl (lv_at hl 1 rfl) ?_
    refine lv_iload hx hb dL_law_832 (lv_at hl 5 rfl) ?_
    refine lv_iconst (v := 1) hx hb dL_law_834 (by decide) ?_
    refine lv_iadd hx hb dL_law_835 ?_
    refine q_ren (nI_add i 1) ?_
    refine q_sld hM hG hX hbl hbA (by omega) hL30 dL_law_836 ?_
    refine q_callMi (n := 1) (As := [.int (xs (i + 1))]) (rest := []) hM hl.1 hG (c_X3_steps l g hm N tk dom gr va dr off rt cnt lk dl td M X dm thr (xs (i + 1)) hN) rfl gL_law_X3_steps (by decide +kernel) ⟨Nat.le_of_ble_eq_true rfl, Nat.le_of_ble_eq_true rfl⟩ 0 rfl rfl rfl rfl rfl (Nat.le_of_ble_eq_true rfl) dL_law_837 (c1 := cells + 1) (s1 := slots + 6) rfl rfl ⟨by omega, by omega⟩ (fun rb u2 H locs hp2 hG => ?_)
    obtain ⟨t, ht9⟩ : ∃ t, t = u2 := ⟨_, rfl⟩
    subst ht9
    have hk : t = r := cd1_uniq hp2.1 h9.cd.1
    have h0 : ¬ t = 0 := by rw [hk]; exact h9.cd.2
    have hG : cC g ((oNet g o f ++ (cNet g hc N tk dom gr va dr off rt cnt lk dl td K E ds)) ++ (mNet g hm N tk dom gr va dr off rt cnt lk dl td M X dm t)) A s H locs := hG
    refine lv_istore (lv' := [(6, .int rb), (5, .int r), (0, .ref b), (1, .ref (hc 0)), (2, .ref (hm 0)), (3, .ref o), (4, .int (nI i))]) hx hb dL_law_840 hl (by decide) rfl (fun ls hl => ?_)
    refine lv_aload_n hx hb dL_law_842 rfl (lv_at hl 4 rfl) ?_
    refine q_callMi (n := 0) (As := []) (rest := []) hM hl.1 hG (c_X3_thrown l g hm N tk dom gr va dr off rt cnt lk dl td M X dm t) rfl gL_law_X3_thrown (by decide +kernel) ⟨Nat.le_of_ble_eq_true rfl, Nat.le_of_ble_eq_true rfl⟩ 0 rfl rfl rfl rfl rfl (Nat.le_of_ble_eq_true rfl) dL_law_843 (c1 := cells + 1) (s1 := slots + 6) rfl rfl ⟨by omega, by omega⟩ (fun rt9 ut9 H locs hp9 hG => ?_)
    obtain rfl := hp9.symm
    have hG : cC g ((oNet g o f ++ (cNet g hc N tk dom gr va dr off rt cnt lk dl td K E ds)) ++ (mNet g hm N tk dom gr va dr off rt cnt lk dl td M X dm t)) A s H locs := hG
    refine lv_iload hx hb dL_law_846 (lv_at hl 1 rfl) ?_
    refine lv_icmp_eq (tgt := 853) hx hb dL_law_848 (by decide) (fun _ => ?_) (fun c9 => absurd hk c9)
    refine lv_iload hx hb dL_law_853 (lv_at hl 1 rfl) ?_
    refine lv_if_ne (tgt := 870) hx hb dL_law_855 (by decide) (fun _ => ?_) (fun c9 => absurd c9 h9.cd.2)
    refine lv_goto (tgt := 1287) hx hb dL_law_870 (by decide) ?_
    exact kk _ _ _ ⟨_, _, _, _, _, _, _, _, _, _, _, _, _, _, _, _, _, _, _, _, hG, ⟨hN, hg, hlk, hsy, hR⟩, False.elim⟩ (lv_sub hl [2, 3, 4, 5, 6] rfl)

set_option maxHeartbeats 4000000 in
set_option maxRecDepth 100000 in
theorem lc_12 {p : Program} {e : Env} {s : State} {m : MethodId} {below : List Frame} {meth : Method} {c : Code} (l : Launch) (hl0 : l.stackTraces = false) {b L : Nat} {xs : Nat → Int32} (hL30 : L < 2 ^ 30) (C0 : lw_At p s m meth c b L xs) {z : Prop} {g : EN} {hc hm : Nat → Nat} {o : Nat} {A : Nat → Prop} (hbA : ¬ A b) {i : Nat} (hi : i + 5 ≤ L) {H : Heap} {locs : List Loc} {cells slots : Nat} (hroom : cells + 2 ≤ room_1.cells ∧ slots + 16 ≤ room_1.slots) (hI : LI z g hc hm o A s H locs) {Q : State → Prop} {ls : Array Slot} (hl : lv_has ls 8 [(0, .ref b), (1, .ref (hc 0)), (2, .ref (hm 0)), (3, .ref o), (4, .int (nI i))])
    (kk : ∀ (H1 : Heap) (locs1 : List Loc) (ls1 : Array Slot), LI False g hc hm o A s H1 locs1 → lv_has ls1 8 [(0, .ref b), (1, .ref (hc 0)), (2, .ref (hm 0)), (3, .ref o), (4, .int (nI i))] → W p l e room_1 s m #[Value.ref b] below meth c H1 locs1 (cells + 1) (slots + 6) Q (F0 m 1287 ls1 [])) : W p l e room_1 s m #[Value.ref b] below meth c H locs cells slots Q (F0 m 873 ls []) := by
  obtain ⟨hx, hb, hr, hml, hown, hts, hX, hbl, hlocks, hgv⟩ := C0
  have hM : CallFix p m c cL_law 8 s #[Value.ref b] wsL_law RL := ⟨hx, hb, hml, hown, fun w h => hts w (wsL_law_in w h)⟩
  obtain ⟨N, tk, dom, gr, va, dr, off, rt, cnt, lk, dl, td, K, E, ds, M, X, dm, thr, f, hG, ⟨hN, hg, hlk, hsy, hR⟩, hz0⟩ := hI
  refine lv_aload_n hx hb dL_law_873 rfl (lv_at hl 1 rfl) ?_
  refine lv_aload_n hx hb dL_law_874 rfl (lv_at hl 0 rfl) ?_
  refine lv_iload hx hb dL_law_875 (lv_at hl 4 rfl) ?_
  refine lv_iconst (v := 1) hx hb dL_law_877 (by decide) ?_
  refine lv_iadd hx hb dL_law_878 ?_
  refine q_ren (nI_add i 1) ?_
  refine q_sld hM hG hX hbl hbA (by omega) hL30 dL_law_879 ?_
  refine lv_aload_n hx hb dL_law_880 rfl (lv_at hl 3 rfl) ?_
  refine q_callW (n := 3) (As := [.ref (hc 0), .int (xs (i + 1)), .ref o]) (rest := []) hM hl.1 hG (w_parent l hl0 g hc o f N tk dom gr va dr off rt cnt lk dl td K E ds (xs (i + 1)) hN) rfl gL_law_L_parent (by decide +kernel) ⟨Nat.le_of_ble_eq_true rfl, Nat.le_of_ble_eq_true rfl⟩ rfl rfl (Nat.le_of_ble_eq_true rfl) dL_law_881 (c1 := cells + 1) (s1 := slots + 6) rfl rfl ⟨by omega, by omega⟩ (fun r v H locs hp hG => ?_)
  rcases v with ⟨u1, f1⟩ | _
  · obtain ⟨rfl, r0, hc0, hf⟩ := hp
    dsimp only at hc0 hf
    obtain ⟨i0, hi0, hx0, rfl⟩ := hc0
    have hG : cC g ((oNet g o f1 ++ (cNet g hc N tk dom gr va dr off rt cnt lk dl td K E ds)) ++ (mNet g hm N tk dom gr va dr off rt cnt lk dl td M X dm thr)) A s H locs := hG
    refine lv_istore (lv' := [(5, .int 0), (0, .ref b), (1, .ref (hc 0)), (2, .ref (hm 0)), (3, .ref o), (4, .int (nI i))]) hx hb dL_law_884 hl (by decide) rfl (fun ls hl => ?_)
    refine lv_aload_n hx hb dL_law_886 rfl (lv_at hl 3 rfl) ?_
    refine lv_aload_n hx hb dL_law_887 rfl (lv_at hl 1 rfl) ?_
    refine lv_iload hx hb dL_law_888 (lv_at hl 5 rfl) ?_
    refine lv_iconst (v := 1) hx hb dL_law_890 (by decide) ?_
    refine lv_iadd hx hb dL_law_891 ?_
    refine q_ren (nI_add i 1) ?_
    refine q_sld hM hG hX hbl hbA (by omega) hL30 dL_law_892 ?_
    refine q_callMi (n := 1) (As := [.int (xs (i + 1))]) (rest := []) hM hl.1 hG (c_X3_parent l g hm N tk dom gr va dr off rt cnt lk dl td M X dm thr (xs (i + 1)) hN) rfl gL_law_X3_parent (by decide +kernel) ⟨Nat.le_of_ble_eq_true rfl, Nat.le_of_ble_eq_true rfl⟩ 0 rfl rfl rfl rfl rfl (Nat.le_of_ble_eq_true rfl) dL_law_893 (c1 := cells + 1) (s1 := slots + 6) rfl rfl ⟨by omega, by omega⟩ (fun rb u2 H locs hp2 hG => ?_)
    obtain ⟨t, ht9⟩ : ∃ t, t = u2 := ⟨_, rfl⟩
    subst ht9
    obtain rfl : t = 0 := cd1.ok hp2.1 ⟨i0, hi0, hx0⟩
    obtain ⟨i1, hi1, hx1, rfl⟩ := hp2.2.1 rfl
    obtain rfl : i0 = i1 := (nI_eq (by omega) (by omega)).mp (hx0.symm.trans hx1)
    have hG : cC g ((oNet g o f1 ++ (cNet g hc N tk dom gr va dr off rt cnt lk dl td K E ds)) ++ (mNet g hm N tk dom gr va dr off rt cnt lk dl td M X dm 0)) A s H locs := hG
    refine lv_istore (lv' := [(6, .int (M.2.2.2.2 i0)), (5, .int 0), (0, .ref b), (1, .ref (hc 0)), (2, .ref (hm 0)), (3, .ref o), (4, .int (nI i))]) hx hb dL_law_896 hl (by decide) rfl (fun ls hl => ?_)
    refine lv_aload_n hx hb dL_law_898 rfl (lv_at hl 4 rfl) ?_
    refine q_callMi (n := 0) (As := []) (rest := []) hM hl.1 hG (c_X3_thrown l g hm N tk dom gr va dr off rt cnt lk dl td M X dm 0) rfl gL_law_X3_thrown (by decide +kernel) ⟨Nat.le_of_ble_eq_true rfl, Nat.le_of_ble_eq_true rfl⟩ 0 rfl rfl rfl rfl rfl (Nat.le_of_ble_eq_true rfl) dL_law_899 (c1 := cells + 1) (s1 := slots + 6) rfl rfl ⟨by omega, by omega⟩ (fun rt9 ut9 H locs hp9 hG => ?_)
    obtain rfl := hp9.symm
    have hG : cC g ((oNet g o f1 ++ (cNet g hc N tk dom gr va dr off rt cnt lk dl td K E ds)) ++ (mNet g hm N tk dom gr va dr off rt cnt lk dl td M X dm 0)) A s H locs := hG
    refine lv_iload hx hb dL_law_902 (lv_at hl 1 rfl) ?_
    refine lv_icmp_eq (tgt := 909) hx hb dL_law_904 (by decide) (fun _ => ?_) (fun c9 => absurd rfl c9)
    refine lv_iload hx hb dL_law_909 (lv_at hl 1 rfl) ?_
    refine lv_if_ne (tgt := 926) hx hb dL_law_911 (by decide) (fun c9 => absurd rfl c9) (fun _ => ?_)
    refine lv_aload_n hx hb dL_law_914 rfl (lv_at hl 5 rfl) ?_
    refine lv_iconst (v := 0) hx hb dL_law_915 (by decide) ?_
    refine q_lald hM hG 0 (i := 0) rfl (by decide) (by decide) dL_law_916 ?_
    refine lv_iload hx hb dL_law_917 (lv_at hl 0 rfl) ?_
    refine lv_i2l hx hb dL_law_919 rfl ?_
    refine W.lcmp hx hb dL_law_920 ?_
    refine q_ren (lg_eq0 (hf.trans (congrArg Int32.toInt64 (by rw [hR.2.2.1])))) ?_
    refine lv_if_eq (tgt := 926) hx hb dL_law_921 (by decide) (fun _ => ?_) (fun c9 => absurd rfl c9)
    refine lv_goto (tgt := 1287) hx hb dL_law_926 (by decide) ?_
    exact kk _ _ _ ⟨_, _, _, _, _, _, _, _, _, _, _, _, _, _, _, _, _, _, _, _, hG, ⟨hN, hg, hlk, hsy, hR⟩, False.elim⟩ (lv_sub hl [2, 3, 4, 5, 6] rfl)
  · have hG : cC g ((oNet g o f ++ (cNet g hc N tk dom gr va dr off rt cnt lk dl td K E ds)) ++ (mNet g hm N tk dom gr va dr off rt cnt lk dl td M X dm thr)) A s H locs := hG
    have h9 : xk1 r (okN N (xs (i + 1))) := hp
    refine lv_istore (lv' := [(5, .int r), (0, .ref b), (1, .ref (hc 0)), (2, .ref (hm 0)), (3, .ref o), (4, .int (nI i))]) hx hb dL_law_884 hl (by decide) rfl (fun ls hl => ?_)
    refine lv_aload_n hx hb dL_law_886 rfl (lv_at hl 3 rfl) ?_
    refine lv_aload_n hx hb dL_law_887 rfl (lv_at hl 1 rfl) ?_
    refine lv_iload hx hb dL_law_888 (lv_at hl 5 rfl) ?_
    refine lv_iconst (v := 1) hx hb dL_law_890 (by decide) ?_
    refine lv_iadd hx hb dL_law_891 ?_
    refine q_ren (nI_add i 1) ?_
    refine q_sld hM hG hX hbl hbA (by omega) hL30 dL_law_892 ?_
    refine q_callMi (n := 1) (As := [.int (xs (i + 1))]) (rest := []) hM hl.1 hG (c_X3_parent l g hm N tk dom gr va dr off rt cnt lk dl td M X dm thr (xs (i + 1)) hN) rfl gL_law_X3_parent (by decide +kernel) ⟨Nat.le_of_ble_eq_true rfl, Nat.le_of_ble_eq_true rfl⟩ 0 rfl rfl rfl rfl rfl (Nat.le_of_ble_eq_true rfl) dL_law_893 (c1 := cells + 1) (s1 := slots + 6) rfl rfl ⟨by omega, by omega⟩ (fun rb u2 H locs hp2 hG => ?_)
    obtain ⟨t, ht9⟩ : ∃ t, t = u2 := ⟨_, rfl⟩
    subst ht9
    have hk : t = r := cd1_uniq hp2.1 h9.cd.1
    have h0 : ¬ t = 0 := by rw [hk]; exact h9.cd.2
    have hG : cC g ((oNet g o f ++ (cNet g hc N tk dom gr va dr off rt cnt lk dl td K E ds)) ++ (mNet g hm N tk dom gr va dr off rt cnt lk dl td M X dm t)) A s H locs := hG
    refine lv_istore (lv' := [(6, .int rb), (5, .int r), (0, .ref b), (1, .ref (hc 0)), (2, .ref (hm 0)), (3, .ref o), (4, .int (nI i))]) hx hb dL_law_896 hl (by decide) rfl (fun ls hl => ?_)
    refine lv_aload_n hx hb dL_law_898 rfl (lv_at hl 4 rfl) ?_
    refine q_callMi (n := 0) (As := []) (rest := []) hM hl.1 hG (c_X3_thrown l g hm N tk dom gr va dr off rt cnt lk dl td M X dm t) rfl gL_law_X3_thrown (by decide +kernel) ⟨Nat.le_of_ble_eq_true rfl, Nat.le_of_ble_eq_true rfl⟩ 0 rfl rfl rfl rfl rfl (Nat.le_of_ble_eq_true rfl) dL_law_899 (c1 := cells + 1) (s1 := slots + 6) rfl rfl ⟨by omega, by omega⟩ (fun rt9 ut9 H locs hp9 hG => ?_)
    obtain rfl := hp9.symm
    have hG : cC g ((oNet g o f ++ (cNet g hc N tk dom gr va dr off rt cnt lk dl td K E ds)) ++ (mNet g hm N tk dom gr va dr off rt cnt lk dl td M X dm t)) A s H locs := hG
    refine lv_iload hx hb dL_law_902 (lv_at hl 1 rfl) ?_
    refine lv_icmp_eq (tgt := 909) hx hb dL_law_904 (by decide) (fun _ => ?_) (fun c9 => absurd hk c9)
    refine lv_iload hx hb dL_law_909 (lv_at hl 1 rfl) ?_
    refine lv_if_ne (tgt := 926) hx hb dL_law_911 (by decide) (fun _ => ?_) (fun c9 => absurd c9 h9.cd.2)
    refine lv_goto (tgt := 1287) hx hb dL_law_926 (by decide) ?_
    exact kk _ _ _ ⟨_, _, _, _, _, _, _, _, _, _, _, _, _, _, _, _, _, _, _, _, hG, ⟨hN, hg, hlk, hsy, hR⟩, False.elim⟩ (lv_sub hl [2, 3, 4, 5, 6] rfl)

set_option maxHeartbeats 4000000 in
set_option maxRecDepth 100000 in
theorem lc_13 {p : Program} {e : Env} {s : State} {m : MethodId} {below : List Frame} {meth : Method} {c : Code} (l : Launch) (hl0 : l.stackTraces = false) {b L : Nat} {xs : Nat → Int32} (hL30 : L < 2 ^ 30) (C0 : lw_At p s m meth c b L xs) {z : Prop} {g : EN} {hc hm : Nat → Nat} {o : Nat} {A : Nat → Prop} (hbA : ¬ A b) {i : Nat} (hi : i + 5 ≤ L) {H : Heap} {locs : List Loc} {cells slots : Nat} (hroom : cells + 2 ≤ room_1.cells ∧ slots + 16 ≤ room_1.slots) (hI : LI z g hc hm o A s H locs) {Q : State → Prop} {ls : Array Slot} (hl : lv_has ls 8 [(0, .ref b), (1, .ref (hc 0)), (2, .ref (hm 0)), (3, .ref o), (4, .int (nI i))])
    (kk : ∀ (H1 : Heap) (locs1 : List Loc) (ls1 : Array Slot), LI False g hc hm o A s H1 locs1 → lv_has ls1 8 [(0, .ref b), (1, .ref (hc 0)), (2, .ref (hm 0)), (3, .ref o), (4, .int (nI i))] → W p l e room_1 s m #[Value.ref b] below meth c H1 locs1 (cells + 1) (slots + 6) Q (F0 m 1287 ls1 [])) : W p l e room_1 s m #[Value.ref b] below meth c H locs cells slots Q (F0 m 929 ls []) := by
  obtain ⟨hx, hb, hr, hml, hown, hts, hX, hbl, hlocks, hgv⟩ := C0
  have hM : CallFix p m c cL_law 8 s #[Value.ref b] wsL_law RL := ⟨hx, hb, hml, hown, fun w h => hts w (wsL_law_in w h)⟩
  obtain ⟨N, tk, dom, gr, va, dr, off, rt, cnt, lk, dl, td, K, E, ds, M, X, dm, thr, f, hG, ⟨hN, hg, hlk, hsy, hR⟩, hz0⟩ := hI
  refine lv_aload_n hx hb dL_law_929 rfl (lv_at hl 1 rfl) ?_
  refine lv_aload_n hx hb dL_law_930 rfl (lv_at hl 0 rfl) ?_
  refine lv_iload hx hb dL_law_931 (lv_at hl 4 rfl) ?_
  refine lv_iconst (v := 1) hx hb dL_law_933 (by decide) ?_
  refine lv_iadd hx hb dL_law_934 ?_
  refine q_ren (nI_add i 1) ?_
  refine q_sld hM hG hX hbl hbA (by omega) hL30 dL_law_935 ?_
  refine lv_aload_n hx hb dL_law_936 rfl (lv_at hl 0 rfl) ?_
  refine lv_iload hx hb dL_law_937 (lv_at hl 4 rfl) ?_
  refine lv_iconst (v := 2) hx hb dL_law_939 (by decide) ?_
  refine lv_iadd hx hb dL_law_940 ?_
  refine q_ren (nI_add i 2) ?_
  refine q_sld hM hG hX hbl hbA (by omega) hL30 dL_law_941 ?_
  refine lv_aload_n hx hb dL_law_942 rfl (lv_at hl 3 rfl) ?_
  refine q_callW (n := 4) (As := [.ref (hc 0), .int (xs (i + 1)), .int (xs (i + 2)), .ref o]) (rest := []) hM hl.1 hG (w_port l hl0 g hc o f N tk dom gr va dr off rt cnt lk dl td K E ds (xs (i + 1)) (xs (i + 2)) hN hlk) rfl gL_law_L_port (by decide +kernel) ⟨Nat.le_of_ble_eq_true rfl, Nat.le_of_ble_eq_true rfl⟩ rfl rfl (Nat.le_of_ble_eq_true rfl) dL_law_943 (c1 := cells + 1) (s1 := slots + 6) rfl rfl ⟨by omega, by omega⟩ (fun r v H locs hp hG => ?_)
  rcases v with ⟨u1, f1⟩ | _
  · obtain ⟨rfl, r0, hc0, hf⟩ := hp
    dsimp only at hc0 hf
    obtain ⟨i0, j0, hi0, hj0, hx0, hy0, rfl⟩ := hc0
    have hG : cC g ((oNet g o f1 ++ (cNet g hc N tk dom gr va dr off rt cnt lk dl td K E ds)) ++ (mNet g hm N tk dom gr va dr off rt cnt lk dl td M X dm thr)) A s H locs := hG
    refine lv_istore (lv' := [(5, .int 0), (0, .ref b), (1, .ref (hc 0)), (2, .ref (hm 0)), (3, .ref o), (4, .int (nI i))]) hx hb dL_law_946 hl (by decide) rfl (fun ls hl => ?_)
    refine lv_aload_n hx hb dL_law_948 rfl (lv_at hl 3 rfl) ?_
    refine lv_aload_n hx hb dL_law_949 rfl (lv_at hl 1 rfl) ?_
    refine lv_iload hx hb dL_law_950 (lv_at hl 5 rfl) ?_
    refine lv_iconst (v := 1) hx hb dL_law_952 (by decide) ?_
    refine lv_iadd hx hb dL_law_953 ?_
    refine q_ren (nI_add i 1) ?_
    refine q_sld hM hG hX hbl hbA (by omega) hL30 dL_law_954 ?_
    refine lv_aload_n hx hb dL_law_955 rfl (lv_at hl 1 rfl) ?_
    refine lv_iload hx hb dL_law_956 (lv_at hl 5 rfl) ?_
    refine lv_iconst (v := 2) hx hb dL_law_958 (by decide) ?_
    refine lv_iadd hx hb dL_law_959 ?_
    refine q_ren (nI_add i 2) ?_
    refine q_sld hM hG hX hbl hbA (by omega) hL30 dL_law_960 ?_
    refine q_callMi (n := 2) (As := [.int (xs (i + 1)), .int (xs (i + 2))]) (rest := []) hM hl.1 hG (c_X3_port l g hm N tk dom gr va dr off rt cnt lk dl td M X dm thr (xs (i + 1)) (xs (i + 2)) hN hlk) rfl gL_law_X3_port (by decide +kernel) ⟨Nat.le_of_ble_eq_true rfl, Nat.le_of_ble_eq_true rfl⟩ 0 rfl rfl rfl rfl rfl (Nat.le_of_ble_eq_true rfl) dL_law_961 (c1 := cells + 1) (s1 := slots + 6) rfl rfl ⟨by omega, by omega⟩ (fun rb u2 H locs hp2 hG => ?_)
    obtain ⟨t, ht9⟩ : ∃ t, t = u2 := ⟨_, rfl⟩
    subst ht9
    obtain rfl : t = 0 := cd1.ok hp2.1 ⟨⟨i0, hi0, hx0⟩, ⟨j0, hj0, hy0⟩⟩
    obtain ⟨i1, j1, hi1, hj1, hx1, hy1, rfl⟩ := hp2.2.1 rfl
    obtain rfl : i0 = i1 := (nI_eq (by omega) (by omega)).mp (hx0.symm.trans hx1)
    obtain rfl : j0 = j1 := (nI_eq (by omega) (by omega)).mp (hy0.symm.trans hy1)
    have hG : cC g ((oNet g o f1 ++ (cNet g hc N tk dom gr va dr off rt cnt lk dl td K E ds)) ++ (mNet g hm N tk dom gr va dr off rt cnt lk dl td M X dm 0)) A s H locs := hG
    refine lv_istore (lv' := [(6, .int (prt dom lk M.2.2.2.1 M.2.2.2.2 i0 j0)), (5, .int 0), (0, .ref b), (1, .ref (hc 0)), (2, .ref (hm 0)), (3, .ref o), (4, .int (nI i))]) hx hb dL_law_964 hl (by decide) rfl (fun ls hl => ?_)
    refine lv_aload_n hx hb dL_law_966 rfl (lv_at hl 4 rfl) ?_
    refine q_callMi (n := 0) (As := []) (rest := []) hM hl.1 hG (c_X3_thrown l g hm N tk dom gr va dr off rt cnt lk dl td M X dm 0) rfl gL_law_X3_thrown (by decide +kernel) ⟨Nat.le_of_ble_eq_true rfl, Nat.le_of_ble_eq_true rfl⟩ 0 rfl rfl rfl rfl rfl (Nat.le_of_ble_eq_true rfl) dL_law_967 (c1 := cells + 1) (s1 := slots + 6) rfl rfl ⟨by omega, by omega⟩ (fun rt9 ut9 H locs hp9 hG => ?_)
    obtain rfl := hp9.symm
    have hG : cC g ((oNet g o f1 ++ (cNet g hc N tk dom gr va dr off rt cnt lk dl td K E ds)) ++ (mNet g hm N tk dom gr va dr off rt cnt lk dl td M X dm 0)) A s H locs := hG
    refine lv_iload hx hb dL_law_970 (lv_at hl 1 rfl) ?_
    refine lv_icmp_eq (tgt := 977) hx hb dL_law_972 (by decide) (fun _ => ?_) (fun c9 => absurd rfl c9)
    refine lv_iload hx hb dL_law_977 (lv_at hl 1 rfl) ?_
    refine lv_if_ne (tgt := 994) hx hb dL_law_979 (by decide) (fun c9 => absurd rfl c9) (fun _ => ?_)
    refine lv_aload_n hx hb dL_law_982 rfl (lv_at hl 5 rfl) ?_
    refine lv_iconst (v := 0) hx hb dL_law_983 (by decide) ?_
    refine q_lald hM hG 0 (i := 0) rfl (by decide) (by decide) dL_law_984 ?_
    refine lv_iload hx hb dL_law_985 (lv_at hl 0 rfl) ?_
    refine lv_i2l hx hb dL_law_987 rfl ?_
    refine W.lcmp hx hb dL_law_988 ?_
    refine q_ren (lg_eq0 (hf.trans (congrArg Int32.toInt64 (by rw [hR.2.1, hR.2.2.1])))) ?_
    refine lv_if_eq (tgt := 994) hx hb dL_law_989 (by decide) (fun _ => ?_) (fun c9 => absurd rfl c9)
    refine lv_goto (tgt := 1287) hx hb dL_law_994 (by decide) ?_
    exact kk _ _ _ ⟨_, _, _, _, _, _, _, _, _, _, _, _, _, _, _, _, _, _, _, _, hG, ⟨hN, hg, hlk, hsy, hR⟩, False.elim⟩ (lv_sub hl [2, 3, 4, 5, 6] rfl)
  · have hG : cC g ((oNet g o f ++ (cNet g hc N tk dom gr va dr off rt cnt lk dl td K E ds)) ++ (mNet g hm N tk dom gr va dr off rt cnt lk dl td M X dm thr)) A s H locs := hG
    have h9 : xk1 r (okN N (xs (i + 1)) ∧ okN N (xs (i + 2))) := hp
    refine lv_istore (lv' := [(5, .int r), (0, .ref b), (1, .ref (hc 0)), (2, .ref (hm 0)), (3, .ref o), (4, .int (nI i))]) hx hb dL_law_946 hl (by decide) rfl (fun ls hl => ?_)
    refine lv_aload_n hx hb dL_law_948 rfl (lv_at hl 3 rfl) ?_
    refine lv_aload_n hx hb dL_law_949 rfl (lv_at hl 1 rfl) ?_
    refine lv_iload hx hb dL_law_950 (lv_at hl 5 rfl) ?_
    refine lv_iconst (v := 1) hx hb dL_law_952 (by decide) ?_
    refine lv_iadd hx hb dL_law_953 ?_
    refine q_ren (nI_add i 1) ?_
    refine q_sld hM hG hX hbl hbA (by omega) hL30 dL_law_954 ?_
    refine lv_aload_n hx hb dL_law_955 rfl (lv_at hl 1 rfl) ?_
    refine lv_iload hx hb dL_law_956 (lv_at hl 5 rfl) ?_
    refine lv_iconst (v := 2) hx hb dL_law_958 (by decide) ?_
    refine lv_iadd hx hb dL_law_959 ?_
    refine q_ren (nI_add i 2) ?_
    refine q_sld hM hG hX hbl hbA (by omega) hL30 dL_law_960 ?_
    refine q_callMi (n := 2) (As := [.int (xs (i + 1)), .int (xs (i + 2))]) (rest := []) hM hl.1 hG (c_X3_port l g hm N tk dom gr va dr off rt cnt lk dl td M X dm thr (xs (i + 1)) (xs (i + 2)) hN hlk) rfl gL_law_X3_port (by decide +kernel) ⟨Nat.le_of_ble_eq_true rfl, Nat.le_of_ble_eq_true rfl⟩ 0 rfl rfl rfl rfl rfl (Nat.le_of_ble_eq_true rfl) dL_law_961 (c1 := cells + 1) (s1 := slots + 6) rfl rfl ⟨by omega, by omega⟩ (fun rb u2 H locs hp2 hG => ?_)
    obtain ⟨t, ht9⟩ : ∃ t, t = u2 := ⟨_, rfl⟩
    subst ht9
    have hk : t = r := cd1_uniq hp2.1 h9.cd.1
    have h0 : ¬ t = 0 := by rw [hk]; exact h9.cd.2
    have hG : cC g ((oNet g o f ++ (cNet g hc N tk dom gr va dr off rt cnt lk dl td K E ds)) ++ (mNet g hm N tk dom gr va dr off rt cnt lk dl td M X dm t)) A s H locs := hG
    refine lv_istore (lv' := [(6, .int rb), (5, .int r), (0, .ref b), (1, .ref (hc 0)), (2, .ref (hm 0)), (3, .ref o), (4, .int (nI i))]) hx hb dL_law_964 hl (by decide) rfl (fun ls hl => ?_)
    refine lv_aload_n hx hb dL_law_966 rfl (lv_at hl 4 rfl) ?_
    refine q_callMi (n := 0) (As := []) (rest := []) hM hl.1 hG (c_X3_thrown l g hm N tk dom gr va dr off rt cnt lk dl td M X dm t) rfl gL_law_X3_thrown (by decide +kernel) ⟨Nat.le_of_ble_eq_true rfl, Nat.le_of_ble_eq_true rfl⟩ 0 rfl rfl rfl rfl rfl (Nat.le_of_ble_eq_true rfl) dL_law_967 (c1 := cells + 1) (s1 := slots + 6) rfl rfl ⟨by omega, by omega⟩ (fun rt9 ut9 H locs hp9 hG => ?_)
    obtain rfl := hp9.symm
    have hG : cC g ((oNet g o f ++ (cNet g hc N tk dom gr va dr off rt cnt lk dl td K E ds)) ++ (mNet g hm N tk dom gr va dr off rt cnt lk dl td M X dm t)) A s H locs := hG
    refine lv_iload hx hb dL_law_970 (lv_at hl 1 rfl) ?_
    refine lv_icmp_eq (tgt := 977) hx hb dL_law_972 (by decide) (fun _ => ?_) (fun c9 => absurd hk c9)
    refine lv_iload hx hb dL_law_977 (lv_at hl 1 rfl) ?_
    refine lv_if_ne (tgt := 994) hx hb dL_law_979 (by decide) (fun _ => ?_) (fun c9 => absurd c9 h9.cd.2)
    refine lv_goto (tgt := 1287) hx hb dL_law_994 (by decide) ?_
    exact kk _ _ _ ⟨_, _, _, _, _, _, _, _, _, _, _, _, _, _, _, _, _, _, _, _, hG, ⟨hN, hg, hlk, hsy, hR⟩, False.elim⟩ (lv_sub hl [2, 3, 4, 5, 6] rfl)

set_option maxHeartbeats 4000000 in
set_option maxRecDepth 100000 in
theorem lc_14 {p : Program} {e : Env} {s : State} {m : MethodId} {below : List Frame} {meth : Method} {c : Code} (l : Launch) (hl0 : l.stackTraces = false) {b L : Nat} {xs : Nat → Int32} (hL30 : L < 2 ^ 30) (C0 : lw_At p s m meth c b L xs) {z : Prop} {g : EN} {hc hm : Nat → Nat} {o : Nat} {A : Nat → Prop} (hbA : ¬ A b) {i : Nat} (hi : i + 5 ≤ L) {H : Heap} {locs : List Loc} {cells slots : Nat} (hroom : cells + 2 ≤ room_1.cells ∧ slots + 16 ≤ room_1.slots) (hI : LI z g hc hm o A s H locs) {Q : State → Prop} {ls : Array Slot} (hl : lv_has ls 8 [(0, .ref b), (1, .ref (hc 0)), (2, .ref (hm 0)), (3, .ref o), (4, .int (nI i))])
    (kk : ∀ (H1 : Heap) (locs1 : List Loc) (ls1 : Array Slot), LI False g hc hm o A s H1 locs1 → lv_has ls1 8 [(0, .ref b), (1, .ref (hc 0)), (2, .ref (hm 0)), (3, .ref o), (4, .int (nI i))] → W p l e room_1 s m #[Value.ref b] below meth c H1 locs1 (cells + 1) (slots + 6) Q (F0 m 1287 ls1 [])) : W p l e room_1 s m #[Value.ref b] below meth c H locs cells slots Q (F0 m 997 ls []) := by
  obtain ⟨hx, hb, hr, hml, hown, hts, hX, hbl, hlocks, hgv⟩ := C0
  have hM : CallFix p m c cL_law 8 s #[Value.ref b] wsL_law RL := ⟨hx, hb, hml, hown, fun w h => hts w (wsL_law_in w h)⟩
  obtain ⟨N, tk, dom, gr, va, dr, off, rt, cnt, lk, dl, td, K, E, ds, M, X, dm, thr, f, hG, ⟨hN, hg, hlk, hsy, hR⟩, hz0⟩ := hI
  refine lv_aload_n hx hb dL_law_997 rfl (lv_at hl 1 rfl) ?_
  refine lv_aload_n hx hb dL_law_998 rfl (lv_at hl 0 rfl) ?_
  refine lv_iload hx hb dL_law_999 (lv_at hl 4 rfl) ?_
  refine lv_iconst (v := 1) hx hb dL_law_1001 (by decide) ?_
  refine lv_iadd hx hb dL_law_1002 ?_
  refine q_ren (nI_add i 1) ?_
  refine q_sld hM hG hX hbl hbA (by omega) hL30 dL_law_1003 ?_
  refine lv_aload_n hx hb dL_law_1004 rfl (lv_at hl 3 rfl) ?_
  refine q_callW (n := 3) (As := [.ref (hc 0), .int (xs (i + 1)), .ref o]) (rest := []) hM hl.1 hG (w_bestByGraph l hl0 g hc o f N tk dom gr va dr off rt cnt lk dl td K E ds (xs (i + 1)) hN hlk hg) rfl gL_law_L_bestByGraph (by decide +kernel) ⟨Nat.le_of_ble_eq_true rfl, Nat.le_of_ble_eq_true rfl⟩ rfl rfl (Nat.le_of_ble_eq_true rfl) dL_law_1005 (c1 := cells + 1) (s1 := slots + 6) rfl rfl ⟨by omega, by omega⟩ (fun r v H locs hp hG => ?_)
  rcases v with ⟨u1, f1⟩ | _
  · obtain ⟨rfl, r0, hc0, hf⟩ := hp
    dsimp only at hc0 hf
    obtain ⟨i0, hi0, hx0, w0, d0, hbb, rfl⟩ := hc0
    have hG : cC g ((oNet g o f1 ++ (cNet g hc N tk dom gr va dr off rt cnt lk dl td K E u1)) ++ (mNet g hm N tk dom gr va dr off rt cnt lk dl td M X dm thr)) A s H locs := hG
    refine lv_istore (lv' := [(5, .int 0), (0, .ref b), (1, .ref (hc 0)), (2, .ref (hm 0)), (3, .ref o), (4, .int (nI i))]) hx hb dL_law_1008 hl (by decide) rfl (fun ls hl => ?_)
    refine lv_aload_n hx hb dL_law_1010 rfl (lv_at hl 3 rfl) ?_
    refine lv_aload_n hx hb dL_law_1011 rfl (lv_at hl 1 rfl) ?_
    refine lv_iload hx hb dL_law_1012 (lv_at hl 5 rfl) ?_
    refine lv_iconst (v := 1) hx hb dL_law_1014 (by decide) ?_
    refine lv_iadd hx hb dL_law_1015 ?_
    refine q_ren (nI_add i 1) ?_
    refine q_sld hM hG hX hbl hbA (by omega) hL30 dL_law_1016 ?_
    refine q_callMi (n := 1) (As := [.int (xs (i + 1))]) (rest := []) hM hl.1 hG (c_X3_bestByGraph l g hm N tk dom gr va dr off rt cnt lk dl td M X dm thr (xs (i + 1)) hN hlk hsy hg) rfl gL_law_X3_bestByGraph (by decide +kernel) ⟨Nat.le_of_ble_eq_true rfl, Nat.le_of_ble_eq_true rfl⟩ 0 rfl rfl rfl rfl rfl (Nat.le_of_ble_eq_true rfl) dL_law_1017 (c1 := cells + 1) (s1 := slots + 6) rfl rfl ⟨by omega, by omega⟩ (fun rb u2 H locs hp2 hG => ?_)
    obtain ⟨t, m1⟩ := u2
    dsimp only at hp2
    obtain rfl : t = 0 := cd1.ok hp2.1 ⟨i0, hi0, hx0⟩
    obtain ⟨i1, hi1, hx1, w1, d1, hb1, rfl⟩ := hp2.2 rfl
    obtain rfl : i0 = i1 := (nI_eq (by omega) (by omega)).mp (hx0.symm.trans hx1)
    obtain ⟨rfl, rfl⟩ := bestBy_uniq hN hg hbb hb1
    have hG : cC g ((oNet g o f1 ++ (cNet g hc N tk dom gr va dr off rt cnt lk dl td K E u1)) ++ (mNet g hm N tk dom gr va dr off rt cnt lk dl td M X m1 0)) A s H locs := hG
    refine lv_istore (lv' := [(6, .int (nI w0)), (5, .int 0), (0, .ref b), (1, .ref (hc 0)), (2, .ref (hm 0)), (3, .ref o), (4, .int (nI i))]) hx hb dL_law_1020 hl (by decide) rfl (fun ls hl => ?_)
    refine lv_aload_n hx hb dL_law_1022 rfl (lv_at hl 4 rfl) ?_
    refine q_callMi (n := 0) (As := []) (rest := []) hM hl.1 hG (c_X3_thrown l g hm N tk dom gr va dr off rt cnt lk dl td M X m1 0) rfl gL_law_X3_thrown (by decide +kernel) ⟨Nat.le_of_ble_eq_true rfl, Nat.le_of_ble_eq_true rfl⟩ 0 rfl rfl rfl rfl rfl (Nat.le_of_ble_eq_true rfl) dL_law_1023 (c1 := cells + 1) (s1 := slots + 6) rfl rfl ⟨by omega, by omega⟩ (fun rt9 ut9 H locs hp9 hG => ?_)
    obtain rfl := hp9.symm
    have hG : cC g ((oNet g o f1 ++ (cNet g hc N tk dom gr va dr off rt cnt lk dl td K E u1)) ++ (mNet g hm N tk dom gr va dr off rt cnt lk dl td M X m1 0)) A s H locs := hG
    refine lv_iload hx hb dL_law_1026 (lv_at hl 1 rfl) ?_
    refine lv_icmp_eq (tgt := 1033) hx hb dL_law_1028 (by decide) (fun _ => ?_) (fun c9 => absurd rfl c9)
    refine lv_iload hx hb dL_law_1033 (lv_at hl 1 rfl) ?_
    refine lv_if_ne (tgt := 1050) hx hb dL_law_1035 (by decide) (fun c9 => absurd rfl c9) (fun _ => ?_)
    refine lv_aload_n hx hb dL_law_1038 rfl (lv_at hl 5 rfl) ?_
    refine lv_iconst (v := 0) hx hb dL_law_1039 (by decide) ?_
    refine q_lald hM hG 0 (i := 0) rfl (by decide) (by decide) dL_law_1040 ?_
    refine lv_iload hx hb dL_law_1041 (lv_at hl 0 rfl) ?_
    refine lv_i2l hx hb dL_law_1043 rfl ?_
    refine W.lcmp hx hb dL_law_1044 ?_
    refine q_ren (lg_eq0 hf) ?_
    refine lv_if_eq (tgt := 1050) hx hb dL_law_1045 (by decide) (fun _ => ?_) (fun c9 => absurd rfl c9)
    refine lv_goto (tgt := 1287) hx hb dL_law_1050 (by decide) ?_
    exact kk _ _ _ ⟨_, _, _, _, _, _, _, _, _, _, _, _, _, _, _, _, _, _, _, _, hG, ⟨hN, hg, hlk, hsy, hR⟩, False.elim⟩ (lv_sub hl [2, 3, 4, 5, 6] rfl)
  · have hG : cC g ((oNet g o f ++ (cNet g hc N tk dom gr va dr off rt cnt lk dl td K E ds)) ++ (mNet g hm N tk dom gr va dr off rt cnt lk dl td M X dm thr)) A s H locs := hG
    have h9 : xk1 r (okN N (xs (i + 1))) := hp
    refine lv_istore (lv' := [(5, .int r), (0, .ref b), (1, .ref (hc 0)), (2, .ref (hm 0)), (3, .ref o), (4, .int (nI i))]) hx hb dL_law_1008 hl (by decide) rfl (fun ls hl => ?_)
    refine lv_aload_n hx hb dL_law_1010 rfl (lv_at hl 3 rfl) ?_
    refine lv_aload_n hx hb dL_law_1011 rfl (lv_at hl 1 rfl) ?_
    refine lv_iload hx hb dL_law_1012 (lv_at hl 5 rfl) ?_
    refine lv_iconst (v := 1) hx hb dL_law_1014 (by decide) ?_
    refine lv_iadd hx hb dL_law_1015 ?_
    refine q_ren (nI_add i 1) ?_
    refine q_sld hM hG hX hbl hbA (by omega) hL30 dL_law_1016 ?_
    refine q_callMi (n := 1) (As := [.int (xs (i + 1))]) (rest := []) hM hl.1 hG (c_X3_bestByGraph l g hm N tk dom gr va dr off rt cnt lk dl td M X dm thr (xs (i + 1)) hN hlk hsy hg) rfl gL_law_X3_bestByGraph (by decide +kernel) ⟨Nat.le_of_ble_eq_true rfl, Nat.le_of_ble_eq_true rfl⟩ 0 rfl rfl rfl rfl rfl (Nat.le_of_ble_eq_true rfl) dL_law_1017 (c1 := cells + 1) (s1 := slots + 6) rfl rfl ⟨by omega, by omega⟩ (fun rb u2 H locs hp2 hG => ?_)
    obtain ⟨t, m1⟩ := u2
    dsimp only at hp2
    have hk : t = r := cd1_uniq hp2.1 h9.cd.1
    have h0 : ¬ t = 0 := by rw [hk]; exact h9.cd.2
    have hG : cC g ((oNet g o f ++ (cNet g hc N tk dom gr va dr off rt cnt lk dl td K E ds)) ++ (mNet g hm N tk dom gr va dr off rt cnt lk dl td M X m1 t)) A s H locs := hG
    refine lv_istore (lv' := [(6, .int rb), (5, .int r), (0, .ref b), (1, .ref (hc 0)), (2, .ref (hm 0)), (3, .ref o), (4, .int (nI i))]) hx hb dL_law_1020 hl (by decide) rfl (fun ls hl => ?_)
    refine lv_aload_n hx hb dL_law_1022 rfl (lv_at hl 4 rfl) ?_
    refine q_callMi (n := 0) (As := []) (rest := []) hM hl.1 hG (c_X3_thrown l g hm N tk dom gr va dr off rt cnt lk dl td M X m1 t) rfl gL_law_X3_thrown (by decide +kernel) ⟨Nat.le_of_ble_eq_true rfl, Nat.le_of_ble_eq_true rfl⟩ 0 rfl rfl rfl rfl rfl (Nat.le_of_ble_eq_true rfl) dL_law_1023 (c1 := cells + 1) (s1 := slots + 6) rfl rfl ⟨by omega, by omega⟩ (fun rt9 ut9 H locs hp9 hG => ?_)
    obtain rfl := hp9.symm
    have hG : cC g ((oNet g o f ++ (cNet g hc N tk dom gr va dr off rt cnt lk dl td K E ds)) ++ (mNet g hm N tk dom gr va dr off rt cnt lk dl td M X m1 t)) A s H locs := hG
    refine lv_iload hx hb dL_law_1026 (lv_at hl 1 rfl) ?_
    refine lv_icmp_eq (tgt := 1033) hx hb dL_law_1028 (by decide) (fun _ => ?_) (fun c9 => absurd hk c9)
    refine lv_iload hx hb dL_law_1033 (lv_at hl 1 rfl) ?_
    refine lv_if_ne (tgt := 1050) hx hb dL_law_1035 (by decide) (fun _ => ?_) (fun c9 => absurd c9 h9.cd.2)
    refine lv_goto (tgt := 1287) hx hb dL_law_1050 (by decide) ?_
    exact kk _ _ _ ⟨_, _, _, _, _, _, _, _, _, _, _, _, _, _, _, _, _, _, _, _, hG, ⟨hN, hg, hlk, hsy, hR⟩, False.elim⟩ (lv_sub hl [2, 3, 4, 5, 6] rfl)
