set_option maxHeartbeats 4000000 in
set_option maxRecDepth 100000 in
theorem lc_10 {p : Program} {e : Env} {s : State} {m : MethodId} {below : List Frame} {meth : Method} {c : Code} (l : Launch) (hl0 : l.stackTraces = false) {b L : Nat} {xs : Nat → Int32} (hL30 : L < 2 ^ 30) (C0 : lw_At p s m meth c b L xs) {z : Prop} {g : EN} {hc hm : Nat → Nat} {o : Nat} {A : Nat → Prop} (hbA : ¬ A b) {i : Nat} (hi : i + 5 ≤ L) {H : Heap} {locs : List Loc} {cells slots : Nat} (hroom : cells + 2 ≤ room_1.cells ∧ slots + 16 ≤ room_1.slots) (hI : LI z g hc hm o A s H locs) {Q : State → Prop} {ls : Array Slot} (hl : lv_has ls 8 [(0, .ref b), (1, .ref (hc 0)), (2, .ref (hm 0)), (3, .ref o), (4, .int (nI i))])
    (kk : ∀ (H1 : Heap) (locs1 : List Loc) (ls1 : Array Slot), LI False g hc hm o A s H1 locs1 → lv_has ls1 8 [(0, .ref b), (1, .ref (hc 0)), (2, .ref (hm 0)), (3, .ref o), (4, .int (nI i))] → W p l e room_1 s m #[Value.ref b] below meth c H1 locs1 (cells + 1) (slots + 6) Q (F0 m 843 ls1 [])) : W p l e room_1 s m #[Value.ref b] below meth c H locs cells slots Q (F0 m 538 ls []) := by
  obtain ⟨hx, hb, hr, hml, hown, hts, hX, hbl, hlocks, hgv⟩ := C0
  have hM : CallFix p m c cL_law 8 s #[Value.ref b] wsL_law RL := ⟨hx, hb, hml, hown, fun w h => hts w (wsL_law_in w h)⟩
  obtain ⟨N, tk, dom, gr, va, dr, off, rt, cnt, lk, dl, td, K, E, ds, M, X, dm, thr, f, hG, ⟨hN, hg, hlk, hsy, hR⟩, hz0⟩ := hI
  refine lv_aload_n hx hb dL_law_538 rfl (lv_at hl 1 rfl) ?_
  refine lv_aload_n hx hb dL_law_539 rfl (lv_at hl 0 rfl) ?_
  refine lv_iload hx hb dL_law_540 (lv_at hl 4 rfl) ?_
  refine lv_iconst (v := 1) hx hb dL_law_542 (by decide) ?_
  refine lv_iadd hx hb dL_law_543 ?_
  refine q_ren (nI_add i 1) ?_
  refine q_sld hM hG hX hbl hbA (by omega) hL30 dL_law_544 ?_
  refine lv_aload_n hx hb dL_law_545 rfl (lv_at hl 3 rfl) ?_
  refine q_callW (n := 3) (As := [.ref (hc 0), .int (xs (i + 1)), .ref o]) (rest := []) hM hl.1 hG (w_best l hl0 g hc o f N tk dom gr va dr off rt cnt lk dl td K E ds (xs (i + 1)) hN) rfl gL_law_L_best (by decide +kernel) ⟨Nat.le_of_ble_eq_true rfl, Nat.le_of_ble_eq_true rfl⟩ rfl rfl (Nat.le_of_ble_eq_true rfl) dL_law_546 (c1 := cells + 1) (s1 := slots + 6) rfl rfl ⟨by omega, by omega⟩ (fun r v H locs hp hG => ?_)
  rcases v with ⟨u1, f1⟩ | _
  · obtain ⟨rfl, r0, hc0, hf⟩ := hp
    dsimp only at hc0 hf
    obtain ⟨i0, hi0, hx0, rfl⟩ := hc0
    have hG : cC g ((oNet g o f1 ++ (cNet g hc N tk dom gr va dr off rt cnt lk dl td K E ds)) ++ (mNet g hm N tk dom gr va dr off rt cnt lk dl td M X dm thr)) A s H locs := hG
    refine lv_istore (lv' := [(5, .int 0), (0, .ref b), (1, .ref (hc 0)), (2, .ref (hm 0)), (3, .ref o), (4, .int (nI i))]) hx hb dL_law_549 hl (by decide) rfl (fun ls hl => ?_)
    refine lv_aload_n hx hb dL_law_551 rfl (lv_at hl 3 rfl) ?_
    refine lv_aload_n hx hb dL_law_552 rfl (lv_at hl 1 rfl) ?_
    refine lv_iload hx hb dL_law_553 (lv_at hl 5 rfl) ?_
    refine lv_iconst (v := 1) hx hb dL_law_555 (by decide) ?_
    refine lv_iadd hx hb dL_law_556 ?_
    refine q_ren (nI_add i 1) ?_
    refine q_sld hM hG hX hbl hbA (by omega) hL30 dL_law_557 ?_
    refine q_callMi (n := 1) (As := [.int (xs (i + 1))]) (rest := []) hM hl.1 hG (c_X3_best l g hm N tk dom gr va dr off rt cnt lk dl td M X dm thr (xs (i + 1)) hN) rfl gL_law_X3_best (by decide +kernel) ⟨Nat.le_of_ble_eq_true rfl, Nat.le_of_ble_eq_true rfl⟩ 0 rfl rfl rfl rfl rfl (Nat.le_of_ble_eq_true rfl) dL_law_558 (c1 := cells + 1) (s1 := slots + 6) rfl rfl ⟨by omega, by omega⟩ (fun rb u2 H locs hp2 hG => ?_)
    obtain ⟨t, ht9⟩ : ∃ t, t = u2 := ⟨_, rfl⟩
    subst ht9
    obtain rfl : t = 0 := cd1.ok hp2.1 ⟨i0, hi0, hx0⟩
    obtain ⟨i1, hi1, hx1, rfl⟩ := hp2.2.1 rfl
    obtain rfl : i0 = i1 := (nI_eq (by omega) (by omega)).mp (hx0.symm.trans hx1)
    have hG : cC g ((oNet g o f1 ++ (cNet g hc N tk dom gr va dr off rt cnt lk dl td K E ds)) ++ (mNet g hm N tk dom gr va dr off rt cnt lk dl td M X dm 0)) A s H locs := hG
    refine lv_istore (lv' := [(6, .int (M.1 i0)), (5, .int 0), (0, .ref b), (1, .ref (hc 0)), (2, .ref (hm 0)), (3, .ref o), (4, .int (nI i))]) hx hb dL_law_561 hl (by decide) rfl (fun ls hl => ?_)
    refine lv_goto (tgt := 843) hx hb dL_law_563 (by decide) ?_
    exact kk _ _ _ ⟨_, _, _, _, _, _, _, _, _, _, _, _, _, _, _, _, _, _, _, _, hG, ⟨hN, hg, hlk, hsy, hR⟩, False.elim⟩ (lv_sub hl [2, 3, 4, 5, 6] rfl)
  · have hG : cC g ((oNet g o f ++ (cNet g hc N tk dom gr va dr off rt cnt lk dl td K E ds)) ++ (mNet g hm N tk dom gr va dr off rt cnt lk dl td M X dm thr)) A s H locs := hG
    have h9 : xk1 r (okN N (xs (i + 1))) := hp
    refine lv_istore (lv' := [(5, .int r), (0, .ref b), (1, .ref (hc 0)), (2, .ref (hm 0)), (3, .ref o), (4, .int (nI i))]) hx hb dL_law_549 hl (by decide) rfl (fun ls hl => ?_)
    refine lv_aload_n hx hb dL_law_551 rfl (lv_at hl 3 rfl) ?_
    refine lv_aload_n hx hb dL_law_552 rfl (lv_at hl 1 rfl) ?_
    refine lv_iload hx hb dL_law_553 (lv_at hl 5 rfl) ?_
    refine lv_iconst (v := 1) hx hb dL_law_555 (by decide) ?_
    refine lv_iadd hx hb dL_law_556 ?_
    refine q_ren (nI_add i 1) ?_
    refine q_sld hM hG hX hbl hbA (by omega) hL30 dL_law_557 ?_
    refine q_callMi (n := 1) (As := [.int (xs (i + 1))]) (rest := []) hM hl.1 hG (c_X3_best l g hm N tk dom gr va dr off rt cnt lk dl td M X dm thr (xs (i + 1)) hN) rfl gL_law_X3_best (by decide +kernel) ⟨Nat.le_of_ble_eq_true rfl, Nat.le_of_ble_eq_true rfl⟩ 0 rfl rfl rfl rfl rfl (Nat.le_of_ble_eq_true rfl) dL_law_558 (c1 := cells + 1) (s1 := slots + 6) rfl rfl ⟨by omega, by omega⟩ (fun rb u2 H locs hp2 hG => ?_)
    obtain ⟨t, ht9⟩ : ∃ t, t = u2 := ⟨_, rfl⟩
    subst ht9
    have hk : t = r := cd1_uniq hp2.1 h9.cd.1
    have h0 : ¬ t = 0 := by rw [hk]; exact h9.cd.2
    have hG : cC g ((oNet g o f ++ (cNet g hc N tk dom gr va dr off rt cnt lk dl td K E ds)) ++ (mNet g hm N tk dom gr va dr off rt cnt lk dl td M X dm t)) A s H locs := hG
    refine lv_istore (lv' := [(6, .int rb), (5, .int r), (0, .ref b), (1, .ref (hc 0)), (2, .ref (hm 0)), (3, .ref o), (4, .int (nI i))]) hx hb dL_law_561 hl (by decide) rfl (fun ls hl => ?_)
    refine lv_goto (tgt := 843) hx hb dL_law_563 (by decide) ?_
    exact kk _ _ _ ⟨_, _, _, _, _, _, _, _, _, _, _, _, _, _, _, _, _, _, _, _, hG, ⟨hN, hg, hlk, hsy, hR⟩, False.elim⟩ (lv_sub hl [2, 3, 4, 5, 6] rfl)

set_option maxHeartbeats 4000000 in
set_option maxRecDepth 100000 in
theorem lc_11 {p : Program} {e : Env} {s : State} {m : MethodId} {below : List Frame} {meth : Method} {c : Code} (l : Launch) (hl0 : l.stackTraces = false) {b L : Nat} {xs : Nat → Int32} (hL30 : L < 2 ^ 30) (C0 : lw_At p s m meth c b L xs) {z : Prop} {g : EN} {hc hm : Nat → Nat} {o : Nat} {A : Nat → Prop} (hbA : ¬ A b) {i : Nat} (hi : i + 5 ≤ L) {H : Heap} {locs : List Loc} {cells slots : Nat} (hroom : cells + 2 ≤ room_1.cells ∧ slots + 16 ≤ room_1.slots) (hI : LI z g hc hm o A s H locs) {Q : State → Prop} {ls : Array Slot} (hl : lv_has ls 8 [(0, .ref b), (1, .ref (hc 0)), (2, .ref (hm 0)), (3, .ref o), (4, .int (nI i))])
    (kk : ∀ (H1 : Heap) (locs1 : List Loc) (ls1 : Array Slot), LI False g hc hm o A s H1 locs1 → lv_has ls1 8 [(0, .ref b), (1, .ref (hc 0)), (2, .ref (hm 0)), (3, .ref o), (4, .int (nI i))] → W p l e room_1 s m #[Value.ref b] below meth c H1 locs1 (cells + 1) (slots + 6) Q (F0 m 843 ls1 [])) : W p l e room_1 s m #[Value.ref b] below meth c H locs cells slots Q (F0 m 566 ls []) := by
  obtain ⟨hx, hb, hr, hml, hown, hts, hX, hbl, hlocks, hgv⟩ := C0
  have hM : CallFix p m c cL_law 8 s #[Value.ref b] wsL_law RL := ⟨hx, hb, hml, hown, fun w h => hts w (wsL_law_in w h)⟩
  obtain ⟨N, tk, dom, gr, va, dr, off, rt, cnt, lk, dl, td, K, E, ds, M, X, dm, thr, f, hG, ⟨hN, hg, hlk, hsy, hR⟩, hz0⟩ := hI
  refine lv_aload_n hx hb dL_law_566 rfl (lv_at hl 1 rfl) ?_
  refine lv_aload_n hx hb dL_law_567 rfl (lv_at hl 0 rfl) ?_
  refine lv_iload hx hb dL_law_568 (lv_at hl 4 rfl) ?_
  refine lv_iconst (v := 1) hx hb dL_law_570 (by decide) ?_
  refine lv_iadd hx hb dL_law_571 ?_
  refine q_ren (nI_add i 1) ?_
  refine q_sld hM hG hX hbl hbA (by omega) hL30 dL_law_572 ?_
  refine lv_aload_n hx hb dL_law_573 rfl (lv_at hl 3 rfl) ?_
  refine q_callW (n := 3) (As := [.ref (hc 0), .int (xs (i + 1)), .ref o]) (rest := []) hM hl.1 hG (w_steps l hl0 g hc o f N tk dom gr va dr off rt cnt lk dl td K E ds (xs (i + 1)) hN) rfl gL_law_L_steps (by decide +kernel) ⟨Nat.le_of_ble_eq_true rfl, Nat.le_of_ble_eq_true rfl⟩ rfl rfl (Nat.le_of_ble_eq_true rfl) dL_law_574 (c1 := cells + 1) (s1 := slots + 6) rfl rfl ⟨by omega, by omega⟩ (fun r v H locs hp hG => ?_)
  rcases v with ⟨u1, f1⟩ | _
  · obtain ⟨rfl, r0, hc0, hf⟩ := hp
    dsimp only at hc0 hf
    obtain ⟨i0, hi0, hx0, rfl⟩ := hc0
    have hG : cC g ((oNet g o f1 ++ (cNet g hc N tk dom gr va dr off rt cnt lk dl td K E ds)) ++ (mNet g hm N tk dom gr va dr off rt cnt lk dl td M X dm thr)) A s H locs := hG
    refine lv_istore (lv' := [(5, .int 0), (0, .ref b), (1, .ref (hc 0)), (2, .ref (hm 0)), (3, .ref o), (4, .int (nI i))]) hx hb dL_law_577 hl (by decide) rfl (fun ls hl => ?_)
    refine lv_aload_n hx hb dL_law_579 rfl (lv_at hl 3 rfl) ?_
    refine lv_aload_n hx hb dL_law_580 rfl (lv_at hl 1 rfl) ?_
    refine lv_iload hx hb dL_law_581 (lv_at hl 5 rfl) ?_
    refine lv_iconst (v := 1) hx hb dL_law_583 (by decide) ?_
    refine lv_iadd hx hb dL_law_584 ?_
    refine q_ren (nI_add i 1) ?_
    refine q_sld hM hG hX hbl hbA (by omega) hL30 dL_law_585 ?_
    refine q_callMi (n := 1) (As := [.int (xs (i + 1))]) (rest := []) hM hl.1 hG (c_X3_steps l g hm N tk dom gr va dr off rt cnt lk dl td M X dm thr (xs (i + 1)) hN) rfl gL_law_X3_steps (by decide +kernel) ⟨Nat.le_of_ble_eq_true rfl, Nat.le_of_ble_eq_true rfl⟩ 0 rfl rfl rfl rfl rfl (Nat.le_of_ble_eq_true rfl) dL_law_586 (c1 := cells + 1) (s1 := slots + 6) rfl rfl ⟨by omega, by omega⟩ (fun rb u2 H locs hp2 hG => ?_)
    obtain ⟨t, ht9⟩ : ∃ t, t = u2 := ⟨_, rfl⟩
    subst ht9
    obtain rfl : t = 0 := cd1.ok hp2.1 ⟨i0, hi0, hx0⟩
    obtain ⟨i1, hi1, hx1, rfl⟩ := hp2.2.1 rfl
    obtain rfl : i0 = i1 := (nI_eq (by omega) (by omega)).mp (hx0.symm.trans hx1)
    have hG : cC g ((oNet g o f1 ++ (cNet g hc N tk dom gr va dr off rt cnt lk dl td K E ds)) ++ (mNet g hm N tk dom gr va dr off rt cnt lk dl td M X dm 0)) A s H locs := hG
    refine lv_istore (lv' := [(6, .int (M.2.2.2.1 i0)), (5, .int 0), (0, .ref b), (1, .ref (hc 0)), (2, .ref (hm 0)), (3, .ref o), (4, .int (nI i))]) hx hb dL_law_589 hl (by decide) rfl (fun ls hl => ?_)
    refine lv_goto (tgt := 843) hx hb dL_law_591 (by decide) ?_
    exact kk _ _ _ ⟨_, _, _, _, _, _, _, _, _, _, _, _, _, _, _, _, _, _, _, _, hG, ⟨hN, hg, hlk, hsy, hR⟩, False.elim⟩ (lv_sub hl [2, 3, 4, 5, 6] rfl)
  · have hG : cC g ((oNet g o f ++ (cNet g hc N tk dom gr va dr off rt cnt lk dl td K E ds)) ++ (mNet g hm N tk dom gr va dr off rt cnt lk dl td M X dm thr)) A s H locs := hG
    have h9 : xk1 r (okN N (xs (i + 1))) := hp
    refine lv_istore (lv' := [(5, .int r), (0, .ref b), (1, .ref (hc 0)), (2, .ref (hm 0)), (3, .ref o), (4, .int (nI i))]) hx hb dL_law_577 hl (by decide) rfl (fun ls hl => ?_)
    refine lv_aload_n hx hb dL_law_579 rfl (lv_at hl 3 rfl) ?_
    refine lv_aload_n hx hb dL_law_580 rfl (lv_at hl 1 rfl) ?_
    refine lv_iload hx hb dL_law_581 (lv_at hl 5 rfl) ?_
    refine lv_iconst (v := 1) hx hb dL_law_583 (by decide) ?_
    refine lv_iadd hx hb dL_law_584 ?_
    refine q_ren (nI_add i 1) ?_
    refine q_sld hM hG hX hbl hbA (by omega) hL30 dL_law_585 ?_
    refine q_callMi (n := 1) (As := [.int (xs (i + 1))]) (rest := []) hM hl.1 hG (c_X3_steps l g hm N tk dom gr va dr off rt cnt lk dl td M X dm thr (xs (i + 1)) hN) rfl gL_law_X3_steps (by decide +kernel) ⟨Nat.le_of_ble_eq_true rfl, Nat.le_of_ble_eq_true rfl⟩ 0 rfl rfl rfl rfl rfl (Nat.le_of_ble_eq_true rfl) dL_law_586 (c1 := cells + 1) (s1 := slots + 6) rfl rfl ⟨by omega, by omega⟩ (fun rb u2 H locs hp2 hG => ?_)
    obtain ⟨t, ht9⟩ : ∃ t, t = u2 := ⟨_, rfl⟩
    subst ht9
    have hk : t = r := cd1_uniq hp2.1 h9.cd.1
    have h0 : ¬ t = 0 := by rw [hk]; exact h9.cd.2
    have hG : cC g ((oNet g o f ++ (cNet g hc N tk dom gr va dr off rt cnt lk dl td K E ds)) ++ (mNet g hm N tk dom gr va dr off rt cnt lk dl td M X dm t)) A s H locs := hG
    refine lv_istore (lv' := [(6, .int rb), (5, .int r), (0, .ref b), (1, .ref (hc 0)), (2, .ref (hm 0)), (3, .ref o), (4, .int (nI i))]) hx hb dL_law_589 hl (by decide) rfl (fun ls hl => ?_)
    refine lv_goto (tgt := 843) hx hb dL_law_591 (by decide) ?_
    exact kk _ _ _ ⟨_, _, _, _, _, _, _, _, _, _, _, _, _, _, _, _, _, _, _, _, hG, ⟨hN, hg, hlk, hsy, hR⟩, False.elim⟩ (lv_sub hl [2, 3, 4, 5, 6] rfl)

set_option maxHeartbeats 4000000 in
set_option maxRecDepth 100000 in
theorem lc_12 {p : Program} {e : Env} {s : State} {m : MethodId} {below : List Frame} {meth : Method} {c : Code} (l : Launch) (hl0 : l.stackTraces = false) {b L : Nat} {xs : Nat → Int32} (hL30 : L < 2 ^ 30) (C0 : lw_At p s m meth c b L xs) {z : Prop} {g : EN} {hc hm : Nat → Nat} {o : Nat} {A : Nat → Prop} (hbA : ¬ A b) {i : Nat} (hi : i + 5 ≤ L) {H : Heap} {locs : List Loc} {cells slots : Nat} (hroom : cells + 2 ≤ room_1.cells ∧ slots + 16 ≤ room_1.slots) (hI : LI z g hc hm o A s H locs) {Q : State → Prop} {ls : Array Slot} (hl : lv_has ls 8 [(0, .ref b), (1, .ref (hc 0)), (2, .ref (hm 0)), (3, .ref o), (4, .int (nI i))])
    (kk : ∀ (H1 : Heap) (locs1 : List Loc) (ls1 : Array Slot), LI False g hc hm o A s H1 locs1 → lv_has ls1 8 [(0, .ref b), (1, .ref (hc 0)), (2, .ref (hm 0)), (3, .ref o), (4, .int (nI i))] → W p l e room_1 s m #[Value.ref b] below meth c H1 locs1 (cells + 1) (slots + 6) Q (F0 m 843 ls1 [])) : W p l e room_1 s m #[Value.ref b] below meth c H locs cells slots Q (F0 m 594 ls []) := by
  obtain ⟨hx, hb, hr, hml, hown, hts, hX, hbl, hlocks, hgv⟩ := C0
  have hM : CallFix p m c cL_law 8 s #[Value.ref b] wsL_law RL := ⟨hx, hb, hml, hown, fun w h => hts w (wsL_law_in w h)⟩
  obtain ⟨N, tk, dom, gr, va, dr, off, rt, cnt, lk, dl, td, K, E, ds, M, X, dm, thr, f, hG, ⟨hN, hg, hlk, hsy, hR⟩, hz0⟩ := hI
  refine lv_aload_n hx hb dL_law_594 rfl (lv_at hl 1 rfl) ?_
  refine lv_aload_n hx hb dL_law_595 rfl (lv_at hl 0 rfl) ?_
  refine lv_iload hx hb dL_law_596 (lv_at hl 4 rfl) ?_
  refine lv_iconst (v := 1) hx hb dL_law_598 (by decide) ?_
  refine lv_iadd hx hb dL_law_599 ?_
  refine q_ren (nI_add i 1) ?_
  refine q_sld hM hG hX hbl hbA (by omega) hL30 dL_law_600 ?_
  refine lv_aload_n hx hb dL_law_601 rfl (lv_at hl 3 rfl) ?_
  refine q_callW (n := 3) (As := [.ref (hc 0), .int (xs (i + 1)), .ref o]) (rest := []) hM hl.1 hG (w_parent l hl0 g hc o f N tk dom gr va dr off rt cnt lk dl td K E ds (xs (i + 1)) hN) rfl gL_law_L_parent (by decide +kernel) ⟨Nat.le_of_ble_eq_true rfl, Nat.le_of_ble_eq_true rfl⟩ rfl rfl (Nat.le_of_ble_eq_true rfl) dL_law_602 (c1 := cells + 1) (s1 := slots + 6) rfl rfl ⟨by omega, by omega⟩ (fun r v H locs hp hG => ?_)
  rcases v with ⟨u1, f1⟩ | _
  · obtain ⟨rfl, r0, hc0, hf⟩ := hp
    dsimp only at hc0 hf
    obtain ⟨i0, hi0, hx0, rfl⟩ := hc0
    have hG : cC g ((oNet g o f1 ++ (cNet g hc N tk dom gr va dr off rt cnt lk dl td K E ds)) ++ (mNet g hm N tk dom gr va dr off rt cnt lk dl td M X dm thr)) A s H locs := hG
    refine lv_istore (lv' := [(5, .int 0), (0, .ref b), (1, .ref (hc 0)), (2, .ref (hm 0)), (3, .ref o), (4, .int (nI i))]) hx hb dL_law_605 hl (by decide) rfl (fun ls hl => ?_)
    refine lv_aload_n hx hb dL_law_607 rfl (lv_at hl 3 rfl) ?_
    refine lv_aload_n hx hb dL_law_608 rfl (lv_at hl 1 rfl) ?_
    refine lv_iload hx hb dL_law_609 (lv_at hl 5 rfl) ?_
    refine lv_iconst (v := 1) hx hb dL_law_611 (by decide) ?_
    refine lv_iadd hx hb dL_law_612 ?_
    refine q_ren (nI_add i 1) ?_
    refine q_sld hM hG hX hbl hbA (by omega) hL30 dL_law_613 ?_
    refine q_callMi (n := 1) (As := [.int (xs (i + 1))]) (rest := []) hM hl.1 hG (c_X3_parent l g hm N tk dom gr va dr off rt cnt lk dl td M X dm thr (xs (i + 1)) hN) rfl gL_law_X3_parent (by decide +kernel) ⟨Nat.le_of_ble_eq_true rfl, Nat.le_of_ble_eq_true rfl⟩ 0 rfl rfl rfl rfl rfl (Nat.le_of_ble_eq_true rfl) dL_law_614 (c1 := cells + 1) (s1 := slots + 6) rfl rfl ⟨by omega, by omega⟩ (fun rb u2 H locs hp2 hG => ?_)
    obtain ⟨t, ht9⟩ : ∃ t, t = u2 := ⟨_, rfl⟩
    subst ht9
    obtain rfl : t = 0 := cd1.ok hp2.1 ⟨i0, hi0, hx0⟩
    obtain ⟨i1, hi1, hx1, rfl⟩ := hp2.2.1 rfl
    obtain rfl : i0 = i1 := (nI_eq (by omega) (by omega)).mp (hx0.symm.trans hx1)
    have hG : cC g ((oNet g o f1 ++ (cNet g hc N tk dom gr va dr off rt cnt lk dl td K E ds)) ++ (mNet g hm N tk dom gr va dr off rt cnt lk dl td M X dm 0)) A s H locs := hG
    refine lv_istore (lv' := [(6, .int (M.2.2.2.2 i0)), (5, .int 0), (0, .ref b), (1, .ref (hc 0)), (2, .ref (hm 0)), (3, .ref o), (4, .int (nI i))]) hx hb dL_law_617 hl (by decide) rfl (fun ls hl => ?_)
    refine lv_goto (tgt := 843) hx hb dL_law_619 (by decide) ?_
    exact kk _ _ _ ⟨_, _, _, _, _, _, _, _, _, _, _, _, _, _, _, _, _, _, _, _, hG, ⟨hN, hg, hlk, hsy, hR⟩, False.elim⟩ (lv_sub hl [2, 3, 4, 5, 6] rfl)
  · have hG : cC g ((oNet g o f ++ (cNet g hc N tk dom gr va dr off rt cnt lk dl td K E ds)) ++ (mNet g hm N tk dom gr va dr off rt cnt lk dl td M X dm thr)) A s H locs := hG
    have h9 : xk1 r (okN N (xs (i + 1))) := hp
    refine lv_istore (lv' := [(5, .int r), (0, .ref b), (1, .ref (hc 0)), (2, .ref (hm 0)), (3, .ref o), (4, .int (nI i))]) hx hb dL_law_605 hl (by decide) rfl (fun ls hl => ?_)
    refine lv_aload_n hx hb dL_law_607 rfl (lv_at hl 3 rfl) ?_
    refine lv_aload_n hx hb dL_law_608 rfl (lv_at hl 1 rfl) ?_
    refine lv_iload hx hb dL_law_609 (lv_at hl 5 rfl) ?_
    refine lv_iconst (v := 1) hx hb dL_law_611 (by decide) ?_
    refine lv_iadd hx hb dL_law_612 ?_
    refine q_ren (nI_add i 1) ?_
    refine q_sld hM hG hX hbl hbA (by omega) hL30 dL_law_613 ?_
    refine q_callMi (n := 1) (As := [.int (xs (i + 1))]) (rest := []) hM hl.1 hG (c_X3_parent l g hm N tk dom gr va dr off rt cnt lk dl td M X dm thr (xs (i + 1)) hN) rfl gL_law_X3_parent (by decide +kernel) ⟨Nat.le_of_ble_eq_true rfl, Nat.le_of_ble_eq_true rfl⟩ 0 rfl rfl rfl rfl rfl (Nat.le_of_ble_eq_true rfl) dL_law_614 (c1 := cells + 1) (s1 := slots + 6) rfl rfl ⟨by omega, by omega⟩ (fun rb u2 H locs hp2 hG => ?_)
    obtain ⟨t, ht9⟩ : ∃ t, t = u2 := ⟨_, rfl⟩
    subst ht9
    have hk : t = r := cd1_uniq hp2.1 h9.cd.1
    have h0 : ¬ t = 0 := by rw [hk]; exact h9.cd.2
    have hG : cC g ((oNet g o f ++ (cNet g hc N tk dom gr va dr off rt cnt lk dl td K E ds)) ++ (mNet g hm N tk dom gr va dr off rt cnt lk dl td M X dm t)) A s H locs := hG
    refine lv_istore (lv' := [(6, .int rb), (5, .int r), (0, .ref b), (1, .ref (hc 0)), (2, .ref (hm 0)), (3, .ref o), (4, .int (nI i))]) hx hb dL_law_617 hl (by decide) rfl (fun ls hl => ?_)
    refine lv_goto (tgt := 843) hx hb dL_law_619 (by decide) ?_
    exact kk _ _ _ ⟨_, _, _, _, _, _, _, _, _, _, _, _, _, _, _, _, _, _, _, _, hG, ⟨hN, hg, hlk, hsy, hR⟩, False.elim⟩ (lv_sub hl [2, 3, 4, 5, 6] rfl)

set_option maxHeartbeats 4000000 in
set_option maxRecDepth 100000 in
theorem lc_13 {p : Program} {e : Env} {s : State} {m : MethodId} {below : List Frame} {meth : Method} {c : Code} (l : Launch) (hl0 : l.stackTraces = false) {b L : Nat} {xs : Nat → Int32} (hL30 : L < 2 ^ 30) (C0 : lw_At p s m meth c b L xs) {z : Prop} {g : EN} {hc hm : Nat → Nat} {o : Nat} {A : Nat → Prop} (hbA : ¬ A b) {i : Nat} (hi : i + 5 ≤ L) {H : Heap} {locs : List Loc} {cells slots : Nat} (hroom : cells + 2 ≤ room_1.cells ∧ slots + 16 ≤ room_1.slots) (hI : LI z g hc hm o A s H locs) {Q : State → Prop} {ls : Array Slot} (hl : lv_has ls 8 [(0, .ref b), (1, .ref (hc 0)), (2, .ref (hm 0)), (3, .ref o), (4, .int (nI i))])
    (kk : ∀ (H1 : Heap) (locs1 : List Loc) (ls1 : Array Slot), LI False g hc hm o A s H1 locs1 → lv_has ls1 8 [(0, .ref b), (1, .ref (hc 0)), (2, .ref (hm 0)), (3, .ref o), (4, .int (nI i))] → W p l e room_1 s m #[Value.ref b] below meth c H1 locs1 (cells + 1) (slots + 6) Q (F0 m 843 ls1 [])) : W p l e room_1 s m #[Value.ref b] below meth c H locs cells slots Q (F0 m 622 ls []) := by
  obtain ⟨hx, hb, hr, hml, hown, hts, hX, hbl, hlocks, hgv⟩ := C0
  have hM : CallFix p m c cL_law 8 s #[Value.ref b] wsL_law RL := ⟨hx, hb, hml, hown, fun w h => hts w (wsL_law_in w h)⟩
  obtain ⟨N, tk, dom, gr, va, dr, off, rt, cnt, lk, dl, td, K, E, ds, M, X, dm, thr, f, hG, ⟨hN, hg, hlk, hsy, hR⟩, hz0⟩ := hI
  refine lv_aload_n hx hb dL_law_622 rfl (lv_at hl 1 rfl) ?_
  refine lv_aload_n hx hb dL_law_623 rfl (lv_at hl 0 rfl) ?_
  refine lv_iload hx hb dL_law_624 (lv_at hl 4 rfl) ?_
  refine lv_iconst (v := 1) hx hb dL_law_626 (by decide) ?_
  refine lv_iadd hx hb dL_law_627 ?_
  refine q_ren (nI_add i 1) ?_
  refine q_sld hM hG hX hbl hbA (by omega) hL30 dL_law_628 ?_
  refine lv_aload_n hx hb dL_law_629 rfl (lv_at hl 0 rfl) ?_
  refine lv_iload hx hb dL_law_630 (lv_at hl 4 rfl) ?_
  refine lv_iconst (v := 2) hx hb dL_law_632 (by decide) ?_
  refine lv_iadd hx hb dL_law_633 ?_
  refine q_ren (nI_add i 2) ?_
  refine q_sld hM hG hX hbl hbA (by omega) hL30 dL_law_634 ?_
  refine lv_aload_n hx hb dL_law_635 rfl (lv_at hl 3 rfl) ?_
  refine q_callW (n := 4) (As := [.ref (hc 0), .int (xs (i + 1)), .int (xs (i + 2)), .ref o]) (rest := []) hM hl.1 hG (w_port l hl0 g hc o f N tk dom gr va dr off rt cnt lk dl td K E ds (xs (i + 1)) (xs (i + 2)) hN hlk) rfl gL_law_L_port (by decide +kernel) ⟨Nat.le_of_ble_eq_true rfl, Nat.le_of_ble_eq_true rfl⟩ rfl rfl (Nat.le_of_ble_eq_true rfl) dL_law_636 (c1 := cells + 1) (s1 := slots + 6) rfl rfl ⟨by omega, by omega⟩ (fun r v H locs hp hG => ?_)
  rcases v with ⟨u1, f1⟩ | _
  · obtain ⟨rfl, r0, hc0, hf⟩ := hp
    dsimp only at hc0 hf
    obtain ⟨i0, j0, hi0, hj0, hx0, hy0, rfl⟩ := hc0
    have hG : cC g ((oNet g o f1 ++ (cNet g hc N tk dom gr va dr off rt cnt lk dl td K E ds)) ++ (mNet g hm N tk dom gr va dr off rt cnt lk dl td M X dm thr)) A s H locs := hG
    refine lv_istore (lv' := [(5, .int 0), (0, .ref b), (1, .ref (hc 0)), (2, .ref (hm 0)), (3, .ref o), (4, .int (nI i))]) hx hb dL_law_639 hl (by decide) rfl (fun ls hl => ?_)
    refine lv_aload_n hx hb dL_law_641 rfl (lv_at hl 3 rfl) ?_
    refine lv_aload_n hx hb dL_law_642 rfl (lv_at hl 1 rfl) ?_
    refine lv_iload hx hb dL_law_643 (lv_at hl 5 rfl) ?_
    refine lv_iconst (v := 1) hx hb dL_law_645 (by decide) ?_
    refine lv_iadd hx hb dL_law_646 ?_
    refine q_ren (nI_add i 1) ?_
    refine q_sld hM hG hX hbl hbA (by omega) hL30 dL_law_647 ?_
    refine lv_aload_n hx hb dL_law_648 rfl (lv_at hl 1 rfl) ?_
    refine lv_iload hx hb dL_law_649 (lv_at hl 5 rfl) ?_
    refine lv_iconst (v := 2) hx hb dL_law_651 (by decide) ?_
    refine lv_iadd hx hb dL_law_652 ?_
    refine q_ren (nI_add i 2) ?_
    refine q_sld hM hG hX hbl hbA (by omega) hL30 dL_law_653 ?_
    refine q_callMi (n := 2) (As := [.int (xs (i + 1)), .int (xs (i + 2))]) (rest := []) hM hl.1 hG (c_X3_port l g hm N tk dom gr va dr off rt cnt lk dl td M X dm thr (xs (i + 1)) (xs (i + 2)) hN hlk) rfl gL_law_X3_port (by decide +kernel) ⟨Nat.le_of_ble_eq_true rfl, Nat.le_of_ble_eq_true rfl⟩ 0 rfl rfl rfl rfl rfl (Nat.le_of_ble_eq_true rfl) dL_law_654 (c1 := cells + 1) (s1 := slots + 6) rfl rfl ⟨by omega, by omega⟩ (fun rb u2 H locs hp2 hG => ?_)
    obtain ⟨t, ht9⟩ : ∃ t, t = u2 := ⟨_, rfl⟩
    subst ht9
    obtain rfl : t = 0 := cd1.ok hp2.1 ⟨⟨i0, hi0, hx0⟩, ⟨j0, hj0, hy0⟩⟩
    obtain ⟨i1, j1, hi1, hj1, hx1, hy1, rfl⟩ := hp2.2.1 rfl
    obtain rfl : i0 = i1 := (nI_eq (by omega) (by omega)).mp (hx0.symm.trans hx1)
    obtain rfl : j0 = j1 := (nI_eq (by omega) (by omega)).mp (hy0.symm.trans hy1)
    have hG : cC g ((oNet g o f1 ++ (cNet g hc N tk dom gr va dr off rt cnt lk dl td K E ds)) ++ (mNet g hm N tk dom gr va dr off rt cnt lk dl td M X dm 0)) A s H locs := hG
    refine lv_istore (lv' := [(6, .int (prt dom lk M.2.2.2.1 M.2.2.2.2 i0 j0)), (5, .int 0), (0, .ref b), (1, .ref (hc 0)), (2, .ref (hm 0)), (3, .ref o), (4, .int (nI i))]) hx hb dL_law_657 hl (by decide) rfl (fun ls hl => ?_)
    refine lv_goto (tgt := 843) hx hb dL_law_659 (by decide) ?_
    exact kk _ _ _ ⟨_, _, _, _, _, _, _, _, _, _, _, _, _, _, _, _, _, _, _, _, hG, ⟨hN, hg, hlk, hsy, hR⟩, False.elim⟩ (lv_sub hl [2, 3, 4, 5, 6] rfl)
  · have hG : cC g ((oNet g o f ++ (cNet g hc N tk dom gr va dr off rt cnt lk dl td K E ds)) ++ (mNet g hm N tk dom gr va dr off rt cnt lk dl td M X dm thr)) A s H locs := hG
    have h9 : xk1 r (okN N (xs (i + 1)) ∧ okN N (xs (i + 2))) := hp
    refine lv_istore (lv' := [(5, .int r), (0, .ref b), (1, .ref (hc 0)), (2, .ref (hm 0)), (3, .ref o), (4, .int (nI i))]) hx hb dL_law_639 hl (by decide) rfl (fun ls hl => ?_)
    refine lv_aload_n hx hb dL_law_641 rfl (lv_at hl 3 rfl) ?_
    refine lv_aload_n hx hb dL_law_642 rfl (lv_at hl 1 rfl) ?_
    refine lv_iload hx hb dL_law_643 (lv_at hl 5 rfl) ?_
    refine lv_iconst (v := 1) hx hb dL_law_645 (by decide) ?_
    refine lv_iadd hx hb dL_law_646 ?_
    refine q_ren (nI_add i 1) ?_
    refine q_sld hM hG hX hbl hbA (by omega) hL30 dL_law_647 ?_
    refine lv_aload_n hx hb dL_law_648 rfl (lv_at hl 1 rfl) ?_
    refine lv_iload hx hb dL_law_649 (lv_at hl 5 rfl) ?_
    refine lv_iconst (v := 2) hx hb dL_law_651 (by decide) ?_
    refine lv_iadd hx hb dL_law_652 ?_
    refine q_ren (nI_add i 2) ?_
    refine q_sld hM hG hX hbl hbA (by omega) hL30 dL_law_653 ?_
    refine q_callMi (n := 2) (As := [.int (xs (i + 1)), .int (xs (i + 2))]) (rest := []) hM hl.1 hG (c_X3_port l g hm N tk dom gr va dr off rt cnt lk dl td M X dm thr (xs (i + 1)) (xs (i + 2)) hN hlk) rfl gL_law_X3_port (by decide +kernel) ⟨Nat.le_of_ble_eq_true rfl, Nat.le_of_ble_eq_true rfl⟩ 0 rfl rfl rfl rfl rfl (Nat.le_of_ble_eq_true rfl) dL_law_654 (c1 := cells + 1) (s1 := slots + 6) rfl rfl ⟨by omega, by omega⟩ (fun rb u2 H locs hp2 hG => ?_)
    obtain ⟨t, ht9⟩ : ∃ t, t = u2 := ⟨_, rfl⟩
    subst ht9
    have hk : t = r := cd1_uniq hp2.1 h9.cd.1
    have h0 : ¬ t = 0 := by rw [hk]; exact h9.cd.2
    have hG : cC g ((oNet g o f ++ (cNet g hc N tk dom gr va dr off rt cnt lk dl td K E ds)) ++ (mNet g hm N tk dom gr va dr off rt cnt lk dl td M X dm t)) A s H locs := hG
    refine lv_istore (lv' := [(6, .int rb), (5, .int r), (0, .ref b), (1, .ref (hc 0)), (2, .ref (hm 0)), (3, .ref o), (4, .int (nI i))]) hx hb dL_law_657 hl (by decide) rfl (fun ls hl => ?_)
    refine lv_goto (tgt := 843) hx hb dL_law_659 (by decide) ?_
    exact kk _ _ _ ⟨_, _, _, _, _, _, _, _, _, _, _, _, _, _, _, _, _, _, _, _, hG, ⟨hN, hg, hlk, hsy, hR⟩, False.elim⟩ (lv_sub hl [2, 3, 4, 5, 6] rfl)

set_option maxHeartbeats 4000000 in
set_option maxRecDepth 100000 in
theorem lc_14 {p : Program} {e : Env} {s : State} {m : MethodId} {below : List Frame} {meth : Method} {c : Code} (l : Launch) (hl0 : l.stackTraces = false) {b L : Nat} {xs : Nat → Int32} (hL30 : L < 2 ^ 30) (C0 : lw_At p s m meth c b L xs) {z : Prop} {g : EN} {hc hm : Nat → Nat} {o : Nat} {A : Nat → Prop} (hbA : ¬ A b) {i : Nat} (hi : i + 5 ≤ L) {H : Heap} {locs : List Loc} {cells slots : Nat} (hroom : cells + 2 ≤ room_1.cells ∧ slots + 16 ≤ room_1.slots) (hI : LI z g hc hm o A s H locs) {Q : State → Prop} {ls : Array Slot} (hl : lv_has ls 8 [(0, .ref b), (1, .ref (hc 0)), (2, .ref (hm 0)), (3, .ref o), (4, .int (nI i))])
    (kk : ∀ (H1 : Heap) (locs1 : List Loc) (ls1 : Array Slot), LI False g hc hm o A s H1 locs1 → lv_has ls1 8 [(0, .ref b), (1, .ref (hc 0)), (2, .ref (hm 0)), (3, .ref o), (4, .int (nI i))] → W p l e room_1 s m #[Value.ref b] below meth c H1 locs1 (cells + 1) (slots + 6) Q (F0 m 843 ls1 [])) : W p l e room_1 s m #[Value.ref b] below meth c H locs cells slots Q (F0 m 662 ls []) := by
  obtain ⟨hx, hb, hr, hml, hown, hts, hX, hbl, hlocks, hgv⟩ := C0
  have hM : CallFix p m c cL_law 8 s #[Value.ref b] wsL_law RL := ⟨hx, hb, hml, hown, fun w h => hts w (wsL_law_in w h)⟩
  obtain ⟨N, tk, dom, gr, va, dr, off, rt, cnt, lk, dl, td, K, E, ds, M, X, dm, thr, f, hG, ⟨hN, hg, hlk, hsy, hR⟩, hz0⟩ := hI
  refine lv_aload_n hx hb dL_law_662 rfl (lv_at hl 1 rfl) ?_
  refine lv_aload_n hx hb dL_law_663 rfl (lv_at hl 0 rfl) ?_
  refine lv_iload hx hb dL_law_664 (lv_at hl 4 rfl) ?_
  refine lv_iconst (v := 1) hx hb dL_law_666 (by decide) ?_
  refine lv_iadd hx hb dL_law_667 ?_
  refine q_ren (nI_add i 1) ?_
  refine q_sld hM hG hX hbl hbA (by omega) hL30 dL_law_668 ?_
  refine lv_aload_n hx hb dL_law_669 rfl (lv_at hl 3 rfl) ?_
  refine q_callW (n := 3) (As := [.ref (hc 0), .int (xs (i + 1)), .ref o]) (rest := []) hM hl.1 hG (w_bestByGraph l hl0 g hc o f N tk dom gr va dr off rt cnt lk dl td K E ds (xs (i + 1)) hN hlk hg) rfl gL_law_L_bestByGraph (by decide +kernel) ⟨Nat.le_of_ble_eq_true rfl, Nat.le_of_ble_eq_true rfl⟩ rfl rfl (Nat.le_of_ble_eq_true rfl) dL_law_670 (c1 := cells + 1) (s1 := slots + 6) rfl rfl ⟨by omega, by omega⟩ (fun r v H locs hp hG => ?_)
  rcases v with ⟨u1, f1⟩ | _
  · obtain ⟨rfl, r0, hc0, hf⟩ := hp
    dsimp only at hc0 hf
    obtain ⟨i0, hi0, hx0, w0, d0, hbb, rfl⟩ := hc0
    have hG : cC g ((oNet g o f1 ++ (cNet g hc N tk dom gr va dr off rt cnt lk dl td K E u1)) ++ (mNet g hm N tk dom gr va dr off rt cnt lk dl td M X dm thr)) A s H locs := hG
    refine lv_istore (lv' := [(5, .int 0), (0, .ref b), (1, .ref (hc 0)), (2, .ref (hm 0)), (3, .ref o), (4, .int (nI i))]) hx hb dL_law_673 hl (by decide) rfl (fun ls hl => ?_)
    refine lv_aload_n hx hb dL_law_675 rfl (lv_at hl 3 rfl) ?_
    refine lv_aload_n hx hb dL_law_676 rfl (lv_at hl 1 rfl) ?_
    refine lv_iload hx hb dL_law_677 (lv_at hl 5 rfl) ?_
    refine lv_iconst (v := 1) hx hb dL_law_679 (by decide) ?_
    refine lv_iadd hx hb dL_law_680 ?_
    refine q_ren (nI_add i 1) ?_
    refine q_sld hM hG hX hbl hbA (by omega) hL30 dL_law_681 ?_
    refine q_callMi (n := 1) (As := [.int (xs (i + 1))]) (rest := []) hM hl.1 hG (c_X3_bestByGraph l g hm N tk dom gr va dr off rt cnt lk dl td M X dm thr (xs (i + 1)) hN hlk hsy hg) rfl gL_law_X3_bestByGraph (by decide +kernel) ⟨Nat.le_of_ble_eq_true rfl, Nat.le_of_ble_eq_true rfl⟩ 0 rfl rfl rfl rfl rfl (Nat.le_of_ble_eq_true rfl) dL_law_682 (c1 := cells + 1) (s1 := slots + 6) rfl rfl ⟨by omega, by omega⟩ (fun rb u2 H locs hp2 hG => ?_)
    obtain ⟨t, m1⟩ := u2
    dsimp only at hp2
    obtain rfl : t = 0 := cd1.ok hp2.1 ⟨i0, hi0, hx0⟩
    obtain ⟨i1, hi1, hx1, w1, d1, hb1, rfl⟩ := hp2.2 rfl
    obtain rfl : i0 = i1 := (nI_eq (by omega) (by omega)).mp (hx0.symm.trans hx1)
    obtain ⟨rfl, rfl⟩ := bestBy_uniq hN hg hbb hb1
    have hG : cC g ((oNet g o f1 ++ (cNet g hc N tk dom gr va dr off rt cnt lk dl td K E u1)) ++ (mNet g hm N tk dom gr va dr off rt cnt lk dl td M X m1 0)) A s H locs := hG
    refine lv_istore (lv' := [(6, .int (nI w0)), (5, .int 0), (0, .ref b), (1, .ref (hc 0)), (2, .ref (hm 0)), (3, .ref o), (4, .int (nI i))]) hx hb dL_law_685 hl (by decide) rfl (fun ls hl => ?_)
    refine lv_goto (tgt := 843) hx hb dL_law_687 (by decide) ?_
    exact kk _ _ _ ⟨_, _, _, _, _, _, _, _, _, _, _, _, _, _, _, _, _, _, _, _, hG, ⟨hN, hg, hlk, hsy, hR⟩, False.elim⟩ (lv_sub hl [2, 3, 4, 5, 6] rfl)
  · have hG : cC g ((oNet g o f ++ (cNet g hc N tk dom gr va dr off rt cnt lk dl td K E ds)) ++ (mNet g hm N tk dom gr va dr off rt cnt lk dl td M X dm thr)) A s H locs := hG
    have h9 : xk1 r (okN N (xs (i + 1))) := hp
    refine lv_istore (lv' := [(5, .int r), (0, .ref b), (1, .ref (hc 0)), (2, .ref (hm 0)), (3, .ref o), (4, .int (nI i))]) hx hb dL_law_673 hl (by decide) rfl (fun ls hl => ?_)
    refine lv_aload_n hx hb dL_law_675 rfl (lv_at hl 3 rfl) ?_
    refine lv_aload_n hx hb dL_law_676 rfl (lv_at hl 1 rfl) ?_
    refine lv_iload hx hb dL_law_677 (lv_at hl 5 rfl) ?_
    refine lv_iconst (v := 1) hx hb dL_law_679 (by decide) ?_
    refine lv_iadd hx hb dL_law_680 ?_
    refine q_ren (nI_add i 1) ?_
    refine q_sld hM hG hX hbl hbA (by omega) hL30 dL_law_681 ?_
    refine q_callMi (n := 1) (As := [.int (xs (i + 1))]) (rest := []) hM hl.1 hG (c_X3_bestByGraph l g hm N tk dom gr va dr off rt cnt lk dl td M X dm thr (xs (i + 1)) hN hlk hsy hg) rfl gL_law_X3_bestByGraph (by decide +kernel) ⟨Nat.le_of_ble_eq_true rfl, Nat.le_of_ble_eq_true rfl⟩ 0 rfl rfl rfl rfl rfl (Nat.le_of_ble_eq_true rfl) dL_law_682 (c1 := cells + 1) (s1 := slots + 6) rfl rfl ⟨by omega, by omega⟩ (fun rb u2 H locs hp2 hG => ?_)
    obtain ⟨t, m1⟩ := u2
    dsimp only at hp2
    have hk : t = r := cd1_uniq hp2.1 h9.cd.1
    have h0 : ¬ t = 0 := by rw [hk]; exact h9.cd.2
    have hG : cC g ((oNet g o f ++ (cNet g hc N tk dom gr va dr off rt cnt lk dl td K E ds)) ++ (mNet g hm N tk dom gr va dr off rt cnt lk dl td M X m1 t)) A s H locs := hG
    refine lv_istore (lv' := [(6, .int rb), (5, .int r), (0, .ref b), (1, .ref (hc 0)), (2, .ref (hm 0)), (3, .ref o), (4, .int (nI i))]) hx hb dL_law_685 hl (by decide) rfl (fun ls hl => ?_)
    refine lv_goto (tgt := 843) hx hb dL_law_687 (by decide) ?_
    exact kk _ _ _ ⟨_, _, _, _, _, _, _, _, _, _, _, _, _, _, _, _, _, _, _, _, hG, ⟨hN, hg, hlk, hsy, hR⟩, False.elim⟩ (lv_sub hl [2, 3, 4, 5, 6] rfl)
