/-- five more at the loop's head: how often it turns -/
theorem t_room {L i t : Nat} (hL : L ≤ 2560) (hi : i = 5 * t) (h : i + 5 ≤ L) : 44 + t + 2 ≤ 1074 ∧ 969 + 6 * t + 16 ≤ 9197 := by omega
set_option maxHeartbeats 4000000 in
set_option maxRecDepth 100000 in
theorem law_loop {p : Program} {e : Env} {s : State} {m : MethodId} {below : List Frame} {meth : Method} {c : Code} (l : Launch) (hl0 : l.stackTraces = false) {b L : Nat} {xs : Nat → Int32} (hL30 : L < 2 ^ 30) (C0 : lw_At p s m meth c b L xs) {z : Prop} {g : EN} {hc hm : Nat → Nat} {o : Nat} {A : Nat → Prop} (hbA : ¬ A b) (hA : ∀ q, A q → s.heap.size ≤ q) (hL : L ≤ 2560) : ∀ (n i t : Nat) {H : Heap} {locs : List Loc} {ls : Array Slot}, i = 5 * t → i ≤ L → L + 1 ≤ i + n → LI (i = 0) g hc hm o A s H locs → lv_has ls 8 [(0, .ref b), (1, .ref (hc 0)), (2, .ref (hm 0)), (3, .ref o), (4, .int (nI i))] → W p l e room_1 s m #[Value.ref b] below meth c H locs (44 + t) (969 + 6 * t) (lw_Z below #[Value.ref b] s) (F0 m 23 ls []) := by
  intro n
  induction n with
  | zero => intro i t H locs ls h1 h2 h3; omega
  | succ n ih =>
    intro i t H locs ls hit hiL hn hI hl
    obtain ⟨hx, hb, hr, hml, hown, hts, hX, hbl, hlocks, hgv⟩ := id C0
    have hM : CallFix p m c cL_law 8 s #[Value.ref b] wsL_law RL := ⟨hx, hb, hml, hown, fun w h => hts w (wsL_law_in w h)⟩
    obtain ⟨N, tk, dom, gr, va, dr, off, rt, cnt, lk, dl, td, K, E, ds, M, X, dm, thr, f, hG, hV, hz0⟩ := id hI
    refine lv_iload hx hb dL_law_23 (lv_at hl 4 rfl) ?_
    refine lv_aload_n hx hb dL_law_25 rfl (lv_at hl 0 rfl) ?_
    refine va_slen hx hb hX hbl hbA hG.2.2.2.1 dL_law_26 ?_
    refine q_ren (show Int32.ofNat L = nI L from rfl) ?_
    refine lv_iconst (v := 5) hx hb dL_law_27 (by decide) ?_
    refine lv_isub hx hb dL_law_28 ?_
    refine lv_icmp_gt (tgt := 849) hx hb dL_law_29 (by decide) (fun _ => ?_) (fun h5 => ?_)
    · refine lv_iconst (v := 1) hx hb dL_law_849 (by decide) ?_
      refine va_forget (fun q hq => hA _ (hG.2.2.2.1.2.2 q hq)) ?_
      refine W.widen (k := 1074) (n := 9197) (by omega) (by omega) ?_
      exact lw_ret hx hb hr hlocks dL_law_850
    · have hi5 : i + 5 ≤ L := le5 hL30 (by omega) h5
      have hroom : 44 + t + 2 ≤ room_1.cells ∧ 969 + 6 * t + 16 ≤ room_1.slots := t_room hL hit hi5
      refine lv_aload_n hx hb dL_law_32 rfl (lv_at hl 0 rfl) ?_
      refine lv_iload hx hb dL_law_33 (lv_at hl 4 rfl) ?_
      refine q_sld hM hG hX hbl hbA (by omega) hL30 dL_law_35 ?_
      refine lv_bipush (v := 31) hx hb dL_law_36 (by decide) ?_
      refine lv_iand hx hb dL_law_38 ?_
      obtain ⟨j, hj, he⟩ := pk_andE (xs i) (m := 31) 5 (by decide)
      refine q_ren he ?_
      have kk : ∀ (H1 : Heap) (locs1 : List Loc) (ls1 : Array Slot), LI False g hc hm o A s H1 locs1 → lv_has ls1 8 [(0, .ref b), (1, .ref (hc 0)), (2, .ref (hm 0)), (3, .ref o), (4, .int (nI i))] → W p l e room_1 s m #[Value.ref b] below meth c H1 locs1 (44 + t + 1) (969 + 6 * t + 6) (lw_Z below #[Value.ref b] s) (F0 m 843 ls1 []) := by
        intro H1 locs1 ls1 hI1 hl1
        refine lv_iinc (v := nI (i + 5)) (lv' := [(4, .int (nI (i + 5))), (0, .ref b), (1, .ref (hc 0)), (2, .ref (hm 0)), (3, .ref o)]) hx hb dL_law_843 hl1 (k := 4) rfl (nI_add i 5) (by decide) rfl (fun ls2 hl2 => ?_)
        refine lv_goto (tgt := 23) hx hb dL_law_846 (by decide) ?_
        have h9 := ih (i + 5) (t + 1) (by omega) hi5 (by omega) (hI1.mono (fun h => by omega)) (lv_sub hl2 [1, 2, 3, 4, 0] rfl)
        have e1 : 44 + (t + 1) = 44 + t + 1 := by omega
        have e2 : 969 + 6 * (t + 1) = 969 + 6 * t + 6 := by omega
        rw [e1, e2] at h9
        exact h9
      by_cases hj20 : j < 20
      · rcases (show j = 0 ∨ j = 1 ∨ j = 2 ∨ j = 3 ∨ j = 4 ∨ j = 5 ∨ j = 6 ∨ j = 7 ∨ j = 8 ∨ j = 9 ∨ j = 10 ∨ j = 11 ∨ j = 12 ∨ j = 13 ∨ j = 14 ∨ j = 15 ∨ j = 16 ∨ j = 17 ∨ j = 18 ∨ j = 19 by omega) with rfl | rfl | rfl | rfl | rfl | rfl | rfl | rfl | rfl | rfl | rfl | rfl | rfl | rfl | rfl | rfl | rfl | rfl | rfl | rfl
        · exact lv_tableIn hx hb dL_law_39 (off := 93) (tgt := 132) (by decide) (by decide) rfl (by decide) (lc_0 l hl0 hL30 C0 hbA hi5 hroom hI hl kk)
        · exact lv_tableIn hx hb dL_law_39 (off := 157) (tgt := 196) (by decide) (by decide) rfl (by decide) (lc_1 l hl0 hL30 C0 hbA hi5 hroom hI hl kk)
        · exact lv_tableIn hx hb dL_law_39 (off := 209) (tgt := 248) (by decide) (by decide) rfl (by decide) (lc_2 l hl0 hL30 C0 hbA hi5 hroom hI hl kk)
        · exact lv_tableIn hx hb dL_law_39 (off := 249) (tgt := 288) (by decide) (by decide) rfl (by decide) (lc_3 l hl0 hL30 C0 hbA hi5 hroom hI hl kk)
        · exact lv_tableIn hx hb dL_law_39 (off := 289) (tgt := 328) (by decide) (by decide) rfl (by decide) (lc_4 l hl0 hL30 C0 hbA hi5 hroom hI hl kk)
        · exact lv_tableIn hx hb dL_law_39 (off := 353) (tgt := 392) (by decide) (by decide) rfl (by decide) (lc_5 l hl0 hL30 C0 hbA hi5 hroom hI hl kk)
        · exact lv_tableIn hx hb dL_law_39 (off := 393) (tgt := 432) (by decide) (by decide) rfl (by decide) (lc_6 l hl0 hL30 C0 hbA hi5 hroom hI hl kk)
        · exact lv_tableIn hx hb dL_law_39 (off := 445) (tgt := 484) (by decide) (by decide) rfl (by decide) (lc_7 l hl0 hL30 C0 hbA hi5 hroom hI hl kk)
        · exact lv_tableIn hx hb dL_law_39 (off := 473) (tgt := 512) (by decide) (by decide) rfl (by decide) (lc_8 l hl0 hL30 C0 hbA hi5 hroom hI hl kk)
        · exact lv_tableIn hx hb dL_law_39 (off := 486) (tgt := 525) (by decide) (by decide) rfl (by decide) (lc_9 l hl0 hL30 C0 hbA hi5 hroom hI hl kk)
        · exact lv_tableIn hx hb dL_law_39 (off := 499) (tgt := 538) (by decide) (by decide) rfl (by decide) (lc_10 l hl0 hL30 C0 hbA hi5 hroom hI hl kk)
        · exact lv_tableIn hx hb dL_law_39 (off := 527) (tgt := 566) (by decide) (by decide) rfl (by decide) (lc_11 l hl0 hL30 C0 hbA hi5 hroom hI hl kk)
        · exact lv_tableIn hx hb dL_law_39 (off := 555) (tgt := 594) (by decide) (by decide) rfl (by decide) (lc_12 l hl0 hL30 C0 hbA hi5 hroom hI hl kk)
        · exact lv_tableIn hx hb dL_law_39 (off := 583) (tgt := 622) (by decide) (by decide) rfl (by decide) (lc_13 l hl0 hL30 C0 hbA hi5 hroom hI hl kk)
        · exact lv_tableIn hx hb dL_law_39 (off := 623) (tgt := 662) (by decide) (by decide) rfl (by decide) (lc_14 l hl0 hL30 C0 hbA hi5 hroom hI hl kk)
        · exact lv_tableIn hx hb dL_law_39 (off := 651) (tgt := 690) (by decide) (by decide) rfl (by decide) (lc_15 l hl0 hL30 C0 hbA hi5 hroom hI hl kk)
        · exact lv_tableIn hx hb dL_law_39 (off := 707) (tgt := 746) (by decide) (by decide) rfl (by decide) (lc_16 l hl0 hL30 C0 hbA hi5 hroom hI hl kk)
        · exact lv_tableIn hx hb dL_law_39 (off := 720) (tgt := 759) (by decide) (by decide) rfl (by decide) (lc_17 l hl0 hL30 C0 hbA hi5 hroom hI hl kk)
        · exact lv_tableIn hx hb dL_law_39 (off := 748) (tgt := 787) (by decide) (by decide) rfl (by decide) (lc_18 l hl0 hL30 C0 hbA hi5 hroom hI hl kk)
        · exact lv_tableIn hx hb dL_law_39 (off := 776) (tgt := 815) (by decide) (by decide) rfl (by decide) (lc_19 l hl0 hL30 C0 hbA hi5 hroom hI hl kk)
      · refine lv_tableOut hx hb dL_law_39 (tgt := 843) (Or.inr (by rw [nI_toInt (by omega)]; omega)) (by decide) ?_
        refine W.widen (k := 44 + t + 1) (n := 969 + 6 * t + 6) (by omega) (by omega) ?_
        exact kk _ _ _ (hI.mono False.elim) hl
