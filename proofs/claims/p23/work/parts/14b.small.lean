set_option maxHeartbeats 4000000 in
set_option maxRecDepth 100000 in
theorem c_L_parent (l : Launch) (g : EN)  (v : Nat) (hv : v < 2 ^ 40) : Ci l yL_parent wsL_parent ({ frames := 0, cells := 0, slots := 0, locals := 0 }) g [.long (lN v)] [] (fun (r : Int32) (_ : Unit) => r = nI (v % 11) - 1) (fun (_ : Unit) => []) := by
  refine Ci.of (cc := cL_parent) (maxL := 2) (by decide) rfl (Nat.le_of_ble_eq_true rfl) ?_
  intro p e s m args below meth c A Q ls hM hG hRet hl
  have hx := hM.1
  have hb := hM.2.1
  have hown := hM.2.2.2.1
  have hts := hM.2.2.2.2
  have hl : lv_has ls 2 [(0, .long (lN v))] := hl
  refine lv_lload_n hx hb dL_parent_0 rfl (lv_at hl 0 rfl) ?_
  refine lv_ldc2 (v := 11) hx hb hown (hts (.constantLong RL 13 11) (by decide +kernel)) dL_parent_1 ?_
  refine q_renl (show (11 : Int64) = lN 11 from rfl) ?_
  refine lv_lrem hx hb dL_parent_4 (by decide) ?_
  refine q_renl (pk_lRem (a := v) (by omega) (by decide) (by decide)) ?_
  refine lv_l2i hx hb dL_parent_5 (lN_i (v % 11)) ?_
  refine lv_iconst (v := nI 1) hx hb dL_parent_6 (by decide) ?_
  refine lv_isub hx hb dL_parent_7 ?_
  exact hRet ((nI (v % 11)) - (nI 1)) () _ _ _ _ _ _ rfl hG (Nat.le_of_ble_eq_true rfl) (Nat.le_of_ble_eq_true rfl) dL_parent_8

set_option maxHeartbeats 4000000 in
set_option maxRecDepth 100000 in
theorem c_L_steps (l : Launch) (g : EN)  (v : Nat) (hv : v < 2 ^ 40) : Ci l yL_steps wsL_steps ({ frames := 0, cells := 0, slots := 0, locals := 0 }) g [.long (lN v)] [] (fun (r : Int32) (_ : Unit) => r = nI (v / 11 % 10)) (fun (_ : Unit) => []) := by
  refine Ci.of (cc := cL_steps) (maxL := 2) (by decide) rfl (Nat.le_of_ble_eq_true rfl) ?_
  intro p e s m args below meth c A Q ls hM hG hRet hl
  have hx := hM.1
  have hb := hM.2.1
  have hown := hM.2.2.2.1
  have hts := hM.2.2.2.2
  have hl : lv_has ls 2 [(0, .long (lN v))] := hl
  refine lv_lload_n hx hb dL_steps_0 rfl (lv_at hl 0 rfl) ?_
  refine lv_ldc2 (v := 11) hx hb hown (hts (.constantLong RL 13 11) (by decide +kernel)) dL_steps_1 ?_
  refine q_renl (show (11 : Int64) = lN 11 from rfl) ?_
  refine lv_ldiv hx hb dL_steps_4 (by decide) ?_
  refine q_renl (pk_lDiv (a := v) (by omega) (by decide) (by decide)) ?_
  refine lv_ldc2 (v := 10) hx hb hown (hts (.constantLong RL 9 10) (by decide +kernel)) dL_steps_5 ?_
  refine q_renl (show (10 : Int64) = lN 10 from rfl) ?_
  refine lv_lrem hx hb dL_steps_8 (by decide) ?_
  refine q_renl (pk_lRem (a := v / 11) (by omega) (by decide) (by decide)) ?_
  refine lv_l2i hx hb dL_steps_9 (lN_i ((v / 11) % 10)) ?_
  exact hRet (nI ((v / 11) % 10)) () _ _ _ _ _ _ rfl hG (Nat.le_of_ble_eq_true rfl) (Nat.le_of_ble_eq_true rfl) dL_steps_10

set_option maxHeartbeats 4000000 in
set_option maxRecDepth 100000 in
theorem c_L_clock (l : Launch) (g : EN)  (v : Nat) (hv : v < 2 ^ 40) : Ci l yL_clock wsL_clock ({ frames := 0, cells := 0, slots := 0, locals := 0 }) g [.long (lN v)] [] (fun (r : Int32) (_ : Unit) => r = nI (v / 110 % 10)) (fun (_ : Unit) => []) := by
  refine Ci.of (cc := cL_clock) (maxL := 2) (by decide) rfl (Nat.le_of_ble_eq_true rfl) ?_
  intro p e s m args below meth c A Q ls hM hG hRet hl
  have hx := hM.1
  have hb := hM.2.1
  have hown := hM.2.2.2.1
  have hts := hM.2.2.2.2
  have hl : lv_has ls 2 [(0, .long (lN v))] := hl
  refine lv_lload_n hx hb dL_clock_0 rfl (lv_at hl 0 rfl) ?_
  refine lv_ldc2 (v := 110) hx hb hown (hts (.constantLong RL 11 110) (by decide +kernel)) dL_clock_1 ?_
  refine q_renl (show (110 : Int64) = lN 110 from rfl) ?_
  refine lv_ldiv hx hb dL_clock_4 (by decide) ?_
  refine q_renl (pk_lDiv (a := v) (by omega) (by decide) (by decide)) ?_
  refine lv_ldc2 (v := 10) hx hb hown (hts (.constantLong RL 9 10) (by decide +kernel)) dL_clock_5 ?_
  refine q_renl (show (10 : Int64) = lN 10 from rfl) ?_
  refine lv_lrem hx hb dL_clock_8 (by decide) ?_
  refine q_renl (pk_lRem (a := v / 110) (by omega) (by decide) (by decide)) ?_
  refine lv_l2i hx hb dL_clock_9 (lN_i ((v / 110) % 10)) ?_
  exact hRet (nI ((v / 110) % 10)) () _ _ _ _ _ _ rfl hG (Nat.le_of_ble_eq_true rfl) (Nat.le_of_ble_eq_true rfl) dL_clock_10

set_option maxHeartbeats 4000000 in
set_option maxRecDepth 100000 in
theorem c_L_pair (l : Launch) (g : EN)  (i j : Nat) (hi : i < 10) (hj : j < 10) (hne : ¬ i = j) : Ci l yL_pair wsL_pair ({ frames := 0, cells := 0, slots := 0, locals := 0 }) g [.int (nI i), .int (nI j)] [] (fun (r : Int32) (_ : Unit) => r = nI (prn i j)) (fun (_ : Unit) => []) := by
  refine Ci.of (cc := cL_pair) (maxL := 4) (by decide) rfl (Nat.le_of_ble_eq_true rfl) ?_
  intro p e s m args below meth c A Q ls hM hG hRet hl
  have hx := hM.1
  have hb := hM.2.1
  have hown := hM.2.2.2.1
  have hts := hM.2.2.2.2
  have hl : lv_has ls 4 [(0, .int (nI i)), (1, .int (nI j))] := hl
  refine lv_iload_n hx hb dL_pair_0 rfl (lv_at hl 0 rfl) ?_
  refine lv_iload_n hx hb dL_pair_1 rfl (lv_at hl 1 rfl) ?_
  refine lv_icmp_le (tgt := 9) hx hb dL_pair_2 (by decide) (fun c_2 => ?_) (fun c_2 => ?_)
  · have hc : i ≤ j := (nI_leI (by omega) (by omega)).mp c_2
    refine lv_iload_n hx hb dL_pair_9 rfl (lv_at hl 1 rfl) ?_
    refine lv_istore_n (lv' := [(2, .int (nI j)), (0, .int (nI i)), (1, .int (nI j))]) hx hb dL_pair_10 rfl hl (by decide) rfl (fun ls hl => ?_)
    refine lv_iload_n hx hb dL_pair_11 rfl (lv_at hl 1 rfl) ?_
    refine lv_iload_n hx hb dL_pair_12 rfl (lv_at hl 2 rfl) ?_
    refine lv_icmp_le (tgt := 20) hx hb dL_pair_13 (by decide) (fun c_13 => ?_) (fun c_13 => ?_)
    · refine lv_iload_n hx hb dL_pair_20 rfl (lv_at hl 1 rfl) ?_
      refine lv_istore_n (lv' := [(3, .int (nI i)), (2, .int (nI j)), (0, .int (nI i)), (1, .int (nI j))]) hx hb dL_pair_21 rfl hl (by decide) rfl (fun ls hl => ?_)
      refine lv_iload_n hx hb dL_pair_22 rfl (lv_at hl 1 rfl) ?_
      refine lv_iload_n hx hb dL_pair_23 rfl (lv_at hl 1 rfl) ?_
      refine lv_iconst (v := nI 1) hx hb dL_pair_24 (by decide) ?_
      refine lv_isub hx hb dL_pair_25 ?_
      refine q_ren (pk_sub (by omega)) ?_
      refine lv_imul hx hb dL_pair_26 ?_
      refine q_ren (pk_mul j (j - 1)) ?_
      refine lv_iconst (v := nI 2) hx hb dL_pair_27 (by decide) ?_
      refine lv_idiv hx hb dL_pair_28 (by decide) ?_
      refine q_ren (pk_div (a := j * (j - 1)) (by first | exact (Nat.lt_of_le_of_lt (Nat.mul_le_mul (show i ≤ 10 by omega) (show i - 1 ≤ 10 by omega)) (by decide)) | exact (Nat.lt_of_le_of_lt (Nat.mul_le_mul (show j ≤ 10 by omega) (show j - 1 ≤ 10 by omega)) (by decide))) (by decide) (by decide)) ?_
      refine lv_iload_n hx hb dL_pair_29 rfl (lv_at hl 0 rfl) ?_
      refine lv_iadd hx hb dL_pair_30 ?_
      refine q_ren (nI_add ((j * (j - 1)) / 2) i) ?_
      exact hRet (nI ((j * (j - 1)) / 2 + i)) () _ _ _ _ _ _ (congrArg nI (by unfold prn; rw [if_neg (by omega)])) hG (Nat.le_of_ble_eq_true rfl) (Nat.le_of_ble_eq_true rfl) dL_pair_31
    · exact absurd c_2 c_13
  · have hc : j < i := Nat.lt_of_not_le (fun h9 => c_2 ((nI_leI (by omega) (by omega)).mpr h9))
    refine lv_iload_n hx hb dL_pair_5 rfl (lv_at hl 0 rfl) ?_
    refine lv_goto (tgt := 10) hx hb dL_pair_6 (by decide) ?_
    refine lv_istore_n (lv' := [(2, .int (nI i)), (0, .int (nI i)), (1, .int (nI j))]) hx hb dL_pair_10 rfl hl (by decide) rfl (fun ls hl => ?_)
    refine lv_iload_n hx hb dL_pair_11 rfl (lv_at hl 1 rfl) ?_
    refine lv_iload_n hx hb dL_pair_12 rfl (lv_at hl 2 rfl) ?_
    refine lv_icmp_le (tgt := 20) hx hb dL_pair_13 (by decide) (fun c_13 => ?_) (fun c_13 => ?_)
    · exact absurd c_13 c_2
    · refine lv_iload_n hx hb dL_pair_16 rfl (lv_at hl 2 rfl) ?_
      refine lv_goto (tgt := 21) hx hb dL_pair_17 (by decide) ?_
      refine lv_istore_n (lv' := [(3, .int (nI j)), (2, .int (nI i)), (0, .int (nI i)), (1, .int (nI j))]) hx hb dL_pair_21 rfl hl (by decide) rfl (fun ls hl => ?_)
      refine lv_iload_n hx hb dL_pair_22 rfl (lv_at hl 1 rfl) ?_
      refine lv_iload_n hx hb dL_pair_23 rfl (lv_at hl 1 rfl) ?_
      refine lv_iconst (v := nI 1) hx hb dL_pair_24 (by decide) ?_
      refine lv_isub hx hb dL_pair_25 ?_
      refine q_ren (pk_sub (by omega)) ?_
      refine lv_imul hx hb dL_pair_26 ?_
      refine q_ren (pk_mul i (i - 1)) ?_
      refine lv_iconst (v := nI 2) hx hb dL_pair_27 (by decide) ?_
      refine lv_idiv hx hb dL_pair_28 (by decide) ?_
      refine q_ren (pk_div (a := i * (i - 1)) (by first | exact (Nat.lt_of_le_of_lt (Nat.mul_le_mul (show i ≤ 10 by omega) (show i - 1 ≤ 10 by omega)) (by decide)) | exact (Nat.lt_of_le_of_lt (Nat.mul_le_mul (show j ≤ 10 by omega) (show j - 1 ≤ 10 by omega)) (by decide))) (by decide) (by decide)) ?_
      refine lv_iload_n hx hb dL_pair_29 rfl (lv_at hl 0 rfl) ?_
      refine lv_iadd hx hb dL_pair_30 ?_
      refine q_ren (nI_add ((i * (i - 1)) / 2) j) ?_
      exact hRet (nI ((i * (i - 1)) / 2 + j)) () _ _ _ _ _ _ (congrArg nI (by unfold prn; rw [if_pos hc])) hG (Nat.le_of_ble_eq_true rfl) (Nat.le_of_ble_eq_true rfl) dL_pair_31

set_option maxHeartbeats 4000000 in
set_option maxRecDepth 100000 in
theorem c_L_own (l : Launch) (g : EN) (ka : Nat → Nat) (nn : Nat → Int32) (aa : Nat → Int32) (ll : Nat → Int32) (yy : Nat → Int64) (tt : Nat → Int32) (kk : Nat → Int64) (oo : Nat → Int64) (N : Nat) (dom gr va dr : Nat → Int32) (i : Nat) (hi : i < N) (hN : N ≤ 10) (hA : LA N aa dom gr va dr) (hg : rng gr va) : Cl l yL_own wsL_own ({ frames := 0, cells := 0, slots := 0, locals := 0 }) g [.ref (ka 1), .int (nI i)] (lNet g ka nn aa ll yy tt kk oo) (fun (r : Int64) (_ : Unit) => r = lN (rkn gr va i * 110)) (fun (_ : Unit) => (lNet g ka nn aa ll yy tt kk oo)) := by
  refine Cl.of (cc := cL_own) (maxL := 2) (by decide) rfl (Nat.le_of_ble_eq_true rfl) ?_
  intro p e s m args below meth c A Q ls hM hG hRet hl
  have hx := hM.1
  have hb := hM.2.1
  have hown := hM.2.2.2.1
  have hts := hM.2.2.2.2
  have hl : lv_has ls 2 [(0, .ref (ka 1)), (1, .int (nI i))] := hl
  obtain ⟨_, h2, h3, _⟩ := hA i hi
  obtain ⟨-, hb1, -, x, y, hx1, hy1, e1, e2, e3⟩ := rkn_val hg (show i < 10 by omega)
  refine lv_aload_n hx hb dL_own_0 rfl (lv_at hl 0 rfl) ?_
  refine lv_iconst (v := nI 4) hx hb dL_own_1 (by decide) ?_
  refine lv_iload_n hx hb dL_own_2 rfl (lv_at hl 1 rfl) ?_
  refine lv_imul hx hb dL_own_3 ?_
  refine q_ren (pk_mul 4 i) ?_
  refine lv_iconst (v := nI 1) hx hb dL_own_4 (by decide) ?_
  refine lv_iadd hx hb dL_own_5 ?_
  refine q_ren (nI_add (4 * i) 1) ?_
  refine q_iald hM hG 1 (i := 4 * i + 1) rfl (by omega) (by decide) dL_own_6 ?_
  refine q_ren (h2.trans e1) ?_
  refine lv_i2l hx hb dL_own_7 (nI_l (n := x) (by omega)) ?_
  refine lv_ldc2 (v := 1001) hx hb hown (hts (.constantLong RL 7 1001) (by decide +kernel)) dL_own_8 ?_
  refine q_renl (show (1001 : Int64) = lN 1001 from rfl) ?_
  refine lv_lmul hx hb dL_own_11 ?_
  refine q_renl (lN_mul x 1001) ?_
  refine lv_aload_n hx hb dL_own_12 rfl (lv_at hl 0 rfl) ?_
  refine lv_iconst (v := nI 4) hx hb dL_own_13 (by decide) ?_
  refine lv_iload_n hx hb dL_own_14 rfl (lv_at hl 1 rfl) ?_
  refine lv_imul hx hb dL_own_15 ?_
  refine q_ren (pk_mul 4 i) ?_
  refine lv_iconst (v := nI 2) hx hb dL_own_16 (by decide) ?_
  refine lv_iadd hx hb dL_own_17 ?_
  refine q_ren (nI_add (4 * i) 2) ?_
  refine q_iald hM hG 1 (i := 4 * i + 2) rfl (by omega) (by decide) dL_own_18 ?_
  refine q_ren (h3.trans e2) ?_
  refine lv_i2l hx hb dL_own_19 (nI_l (n := y) (by omega)) ?_
  refine lv_ladd hx hb dL_own_20 ?_
  refine q_renl (lN_add (x * 1001) y) ?_
  refine lv_ldc2 (v := 10) hx hb hown (hts (.constantLong RL 9 10) (by decide +kernel)) dL_own_21 ?_
  refine q_renl (show (10 : Int64) = lN 10 from rfl) ?_
  refine lv_lmul hx hb dL_own_24 ?_
  refine q_renl (lN_mul (x * 1001 + y) 10) ?_
  refine lv_iload_n hx hb dL_own_25 rfl (lv_at hl 1 rfl) ?_
  refine lv_i2l hx hb dL_own_26 (nI_l (n := i) (by omega)) ?_
  refine lv_ladd hx hb dL_own_27 ?_
  refine q_renl (lN_add ((x * 1001 + y) * 10) i) ?_
  refine lv_ldc2 (v := 110) hx hb hown (hts (.constantLong RL 11 110) (by decide +kernel)) dL_own_28 ?_
  refine q_renl (show (110 : Int64) = lN 110 from rfl) ?_
  refine lv_lmul hx hb dL_own_31 ?_
  refine q_renl (lN_mul ((x * 1001 + y) * 10 + i) 110) ?_
  refine q_renl (congrArg lN (show ((x * 1001 + y) * 10 + i) * 110 = rkn gr va i * 110 by rw [e3])) ?_
  exact hRet (lN (rkn gr va i * 110)) () _ _ _ _ _ _ rfl hG (Nat.le_of_ble_eq_true rfl) (Nat.le_of_ble_eq_true rfl) dL_own_32

set_option maxHeartbeats 4000000 in
set_option maxRecDepth 100000 in
theorem c_L_areNear (l : Launch) (g : EN) (ka : Nat → Nat) (nn : Nat → Int32) (aa : Nat → Int32) (ll : Nat → Int32) (yy : Nat → Int64) (tt : Nat → Int32) (kk : Nat → Int64) (oo : Nat → Int64) (N : Nat) (dom gr va dr : Nat → Int32) (lk : Nat → Int32) (i j : Nat) (hi : i < N) (hj : j < N) (hN : N ≤ 10) (hA : LA N aa dom gr va dr) (hB : LB ll lk) : Ci l yL_areNear wsL_areNear ({ frames := 0, cells := 0, slots := 0, locals := 0 }) g [.ref (ka 1), .ref (ka 2), .int (nI i), .int (nI j)] (lNet g ka nn aa ll yy tt kk oo) (fun (r : Int32) (_ : Unit) => bP r (nb dom lk i j)) (fun (_ : Unit) => (lNet g ka nn aa ll yy tt kk oo)) := by
  refine Cz.of (cc := cL_areNear) (maxL := 4) (by decide) rfl (Nat.le_of_ble_eq_true rfl) (fun r u h => bP.b h) ?_
  intro p e s m args below meth c A Q ls hM hG hRet hl
  have hx := hM.1
  have hb := hM.2.1
  have hown := hM.2.2.2.1
  have hts := hM.2.2.2.2
  have hl : lv_has ls 4 [(0, .ref (ka 1)), (1, .ref (ka 2)), (2, .int (nI i)), (3, .int (nI j))] := hl
  refine lv_aload_n hx hb dL_areNear_0 rfl (lv_at hl 1 rfl) ?_
  refine lv_iload_n hx hb dL_areNear_1 rfl (lv_at hl 2 rfl) ?_
  refine q_iald hM hG 2 (i := i) rfl (by omega) (by decide) dL_areNear_2 ?_
  refine lv_iload_n hx hb dL_areNear_3 rfl (lv_at hl 3 rfl) ?_
  refine lv_ishr hx hb dL_areNear_4 ?_
  refine lv_iconst (v := nI 1) hx hb dL_areNear_5 (by decide) ?_
  refine lv_iand hx hb dL_areNear_6 ?_
  by_cases hbt : bt (ll i) j = true
  · refine q_ren (sh1_t (by omega) hbt) ?_
    refine lv_iconst (v := nI 1) hx hb dL_areNear_7 (by decide) ?_
    refine lv_icmp_ne (tgt := 28) hx hb dL_areNear_8 (by decide) (fun c9 => False.elim (by revert c9; decide)) (fun _ => ?_)
    refine lv_aload_n hx hb dL_areNear_11 rfl (lv_at hl 0 rfl) ?_
    refine lv_iconst (v := nI 4) hx hb dL_areNear_12 (by decide) ?_
    refine lv_iload_n hx hb dL_areNear_13 rfl (lv_at hl 2 rfl) ?_
    refine lv_imul hx hb dL_areNear_14 ?_
    refine q_ren (pk_mul 4 i) ?_
    refine q_iald hM hG 1 (i := 4 * i) rfl (by omega) (by decide) dL_areNear_15 ?_
    refine q_ren ((hA i hi).1) ?_
    refine lv_aload_n hx hb dL_areNear_16 rfl (lv_at hl 0 rfl) ?_
    refine lv_iconst (v := nI 4) hx hb dL_areNear_17 (by decide) ?_
    refine lv_iload_n hx hb dL_areNear_18 rfl (lv_at hl 3 rfl) ?_
    refine lv_imul hx hb dL_areNear_19 ?_
    refine q_ren (pk_mul 4 j) ?_
    refine q_iald hM hG 1 (i := 4 * j) rfl (by omega) (by decide) dL_areNear_20 ?_
    refine q_ren ((hA j hj).1) ?_
    refine lv_icmp_ne (tgt := 28) hx hb dL_areNear_21 (by decide) (fun c_21 => ?_) (fun c_21 => ?_)
    · refine lv_iconst (v := nI 0) hx hb dL_areNear_28 (by decide) ?_
      exact hRet (nI 0) () _ _ _ _ _ _ (bP.f (fun h9 => c_21 h9.1)) hG (Nat.le_of_ble_eq_true rfl) (Nat.le_of_ble_eq_true rfl) dL_areNear_29
    · refine lv_iconst (v := nI 1) hx hb dL_areNear_24 (by decide) ?_
      refine lv_goto (tgt := 29) hx hb dL_areNear_25 (by decide) ?_
      exact hRet (nI 1) () _ _ _ _ _ _ (bP.t ⟨c_21, (hB i j (by omega) (by omega)).mp hbt⟩) hG (Nat.le_of_ble_eq_true rfl) (Nat.le_of_ble_eq_true rfl) dL_areNear_29
  · refine q_ren (sh1_f (by omega) hbt) ?_
    refine lv_iconst (v := nI 1) hx hb dL_areNear_7 (by decide) ?_
    refine lv_icmp_ne (tgt := 28) hx hb dL_areNear_8 (by decide) (fun _ => ?_) (fun c9 => False.elim (by revert c9; decide))
    refine lv_iconst (v := nI 0) hx hb dL_areNear_28 (by decide) ?_
    exact hRet (nI 0) () _ _ _ _ _ _ (bP.f (fun h9 => hbt ((hB i j (by omega) (by omega)).mpr h9.2))) hG (Nat.le_of_ble_eq_true rfl) (Nat.le_of_ble_eq_true rfl) dL_areNear_29

set_option maxHeartbeats 4000000 in
set_option maxRecDepth 100000 in
theorem c_L_delay (l : Launch) (g : EN) (ka : Nat → Nat) (nn : Nat → Int32) (aa : Nat → Int32) (ll : Nat → Int32) (yy : Nat → Int64) (tt : Nat → Int32) (kk : Nat → Int64) (oo : Nat → Int64) (dl : Nat → Int32) (i j : Nat) (hi : i < 10) (hj : j < 10) (hne : ¬ i = j) (hY : LY yy dl) : Ci l yL_delay wsL_delay ({ frames := 1, cells := 0, slots := 0, locals := 23 }) g [.ref (ka 3), .int (nI i), .int (nI j)] (lNet g ka nn aa ll yy tt kk oo) (fun (r : Int32) (_ : Unit) => r = dl (i * 10 + j)) (fun (_ : Unit) => (lNet g ka nn aa ll yy tt kk oo)) := by
  refine Ci.of (cc := cL_delay) (maxL := 5) (by decide) rfl (Nat.le_of_ble_eq_true rfl) ?_
  intro p e s m args below meth c A Q ls hM hG hRet hl
  have hx := hM.1
  have hb := hM.2.1
  have hown := hM.2.2.2.1
  have hts := hM.2.2.2.2
  have hl : lv_has ls 5 [(0, .ref (ka 3)), (1, .int (nI i)), (2, .int (nI j))] := hl
  refine lv_aload_n hx hb dL_delay_0 rfl (lv_at hl 0 rfl) ?_
  refine lv_iload_n hx hb dL_delay_1 rfl (lv_at hl 1 rfl) ?_
  refine lv_iload_n hx hb dL_delay_2 rfl (lv_at hl 2 rfl) ?_
  refine q_fSi (FR.n (lNet g ka nn aa ll yy tt kk oo)) (n := 2) (As := [.int (nI i), .int (nI j)]) (rest := [.ref (ka 3)]) hM hl.1 hG (c_L_pair l g  i j hi hj hne) rfl gL_delay_L_pair (by decide +kernel) ⟨Nat.le_of_ble_eq_true rfl, Nat.le_of_ble_eq_true rfl⟩ rfl rfl (Nat.le_of_ble_eq_true rfl) dL_delay_3 (c1 := 0) (s1 := 0) rfl rfl ⟨Nat.le_of_ble_eq_true rfl, Nat.le_of_ble_eq_true rfl⟩ (fun r_3 u_3 H locs hp_3 hG => ?_)
  have hG : cC g (lNet g ka nn aa ll yy tt kk oo) A s H locs := hG
  subst hp_3
  refine q_lald hM hG 3 (i := prn i j) rfl (prn_lt i hi j hj hne) (by decide) dL_delay_6 ?_
  refine lv_lstore_n (lv' := [(3, .long (yy (prn i j))), (0, .ref (ka 3)), (1, .int (nI i)), (2, .int (nI j))]) hx hb dL_delay_7 rfl hl (by decide) rfl (fun ls hl => ?_)
  refine lv_iload_n hx hb dL_delay_8 rfl (lv_at hl 2 rfl) ?_
  refine lv_iload_n hx hb dL_delay_9 rfl (lv_at hl 3 rfl) ?_
  refine lv_icmp_ge (tgt := 21) hx hb dL_delay_10 (by decide) (fun c_10 => ?_) (fun c_10 => ?_)
  · have hlt : j < i := by have h9 := (nI_leI (by omega) (by omega)).mp c_10; omega
    obtain ⟨u, v, hu, hv, e1, e2, e3⟩ := hY j i hj hi hlt
    refine lv_lload_n hx hb dL_delay_21 rfl (lv_at hl 0 rfl) ?_
    refine q_renl ((congrArg yy (prn_sym i hi j hj)).trans e3) ?_
    refine lv_ldc2 (v := 100001) hx hb hown (hts (.constantLong RL 21 100001) (by decide +kernel)) dL_delay_22 ?_
    refine q_renl (show (100001 : Int64) = lN 100001 from rfl) ?_
    refine lv_lrem hx hb dL_delay_25 (by decide) ?_
    refine q_renl (pk_lRem (a := u * 100001 + v) (by omega) (by decide) (by decide)) ?_
    refine lv_l2i hx hb dL_delay_26 (lN_i ((u * 100001 + v) % 100001)) ?_
    exact hRet (nI ((u * 100001 + v) % 100001)) () _ _ _ _ _ _ ((congrArg nI (by omega)).trans e2.symm) hG (Nat.le_of_ble_eq_true rfl) (Nat.le_of_ble_eq_true rfl) dL_delay_27
  · have hlt : i < j := Nat.lt_of_not_le (fun h9 => c_10 ((nI_leI (by omega) (by omega)).mpr h9))
    obtain ⟨u, v, hu, hv, e1, e2, e3⟩ := hY i j hi hj hlt
    refine lv_lload_n hx hb dL_delay_13 rfl (lv_at hl 0 rfl) ?_
    refine q_renl e3 ?_
    refine lv_ldc2 (v := 100001) hx hb hown (hts (.constantLong RL 21 100001) (by decide +kernel)) dL_delay_14 ?_
    refine q_renl (show (100001 : Int64) = lN 100001 from rfl) ?_
    refine lv_ldiv hx hb dL_delay_17 (by decide) ?_
    refine q_renl (pk_lDiv (a := u * 100001 + v) (by omega) (by decide) (by decide)) ?_
    refine lv_goto (tgt := 26) hx hb dL_delay_18 (by decide) ?_
    refine lv_l2i hx hb dL_delay_26 (lN_i ((u * 100001 + v) / 100001)) ?_
    exact hRet (nI ((u * 100001 + v) / 100001)) () _ _ _ _ _ _ ((congrArg nI (by omega)).trans e1.symm) hG (Nat.le_of_ble_eq_true rfl) (Nat.le_of_ble_eq_true rfl) dL_delay_27

set_option maxHeartbeats 4000000 in
set_option maxRecDepth 100000 in
theorem c_L_told (l : Launch) (g : EN) (ka : Nat → Nat) (nn : Nat → Int32) (aa : Nat → Int32) (ll : Nat → Int32) (yy : Nat → Int64) (tt : Nat → Int32) (kk : Nat → Int64) (oo : Nat → Int64) (td : Nat → Int32) (i j : Nat) (hi : i < 10) (hj : j < 10) (hne : ¬ i = j) (hT : LT tt td) : Ci l yL_told wsL_told ({ frames := 1, cells := 0, slots := 0, locals := 23 }) g [.ref (ka 4), .int (nI i), .int (nI j)] (lNet g ka nn aa ll yy tt kk oo) (fun (r : Int32) (_ : Unit) => r = td (i * 10 + j)) (fun (_ : Unit) => (lNet g ka nn aa ll yy tt kk oo)) := by
  refine Ci.of (cc := cL_told) (maxL := 3) (by decide) rfl (Nat.le_of_ble_eq_true rfl) ?_
  intro p e s m args below meth c A Q ls hM hG hRet hl
  have hx := hM.1
  have hb := hM.2.1
  have hown := hM.2.2.2.1
  have hts := hM.2.2.2.2
  have hl : lv_has ls 3 [(0, .ref (ka 4)), (1, .int (nI i)), (2, .int (nI j))] := hl
  refine lv_iload_n hx hb dL_told_0 rfl (lv_at hl 1 rfl) ?_
  refine lv_iload_n hx hb dL_told_1 rfl (lv_at hl 2 rfl) ?_
  refine lv_icmp_ge (tgt := 15) hx hb dL_told_2 (by decide) (fun c_2 => ?_) (fun c_2 => ?_)
  · have hlt : j < i := by have h9 := (nI_leI (by omega) (by omega)).mp c_2; omega
    obtain ⟨e1, e2⟩ := hT j i hj hi hlt
    refine lv_aload_n hx hb dL_told_15 rfl (lv_at hl 0 rfl) ?_
    refine lv_iload_n hx hb dL_told_16 rfl (lv_at hl 1 rfl) ?_
    refine lv_iload_n hx hb dL_told_17 rfl (lv_at hl 2 rfl) ?_
    refine q_fSi (FR.n (lNet g ka nn aa ll yy tt kk oo)) (n := 2) (As := [.int (nI i), .int (nI j)]) (rest := [.ref (ka 4)]) hM hl.1 hG (c_L_pair l g  i j hi hj hne) rfl gL_told_L_pair (by decide +kernel) ⟨Nat.le_of_ble_eq_true rfl, Nat.le_of_ble_eq_true rfl⟩ rfl rfl (Nat.le_of_ble_eq_true rfl) dL_told_18 (c1 := 0) (s1 := 0) rfl rfl ⟨Nat.le_of_ble_eq_true rfl, Nat.le_of_ble_eq_true rfl⟩ (fun r_18 u_18 H locs hp_18 hG => ?_)
    have hG : cC g (lNet g ka nn aa ll yy tt kk oo) A s H locs := hG
    subst hp_18
    refine q_iald hM hG 4 (i := prn i j) rfl (prn_lt i hi j hj hne) (by decide) dL_told_21 ?_
    refine lv_ineg hx hb dL_told_22 ?_
    exact hRet (-(tt (prn i j))) () _ _ _ _ _ _ ((congrArg (fun z => -z) ((congrArg tt (prn_sym i hi j hj)).trans e1)).trans e2.symm) hG (Nat.le_of_ble_eq_true rfl) (Nat.le_of_ble_eq_true rfl) dL_told_23
  · have hlt : i < j := Nat.lt_of_not_le (fun h9 => c_2 ((nI_leI (by omega) (by omega)).mpr h9))
    obtain ⟨e1, e2⟩ := hT i j hi hj hlt
    refine lv_aload_n hx hb dL_told_5 rfl (lv_at hl 0 rfl) ?_
    refine lv_iload_n hx hb dL_told_6 rfl (lv_at hl 1 rfl) ?_
    refine lv_iload_n hx hb dL_told_7 rfl (lv_at hl 2 rfl) ?_
    refine q_fSi (FR.n (lNet g ka nn aa ll yy tt kk oo)) (n := 2) (As := [.int (nI i), .int (nI j)]) (rest := [.ref (ka 4)]) hM hl.1 hG (c_L_pair l g  i j hi hj hne) rfl gL_told_L_pair (by decide +kernel) ⟨Nat.le_of_ble_eq_true rfl, Nat.le_of_ble_eq_true rfl⟩ rfl rfl (Nat.le_of_ble_eq_true rfl) dL_told_8 (c1 := 0) (s1 := 0) rfl rfl ⟨Nat.le_of_ble_eq_true rfl, Nat.le_of_ble_eq_true rfl⟩ (fun r_8 u_8 H locs hp_8 hG => ?_)
    have hG : cC g (lNet g ka nn aa ll yy tt kk oo) A s H locs := hG
    subst hp_8
    refine q_iald hM hG 4 (i := prn i j) rfl (prn_lt i hi j hj hne) (by decide) dL_told_11 ?_
    refine lv_goto (tgt := 23) hx hb dL_told_12 (by decide) ?_
    exact hRet (tt (prn i j)) () _ _ _ _ _ _ e1 hG (Nat.le_of_ble_eq_true rfl) (Nat.le_of_ble_eq_true rfl) dL_told_23
