set_option maxHeartbeats 4000000 in
set_option maxRecDepth 100000 in
theorem c_X3_thrown (l : Launch) (g : EN) (h : Nat → Nat) (N : Nat) (tk : Int32) (dom : Nat → Int32) (gr : Nat → Int32) (va : Nat → Int32) (dr : Nat → Int32) (off : Nat → Int64) (rt : Nat → Int64) (cnt : Int32) (lk : Nat → Int32) (dl : Nat → Int32) (td : Nat → Int32) (K : KM) (X : KM) (ds : Nat → Int32) (thr : Int32)   : Ci l yX3_thrown wsX3_thrown ({ frames := 0, cells := 0, slots := 0, locals := 0 }) g [.ref (h 0)] (mNet g h N tk dom gr va dr off rt cnt lk dl td K X ds thr) (fun (r : Int32) (_ : Unit) => r = thr) (fun (_ : Unit) => (mNet g h N tk dom gr va dr off rt cnt lk dl td K X ds thr)) := by
  refine Ci.of (cc := cX3_thrown) (maxL := 1) (by decide) rfl (Nat.le_of_ble_eq_true rfl) ?_
  intro p e s m args below meth c A Q ls hM hG hRet hl
  have hx := hM.1
  have hb := hM.2.1
  have hown := hM.2.2.2.1
  have hts := hM.2.2.2.2
  have wRX3_76 : Cond.fieldLink RX3 76 "TimeNetModel" "thrown" "I" ∈ wsX3_thrown := by decide +kernel
  have hinX3 : ∀ w ∈ wsX30, w ∈ wsX3_thrown := by decide +kernel
  have hl : lv_has ls 1 [(0, .ref (h 0))] := hl
  refine lv_aload_n hx hb dX3_thrown_0 rfl (lv_at hl 0 rfl) ?_
  refine q_get hM hG (C := RX3) (T := TX3) (n := 24) hinX3 0 rfl rfl 17 (by decide) wRX3_76 rfl (v := .int thr) rfl dX3_thrown_1 ?_
  exact hRet thr () _ _ _ _ _ _ rfl hG (Nat.le_of_ble_eq_true rfl) (Nat.le_of_ble_eq_true rfl) dX3_thrown_4

set_option maxHeartbeats 4000000 in
set_option maxRecDepth 100000 in
theorem c_X3_in (l : Launch) (g : EN) (h : Nat → Nat) (N : Nat) (tk : Int32) (dom : Nat → Int32) (gr : Nat → Int32) (va : Nat → Int32) (dr : Nat → Int32) (off : Nat → Int64) (rt : Nat → Int64) (cnt : Int32) (lk : Nat → Int32) (dl : Nat → Int32) (td : Nat → Int32) (K : KM) (X : KM) (ds : Nat → Int32) (thr : Int32) (v a b : Int32)  : Ci l yX3_in wsX3_in ({ frames := 0, cells := 0, slots := 0, locals := 0 }) g [.int v, .int a, .int b] (mNet g h N tk dom gr va dr off rt cnt lk dl td K X ds thr) (fun (r : Int32) (_ : Unit) => bP r (inR a v b)) (fun (_ : Unit) => (mNet g h N tk dom gr va dr off rt cnt lk dl td K X ds thr)) := by
  refine Cz.of (cc := cX3_in) (maxL := 3) (by decide) rfl (Nat.le_of_ble_eq_true rfl) (fun r u h => bP.b h) ?_
  intro p e s m args below meth c A Q ls hM hG hRet hl
  have hx := hM.1
  have hb := hM.2.1
  have hown := hM.2.2.2.1
  have hts := hM.2.2.2.2
  have hl : lv_has ls 3 [(0, .int v), (1, .int a), (2, .int b)] := hl
  refine lv_iload_n hx hb dX3_in_0 rfl (lv_at hl 0 rfl) ?_
  refine lv_iload_n hx hb dX3_in_1 rfl (lv_at hl 1 rfl) ?_
  refine lv_icmp_lt (tgt := 14) hx hb dX3_in_2 (by decide) (fun c_2 => ?_) (fun c_2 => ?_)
  · refine lv_iconst (v := 0) hx hb dX3_in_14 (by decide) ?_
    exact hRet 0 () _ _ _ _ _ _ (bP.f (fun h9 => nlt c_2 h9.1)) hG (Nat.le_of_ble_eq_true rfl) (Nat.le_of_ble_eq_true rfl) dX3_in_15
  · refine lv_iload_n hx hb dX3_in_5 rfl (lv_at hl 0 rfl) ?_
    refine lv_iload_n hx hb dX3_in_6 rfl (lv_at hl 2 rfl) ?_
    refine lv_icmp_gt (tgt := 14) hx hb dX3_in_7 (by decide) (fun c_7 => ?_) (fun c_7 => ?_)
    · refine lv_iconst (v := 0) hx hb dX3_in_14 (by decide) ?_
      exact hRet 0 () _ _ _ _ _ _ (bP.f (fun h9 => nlt c_7 h9.2)) hG (Nat.le_of_ble_eq_true rfl) (Nat.le_of_ble_eq_true rfl) dX3_in_15
    · refine lv_iconst (v := 1) hx hb dX3_in_10 (by decide) ?_
      refine lv_goto (tgt := 15) hx hb dX3_in_11 (by decide) ?_
      exact hRet 1 () _ _ _ _ _ _ (bP.t ⟨Int32.not_lt.mp c_2, Int32.not_lt.mp c_7⟩) hG (Nat.le_of_ble_eq_true rfl) (Nat.le_of_ble_eq_true rfl) dX3_in_15

set_option maxHeartbeats 4000000 in
set_option maxRecDepth 100000 in
theorem c_X3_isNode (l : Launch) (g : EN) (h : Nat → Nat) (N : Nat) (tk : Int32) (dom : Nat → Int32) (gr : Nat → Int32) (va : Nat → Int32) (dr : Nat → Int32) (off : Nat → Int64) (rt : Nat → Int64) (cnt : Int32) (lk : Nat → Int32) (dl : Nat → Int32) (td : Nat → Int32) (K : KM) (X : KM) (ds : Nat → Int32) (thr : Int32) (x : Int32) (hN : N ≤ 10)  : Ci l yX3_isNode wsX3_isNode ({ frames := 1, cells := 0, slots := 0, locals := 22 }) g [.ref (h 0), .int x] (mNet g h N tk dom gr va dr off rt cnt lk dl td K X ds thr) (fun (r : Int32) (_ : Unit) => bP r (okN N x)) (fun (_ : Unit) => (mNet g h N tk dom gr va dr off rt cnt lk dl td K X ds thr)) := by
  refine Cz.of (cc := cX3_isNode) (maxL := 2) (by decide) rfl (Nat.le_of_ble_eq_true rfl) (fun r u h => bP.b h) ?_
  intro p e s m args below meth c A Q ls hM hG hRet hl
  have hx := hM.1
  have hb := hM.2.1
  have hown := hM.2.2.2.1
  have hts := hM.2.2.2.2
  have wRX3_72 : Cond.fieldLink RX3 72 "TimeNetModel" "nodeMany" "I" ∈ wsX3_isNode := by decide +kernel
  have hinX3 : ∀ w ∈ wsX30, w ∈ wsX3_isNode := by decide +kernel
  have hl : lv_has ls 2 [(0, .ref (h 0)), (1, .int x)] := hl
  refine lv_iload_n hx hb dX3_isNode_0 rfl (lv_at hl 1 rfl) ?_
  refine lv_iconst (v := 0) hx hb dX3_isNode_1 (by decide) ?_
  refine lv_aload_n hx hb dX3_isNode_2 rfl (lv_at hl 0 rfl) ?_
  refine q_get hM hG (C := RX3) (T := TX3) (n := 24) hinX3 0 rfl rfl 0 (by decide) wRX3_72 rfl (v := .int (nI N)) rfl dX3_isNode_3 ?_
  refine lv_iconst (v := 1) hx hb dX3_isNode_6 (by decide) ?_
  refine lv_isub hx hb dX3_isNode_7 ?_
  refine q_callSi (n := 3) (As := [.int x, .int 0, .int ((nI N) - 1)]) (rest := []) hM hl.1 hG (c_X3_in l g h N tk dom gr va dr off rt cnt lk dl td K X ds thr x 0 ((nI N) - 1)) rfl gX3_isNode_X3_in (by decide +kernel) ⟨Nat.le_of_ble_eq_true rfl, Nat.le_of_ble_eq_true rfl⟩ rfl rfl (Nat.le_of_ble_eq_true rfl) dX3_isNode_8 (c1 := 0) (s1 := 0) rfl rfl ⟨Nat.le_of_ble_eq_true rfl, Nat.le_of_ble_eq_true rfl⟩ (fun r_8 u_8 H locs hp_8 hG => ?_)
  exact hRet r_8 () _ _ _ _ _ _ (hp_8.iff (in_okN hN)) hG (Nat.le_of_ble_eq_true rfl) (Nat.le_of_ble_eq_true rfl) dX3_isNode_11

set_option maxHeartbeats 4000000 in
set_option maxRecDepth 100000 in
theorem c_X3_knowItself (l : Launch) (g : EN) (h : Nat → Nat) (N : Nat) (tk : Int32) (dom : Nat → Int32) (gr : Nat → Int32) (va : Nat → Int32) (dr : Nat → Int32) (off : Nat → Int64) (rt : Nat → Int64) (cnt : Int32) (lk : Nat → Int32) (dl : Nat → Int32) (td : Nat → Int32) (K : KM) (X : KM) (ds : Nat → Int32) (thr : Int32) (i : Nat) (hi : i < 10)  : Cv l yX3_knowItself wsX3_knowItself ({ frames := 0, cells := 0, slots := 0, locals := 0 }) g [.ref (h 0), .int (nI i)] (mNet g h N tk dom gr va dr off rt cnt lk dl td K X ds thr) (fun (u : KM) => u = mst K gr va i) (fun (u : KM) => (mNet g h N tk dom gr va dr off rt cnt lk dl td u X ds thr)) := by
  refine Cv.of (cc := cX3_knowItself) (maxL := 2) (by decide) rfl (Nat.le_of_ble_eq_true rfl) ?_
  intro p e s m args below meth c A Q ls hM hG hRet hl
  have hx := hM.1
  have hb := hM.2.1
  have hown := hM.2.2.2.1
  have hts := hM.2.2.2.2
  have wRX3_39 : Cond.fieldLink RX3 39 "TimeNetModel" "knownNode" "[I" ∈ wsX3_knowItself := by decide +kernel
  have wRX3_42 : Cond.fieldLink RX3 42 "TimeNetModel" "knownGrade" "[I" ∈ wsX3_knowItself := by decide +kernel
  have wRX3_13 : Cond.fieldLink RX3 13 "TimeNetModel" "grades" "[I" ∈ wsX3_knowItself := by decide +kernel
  have wRX3_45 : Cond.fieldLink RX3 45 "TimeNetModel" "knownVariance" "[I" ∈ wsX3_knowItself := by decide +kernel
  have wRX3_16 : Cond.fieldLink RX3 16 "TimeNetModel" "variances" "[I" ∈ wsX3_knowItself := by decide +kernel
  have wRX3_48 : Cond.fieldLink RX3 48 "TimeNetModel" "knownSteps" "[I" ∈ wsX3_knowItself := by decide +kernel
  have wRX3_51 : Cond.fieldLink RX3 51 "TimeNetModel" "parents" "[I" ∈ wsX3_knowItself := by decide +kernel
  have hinX3 : ∀ w ∈ wsX30, w ∈ wsX3_knowItself := by decide +kernel
  have hl : lv_has ls 2 [(0, .ref (h 0)), (1, .int (nI i))] := hl
  refine lv_aload_n hx hb dX3_knowItself_0 rfl (lv_at hl 0 rfl) ?_
  refine q_get hM hG (C := RX3) (T := TX3) (n := 24) hinX3 0 rfl rfl 11 (by decide) wRX3_39 rfl (v := .ref (h 10)) rfl dX3_knowItself_1 ?_
  refine lv_iload_n hx hb dX3_knowItself_4 rfl (lv_at hl 1 rfl) ?_
  refine lv_iload_n hx hb dX3_knowItself_5 rfl (lv_at hl 1 rfl) ?_
  refine q_iast hM hG 10 rfl hi (by decide) (ws1 := (mNet g h N tk dom gr va dr off rt cnt lk dl td ((upd K.1 i (nI i)), K.2.1, K.2.2.1, K.2.2.2.1, K.2.2.2.2) X ds thr)) rfl dX3_knowItself_6 (fun H locs hG => ?_)
  refine lv_aload_n hx hb dX3_knowItself_7 rfl (lv_at hl 0 rfl) ?_
  refine q_get hM hG (C := RX3) (T := TX3) (n := 24) hinX3 0 rfl rfl 12 (by decide) wRX3_42 rfl (v := .ref (h 11)) rfl dX3_knowItself_8 ?_
  refine lv_iload_n hx hb dX3_knowItself_11 rfl (lv_at hl 1 rfl) ?_
  refine lv_aload_n hx hb dX3_knowItself_12 rfl (lv_at hl 0 rfl) ?_
  refine q_get hM hG (C := RX3) (T := TX3) (n := 24) hinX3 0 rfl rfl 3 (by decide) wRX3_13 rfl (v := .ref (h 2)) rfl dX3_knowItself_13 ?_
  refine lv_iload_n hx hb dX3_knowItself_16 rfl (lv_at hl 1 rfl) ?_
  refine q_iald hM hG 2 rfl hi (by decide) dX3_knowItself_17 ?_
  refine q_iast hM hG 11 rfl hi (by decide) (ws1 := (mNet g h N tk dom gr va dr off rt cnt lk dl td ((upd K.1 i (nI i)), (upd K.2.1 i (gr i)), K.2.2.1, K.2.2.2.1, K.2.2.2.2) X ds thr)) rfl dX3_knowItself_18 (fun H locs hG => ?_)
  refine lv_aload_n hx hb dX3_knowItself_19 rfl (lv_at hl 0 rfl) ?_
  refine q_get hM hG (C := RX3) (T := TX3) (n := 24) hinX3 0 rfl rfl 13 (by decide) wRX3_45 rfl (v := .ref (h 12)) rfl dX3_knowItself_20 ?_
  refine lv_iload_n hx hb dX3_knowItself_23 rfl (lv_at hl 1 rfl) ?_
  refine lv_aload_n hx hb dX3_knowItself_24 rfl (lv_at hl 0 rfl) ?_
  refine q_get hM hG (C := RX3) (T := TX3) (n := 24) hinX3 0 rfl rfl 4 (by decide) wRX3_16 rfl (v := .ref (h 3)) rfl dX3_knowItself_25 ?_
  refine lv_iload_n hx hb dX3_knowItself_28 rfl (lv_at hl 1 rfl) ?_
  refine q_iald hM hG 3 rfl hi (by decide) dX3_knowItself_29 ?_
  refine q_iast hM hG 12 rfl hi (by decide) (ws1 := (mNet g h N tk dom gr va dr off rt cnt lk dl td ((upd K.1 i (nI i)), (upd K.2.1 i (gr i)), (upd K.2.2.1 i (va i)), K.2.2.2.1, K.2.2.2.2) X ds thr)) rfl dX3_knowItself_30 (fun H locs hG => ?_)
  refine lv_aload_n hx hb dX3_knowItself_31 rfl (lv_at hl 0 rfl) ?_
  refine q_get hM hG (C := RX3) (T := TX3) (n := 24) hinX3 0 rfl rfl 14 (by decide) wRX3_48 rfl (v := .ref (h 13)) rfl dX3_knowItself_32 ?_
  refine lv_iload_n hx hb dX3_knowItself_35 rfl (lv_at hl 1 rfl) ?_
  refine lv_iconst (v := 0) hx hb dX3_knowItself_36 (by decide) ?_
  refine q_iast hM hG 13 rfl hi (by decide) (ws1 := (mNet g h N tk dom gr va dr off rt cnt lk dl td ((upd K.1 i (nI i)), (upd K.2.1 i (gr i)), (upd K.2.2.1 i (va i)), (upd K.2.2.2.1 i 0), K.2.2.2.2) X ds thr)) rfl dX3_knowItself_37 (fun H locs hG => ?_)
  refine lv_aload_n hx hb dX3_knowItself_38 rfl (lv_at hl 0 rfl) ?_
  refine q_get hM hG (C := RX3) (T := TX3) (n := 24) hinX3 0 rfl rfl 15 (by decide) wRX3_51 rfl (v := .ref (h 14)) rfl dX3_knowItself_39 ?_
  refine lv_iload_n hx hb dX3_knowItself_42 rfl (lv_at hl 1 rfl) ?_
  refine lv_iconst (v := (-1)) hx hb dX3_knowItself_43 (by decide) ?_
  refine q_iast hM hG 14 rfl hi (by decide) (ws1 := (mNet g h N tk dom gr va dr off rt cnt lk dl td ((upd K.1 i (nI i)), (upd K.2.1 i (gr i)), (upd K.2.2.1 i (va i)), (upd K.2.2.2.1 i 0), (upd K.2.2.2.2 i (-1 : Int32))) X ds thr)) rfl dX3_knowItself_44 (fun H locs hG => ?_)
  exact hRet ((upd K.1 i (nI i)), (upd K.2.1 i (gr i)), (upd K.2.2.1 i (va i)), (upd K.2.2.2.1 i 0), (upd K.2.2.2.2 i (-1 : Int32))) _ _ _ _ _ _ rfl hG (Nat.le_of_ble_eq_true rfl) (Nat.le_of_ble_eq_true rfl) dX3_knowItself_45

set_option maxHeartbeats 4000000 in
set_option maxRecDepth 100000 in
theorem c_X3_areNeighbours (l : Launch) (g : EN) (h : Nat → Nat) (N : Nat) (tk : Int32) (dom : Nat → Int32) (gr : Nat → Int32) (va : Nat → Int32) (dr : Nat → Int32) (off : Nat → Int64) (rt : Nat → Int64) (cnt : Int32) (lk : Nat → Int32) (dl : Nat → Int32) (td : Nat → Int32) (K : KM) (X : KM) (ds : Nat → Int32) (thr : Int32) (i j : Nat) (hi : i < 10) (hj : j < 10) (hlk : b01 lk)  : Ci l yX3_areNeighbours wsX3_areNeighbours ({ frames := 0, cells := 0, slots := 0, locals := 0 }) g [.ref (h 0), .int (nI i), .int (nI j)] (mNet g h N tk dom gr va dr off rt cnt lk dl td K X ds thr) (fun (r : Int32) (_ : Unit) => bP r (nb dom lk i j)) (fun (_ : Unit) => (mNet g h N tk dom gr va dr off rt cnt lk dl td K X ds thr)) := by
  refine Cz.of (cc := cX3_areNeighbours) (maxL := 3) (by decide) rfl (Nat.le_of_ble_eq_true rfl) (fun r u h => bP.b h) ?_
  intro p e s m args below meth c A Q ls hM hG hRet hl
  have hx := hM.1
  have hb := hM.2.1
  have hown := hM.2.2.2.1
  have hts := hM.2.2.2.2
  have wRX3_29 : Cond.fieldLink RX3 29 "TimeNetModel" "isLinked" "[Z" ∈ wsX3_areNeighbours := by decide +kernel
  have wRX3_7 : Cond.fieldLink RX3 7 "TimeNetModel" "domains" "[I" ∈ wsX3_areNeighbours := by decide +kernel
  have hinX3 : ∀ w ∈ wsX30, w ∈ wsX3_areNeighbours := by decide +kernel
  have hl : lv_has ls 3 [(0, .ref (h 0)), (1, .int (nI i)), (2, .int (nI j))] := hl
  refine lv_aload_n hx hb dX3_areNeighbours_0 rfl (lv_at hl 0 rfl) ?_
  refine q_get hM hG (C := RX3) (T := TX3) (n := 24) hinX3 0 rfl rfl 8 (by decide) wRX3_29 rfl (v := .ref (h 7)) rfl dX3_areNeighbours_1 ?_
  refine lv_bipush (v := 10) hx hb dX3_areNeighbours_4 (by decide) ?_
  refine lv_iload_n hx hb dX3_areNeighbours_6 rfl (lv_at hl 1 rfl) ?_
  refine lv_imul hx hb dX3_areNeighbours_7 ?_
  refine lv_iload_n hx hb dX3_areNeighbours_8 rfl (lv_at hl 2 rfl) ?_
  refine lv_iadd hx hb dX3_areNeighbours_9 ?_
  refine q_ren (ix_mul' i j) ?_
  refine q_zald hM hG 7 rfl (by omega) (by decide) dX3_areNeighbours_10 ?_
  refine lv_if_eq (tgt := 33) hx hb dX3_areNeighbours_11 (by decide) (fun c_11 => ?_) (fun c_11 => ?_)
  · refine lv_iconst (v := 0) hx hb dX3_areNeighbours_33 (by decide) ?_
    exact hRet 0 () _ _ _ _ _ _ (bP.f (fun h9 => absurd h9.2 (by rw [c_11]; decide))) hG (Nat.le_of_ble_eq_true rfl) (Nat.le_of_ble_eq_true rfl) dX3_areNeighbours_34
  · refine lv_aload_n hx hb dX3_areNeighbours_14 rfl (lv_at hl 0 rfl) ?_
    refine q_get hM hG (C := RX3) (T := TX3) (n := 24) hinX3 0 rfl rfl 2 (by decide) wRX3_7 rfl (v := .ref (h 1)) rfl dX3_areNeighbours_15 ?_
    refine lv_iload_n hx hb dX3_areNeighbours_18 rfl (lv_at hl 1 rfl) ?_
    refine q_iald hM hG 1 rfl hi (by decide) dX3_areNeighbours_19 ?_
    refine lv_aload_n hx hb dX3_areNeighbours_20 rfl (lv_at hl 0 rfl) ?_
    refine q_get hM hG (C := RX3) (T := TX3) (n := 24) hinX3 0 rfl rfl 2 (by decide) wRX3_7 rfl (v := .ref (h 1)) rfl dX3_areNeighbours_21 ?_
    refine lv_iload_n hx hb dX3_areNeighbours_24 rfl (lv_at hl 2 rfl) ?_
    refine q_iald hM hG 1 rfl hj (by decide) dX3_areNeighbours_25 ?_
    refine lv_icmp_ne (tgt := 33) hx hb dX3_areNeighbours_26 (by decide) (fun c_26 => ?_) (fun c_26 => ?_)
    · refine lv_iconst (v := 0) hx hb dX3_areNeighbours_33 (by decide) ?_
      exact hRet 0 () _ _ _ _ _ _ (bP.f (fun h9 => c_26 h9.1)) hG (Nat.le_of_ble_eq_true rfl) (Nat.le_of_ble_eq_true rfl) dX3_areNeighbours_34
    · refine lv_iconst (v := 1) hx hb dX3_areNeighbours_29 (by decide) ?_
      refine lv_goto (tgt := 34) hx hb dX3_areNeighbours_30 (by decide) ?_
      exact hRet 1 () _ _ _ _ _ _ (bP.t ⟨c_26, (hlk _).resolve_left c_11⟩) hG (Nat.le_of_ble_eq_true rfl) (Nat.le_of_ble_eq_true rfl) dX3_areNeighbours_34

set_option maxHeartbeats 4000000 in
set_option maxRecDepth 100000 in
theorem c_X3_isBetter (l : Launch) (g : EN) (h : Nat → Nat) (N : Nat) (tk : Int32) (dom : Nat → Int32) (gr : Nat → Int32) (va : Nat → Int32) (dr : Nat → Int32) (off : Nat → Int64) (rt : Nat → Int64) (cnt : Int32) (lk : Nat → Int32) (dl : Nat → Int32) (td : Nat → Int32) (K : KM) (X : KM) (ds : Nat → Int32) (thr : Int32) (t i : Nat) (ht : t < 10) (hi : i < 10)  : Ci l yX3_isBetter wsX3_isBetter ({ frames := 0, cells := 0, slots := 0, locals := 0 }) g [.ref (h 0), .int (nI t), .int (nI i)] (mNet g h N tk dom gr va dr off rt cnt lk dl td K X ds thr) (fun (r : Int32) (_ : Unit) => bP r (mbt K X t i)) (fun (_ : Unit) => (mNet g h N tk dom gr va dr off rt cnt lk dl td K X ds thr)) := by
  refine Cz.of (cc := cX3_isBetter) (maxL := 3) (by decide) rfl (Nat.le_of_ble_eq_true rfl) (fun r u h => bP.b h) ?_
  intro p e s m args below meth c A Q ls hM hG hRet hl
  have hx := hM.1
  have hb := hM.2.1
  have hown := hM.2.2.2.1
  have hts := hM.2.2.2.2
  have wRX3_42 : Cond.fieldLink RX3 42 "TimeNetModel" "knownGrade" "[I" ∈ wsX3_isBetter := by decide +kernel
  have wRX3_57 : Cond.fieldLink RX3 57 "TimeNetModel" "nextGrade" "[I" ∈ wsX3_isBetter := by decide +kernel
  have wRX3_45 : Cond.fieldLink RX3 45 "TimeNetModel" "knownVariance" "[I" ∈ wsX3_isBetter := by decide +kernel
  have wRX3_60 : Cond.fieldLink RX3 60 "TimeNetModel" "nextVariance" "[I" ∈ wsX3_isBetter := by decide +kernel
  have wRX3_39 : Cond.fieldLink RX3 39 "TimeNetModel" "knownNode" "[I" ∈ wsX3_isBetter := by decide +kernel
  have wRX3_54 : Cond.fieldLink RX3 54 "TimeNetModel" "nextNode" "[I" ∈ wsX3_isBetter := by decide +kernel
  have wRX3_48 : Cond.fieldLink RX3 48 "TimeNetModel" "knownSteps" "[I" ∈ wsX3_isBetter := by decide +kernel
  have wRX3_63 : Cond.fieldLink RX3 63 "TimeNetModel" "nextSteps" "[I" ∈ wsX3_isBetter := by decide +kernel
  have hinX3 : ∀ w ∈ wsX30, w ∈ wsX3_isBetter := by decide +kernel
  have hl : lv_has ls 3 [(0, .ref (h 0)), (1, .int (nI t)), (2, .int (nI i))] := hl
  refine lv_aload_n hx hb dX3_isBetter_0 rfl (lv_at hl 0 rfl) ?_
  refine q_get hM hG (C := RX3) (T := TX3) (n := 24) hinX3 0 rfl rfl 12 (by decide) wRX3_42 rfl (v := .ref (h 11)) rfl dX3_isBetter_1 ?_
  refine lv_iload_n hx hb dX3_isBetter_4 rfl (lv_at hl 1 rfl) ?_
  refine q_iald hM hG 11 rfl ht (by decide) dX3_isBetter_5 ?_
  refine lv_aload_n hx hb dX3_isBetter_6 rfl (lv_at hl 0 rfl) ?_
  refine q_get hM hG (C := RX3) (T := TX3) (n := 24) hinX3 0 rfl rfl 19 (by decide) wRX3_57 rfl (v := .ref (h 16)) rfl dX3_isBetter_7 ?_
  refine lv_iload_n hx hb dX3_isBetter_10 rfl (lv_at hl 2 rfl) ?_
  refine q_iald hM hG 16 rfl hi (by decide) dX3_isBetter_11 ?_
  refine lv_icmp_eq (tgt := 36) hx hb dX3_isBetter_12 (by decide) (fun c_12 => ?_) (fun c_12 => ?_)
  · refine lv_aload_n hx hb dX3_isBetter_36 rfl (lv_at hl 0 rfl) ?_
    refine q_get hM hG (C := RX3) (T := TX3) (n := 24) hinX3 0 rfl rfl 13 (by decide) wRX3_45 rfl (v := .ref (h 12)) rfl dX3_isBetter_37 ?_
    refine lv_iload_n hx hb dX3_isBetter_40 rfl (lv_at hl 1 rfl) ?_
    refine q_iald hM hG 12 rfl ht (by decide) dX3_isBetter_41 ?_
    refine lv_aload_n hx hb dX3_isBetter_42 rfl (lv_at hl 0 rfl) ?_
    refine q_get hM hG (C := RX3) (T := TX3) (n := 24) hinX3 0 rfl rfl 20 (by decide) wRX3_60 rfl (v := .ref (h 17)) rfl dX3_isBetter_43 ?_
    refine lv_iload_n hx hb dX3_isBetter_46 rfl (lv_at hl 2 rfl) ?_
    refine q_iald hM hG 17 rfl hi (by decide) dX3_isBetter_47 ?_
    refine lv_icmp_eq (tgt := 72) hx hb dX3_isBetter_48 (by decide) (fun c_48 => ?_) (fun c_48 => ?_)
    · refine lv_aload_n hx hb dX3_isBetter_72 rfl (lv_at hl 0 rfl) ?_
      refine q_get hM hG (C := RX3) (T := TX3) (n := 24) hinX3 0 rfl rfl 11 (by decide) wRX3_39 rfl (v := .ref (h 10)) rfl dX3_isBetter_73 ?_
      refine lv_iload_n hx hb dX3_isBetter_76 rfl (lv_at hl 1 rfl) ?_
      refine q_iald hM hG 10 rfl ht (by decide) dX3_isBetter_77 ?_
      refine lv_aload_n hx hb dX3_isBetter_78 rfl (lv_at hl 0 rfl) ?_
      refine q_get hM hG (C := RX3) (T := TX3) (n := 24) hinX3 0 rfl rfl 18 (by decide) wRX3_54 rfl (v := .ref (h 15)) rfl dX3_isBetter_79 ?_
      refine lv_iload_n hx hb dX3_isBetter_82 rfl (lv_at hl 2 rfl) ?_
      refine q_iald hM hG 15 rfl hi (by decide) dX3_isBetter_83 ?_
      refine lv_icmp_eq (tgt := 108) hx hb dX3_isBetter_84 (by decide) (fun c_84 => ?_) (fun c_84 => ?_)
      · refine lv_aload_n hx hb dX3_isBetter_108 rfl (lv_at hl 0 rfl) ?_
        refine q_get hM hG (C := RX3) (T := TX3) (n := 24) hinX3 0 rfl rfl 14 (by decide) wRX3_48 rfl (v := .ref (h 13)) rfl dX3_isBetter_109 ?_
        refine lv_iload_n hx hb dX3_isBetter_112 rfl (lv_at hl 1 rfl) ?_
        refine q_iald hM hG 13 rfl ht (by decide) dX3_isBetter_113 ?_
        refine lv_iconst (v := 1) hx hb dX3_isBetter_114 (by decide) ?_
        refine lv_iadd hx hb dX3_isBetter_115 ?_
        refine lv_aload_n hx hb dX3_isBetter_116 rfl (lv_at hl 0 rfl) ?_
        refine q_get hM hG (C := RX3) (T := TX3) (n := 24) hinX3 0 rfl rfl 21 (by decide) wRX3_63 rfl (v := .ref (h 18)) rfl dX3_isBetter_117 ?_
        refine lv_iload_n hx hb dX3_isBetter_120 rfl (lv_at hl 2 rfl) ?_
        refine q_iald hM hG 18 rfl hi (by decide) dX3_isBetter_121 ?_
        refine lv_icmp_ge (tgt := 129) hx hb dX3_isBetter_122 (by decide) (fun c_122 => ?_) (fun c_122 => ?_)
        · refine lv_iconst (v := 0) hx hb dX3_isBetter_129 (by decide) ?_
          exact hRet 0 () _ _ _ _ _ _ (bP.f (fun h9 => nlt ((lex_eq c_84).mp ((lex_eq c_48).mp ((lex_eq c_12).mp h9))) c_122)) hG (Nat.le_of_ble_eq_true rfl) (Nat.le_of_ble_eq_true rfl) dX3_isBetter_130
        · refine lv_iconst (v := 1) hx hb dX3_isBetter_125 (by decide) ?_
          refine lv_goto (tgt := 130) hx hb dX3_isBetter_126 (by decide) ?_
          exact hRet 1 () _ _ _ _ _ _ (bP.t ((lex_eq c_12).mpr ((lex_eq c_48).mpr ((lex_eq c_84).mpr (nle c_122))))) hG (Nat.le_of_ble_eq_true rfl) (Nat.le_of_ble_eq_true rfl) dX3_isBetter_130
      · refine lv_aload_n hx hb dX3_isBetter_87 rfl (lv_at hl 0 rfl) ?_
        refine q_get hM hG (C := RX3) (T := TX3) (n := 24) hinX3 0 rfl rfl 11 (by decide) wRX3_39 rfl (v := .ref (h 10)) rfl dX3_isBetter_88 ?_
        refine lv_iload_n hx hb dX3_isBetter_91 rfl (lv_at hl 1 rfl) ?_
        refine q_iald hM hG 10 rfl ht (by decide) dX3_isBetter_92 ?_
        refine lv_aload_n hx hb dX3_isBetter_93 rfl (lv_at hl 0 rfl) ?_
        refine q_get hM hG (C := RX3) (T := TX3) (n := 24) hinX3 0 rfl rfl 18 (by decide) wRX3_54 rfl (v := .ref (h 15)) rfl dX3_isBetter_94 ?_
        refine lv_iload_n hx hb dX3_isBetter_97 rfl (lv_at hl 2 rfl) ?_
        refine q_iald hM hG 15 rfl hi (by decide) dX3_isBetter_98 ?_
        refine lv_icmp_ge (tgt := 106) hx hb dX3_isBetter_99 (by decide) (fun c_99 => ?_) (fun c_99 => ?_)
        · refine lv_iconst (v := 0) hx hb dX3_isBetter_106 (by decide) ?_
          exact hRet 0 () _ _ _ _ _ _ (bP.f (fun h9 => nlt ((lex_ne c_84).mp ((lex_eq c_48).mp ((lex_eq c_12).mp h9))) c_99)) hG (Nat.le_of_ble_eq_true rfl) (Nat.le_of_ble_eq_true rfl) dX3_isBetter_107
        · refine lv_iconst (v := 1) hx hb dX3_isBetter_102 (by decide) ?_
          refine lv_goto (tgt := 107) hx hb dX3_isBetter_103 (by decide) ?_
          exact hRet 1 () _ _ _ _ _ _ (bP.t ((lex_eq c_12).mpr ((lex_eq c_48).mpr ((lex_ne c_84).mpr (nle c_99))))) hG (Nat.le_of_ble_eq_true rfl) (Nat.le_of_ble_eq_true rfl) dX3_isBetter_107
    · refine lv_aload_n hx hb dX3_isBetter_51 rfl (lv_at hl 0 rfl) ?_
      refine q_get hM hG (C := RX3) (T := TX3) (n := 24) hinX3 0 rfl rfl 13 (by decide) wRX3_45 rfl (v := .ref (h 12)) rfl dX3_isBetter_52 ?_
      refine lv_iload_n hx hb dX3_isBetter_55 rfl (lv_at hl 1 rfl) ?_
      refine q_iald hM hG 12 rfl ht (by decide) dX3_isBetter_56 ?_
      refine lv_aload_n hx hb dX3_isBetter_57 rfl (lv_at hl 0 rfl) ?_
      refine q_get hM hG (C := RX3) (T := TX3) (n := 24) hinX3 0 rfl rfl 20 (by decide) wRX3_60 rfl (v := .ref (h 17)) rfl dX3_isBetter_58 ?_
      refine lv_iload_n hx hb dX3_isBetter_61 rfl (lv_at hl 2 rfl) ?_
      refine q_iald hM hG 17 rfl hi (by decide) dX3_isBetter_62 ?_
      refine lv_icmp_ge (tgt := 70) hx hb dX3_isBetter_63 (by decide) (fun c_63 => ?_) (fun c_63 => ?_)
      · refine lv_iconst (v := 0) hx hb dX3_isBetter_70 (by decide) ?_
        exact hRet 0 () _ _ _ _ _ _ (bP.f (fun h9 => nlt ((lex_ne c_48).mp ((lex_eq c_12).mp h9)) c_63)) hG (Nat.le_of_ble_eq_true rfl) (Nat.le_of_ble_eq_true rfl) dX3_isBetter_71
      · refine lv_iconst (v := 1) hx hb dX3_isBetter_66 (by decide) ?_
        refine lv_goto (tgt := 71) hx hb dX3_isBetter_67 (by decide) ?_
        exact hRet 1 () _ _ _ _ _ _ (bP.t ((lex_eq c_12).mpr ((lex_ne c_48).mpr (nle c_63)))) hG (Nat.le_of_ble_eq_true rfl) (Nat.le_of_ble_eq_true rfl) dX3_isBetter_71
  · refine lv_aload_n hx hb dX3_isBetter_15 rfl (lv_at hl 0 rfl) ?_
    refine q_get hM hG (C := RX3) (T := TX3) (n := 24) hinX3 0 rfl rfl 12 (by decide) wRX3_42 rfl (v := .ref (h 11)) rfl dX3_isBetter_16 ?_
    refine lv_iload_n hx hb dX3_isBetter_19 rfl (lv_at hl 1 rfl) ?_
    refine q_iald hM hG 11 rfl ht (by decide) dX3_isBetter_20 ?_
    refine lv_aload_n hx hb dX3_isBetter_21 rfl (lv_at hl 0 rfl) ?_
    refine q_get hM hG (C := RX3) (T := TX3) (n := 24) hinX3 0 rfl rfl 19 (by decide) wRX3_57 rfl (v := .ref (h 16)) rfl dX3_isBetter_22 ?_
    refine lv_iload_n hx hb dX3_isBetter_25 rfl (lv_at hl 2 rfl) ?_
    refine q_iald hM hG 16 rfl hi (by decide) dX3_isBetter_26 ?_
    refine lv_icmp_ge (tgt := 34) hx hb dX3_isBetter_27 (by decide) (fun c_27 => ?_) (fun c_27 => ?_)
    · refine lv_iconst (v := 0) hx hb dX3_isBetter_34 (by decide) ?_
      exact hRet 0 () _ _ _ _ _ _ (bP.f (fun h9 => nlt ((lex_ne c_12).mp h9) c_27)) hG (Nat.le_of_ble_eq_true rfl) (Nat.le_of_ble_eq_true rfl) dX3_isBetter_35
    · refine lv_iconst (v := 1) hx hb dX3_isBetter_30 (by decide) ?_
      refine lv_goto (tgt := 35) hx hb dX3_isBetter_31 (by decide) ?_
      exact hRet 1 () _ _ _ _ _ _ (bP.t ((lex_ne c_12).mpr (nle c_27))) hG (Nat.le_of_ble_eq_true rfl) (Nat.le_of_ble_eq_true rfl) dX3_isBetter_35

set_option maxHeartbeats 4000000 in
set_option maxRecDepth 100000 in
theorem c_X3_listen (l : Launch) (g : EN) (h : Nat → Nat) (N : Nat) (tk : Int32) (dom : Nat → Int32) (gr : Nat → Int32) (va : Nat → Int32) (dr : Nat → Int32) (off : Nat → Int64) (rt : Nat → Int64) (cnt : Int32) (lk : Nat → Int32) (dl : Nat → Int32) (td : Nat → Int32) (K : KM) (X : KM) (ds : Nat → Int32) (thr : Int32) (i : Nat) (hi : i < 10) (hN : N ≤ 10) (hlk : b01 lk)  : Cv l yX3_listen wsX3_listen ({ frames := 1, cells := 0, slots := 0, locals := 22 }) g [.ref (h 0), .int (nI i)] (mNet g h N tk dom gr va dr off rt cnt lk dl td K X ds thr) (fun (u : KM) => u = mlis dom lk gr va K X i N) (fun (u : KM) => (mNet g h N tk dom gr va dr off rt cnt lk dl td K u ds thr)) := by
  refine Cv.of (cc := cX3_listen) (maxL := 4) (by decide) rfl (Nat.le_of_ble_eq_true rfl) ?_
  intro p e s m args below meth c A Q ls hM hG hRet hl
  have hx := hM.1
  have hb := hM.2.1
  have hown := hM.2.2.2.1
  have hts := hM.2.2.2.2
  have wRX3_54 : Cond.fieldLink RX3 54 "TimeNetModel" "nextNode" "[I" ∈ wsX3_listen := by decide +kernel
  have wRX3_57 : Cond.fieldLink RX3 57 "TimeNetModel" "nextGrade" "[I" ∈ wsX3_listen := by decide +kernel
  have wRX3_13 : Cond.fieldLink RX3 13 "TimeNetModel" "grades" "[I" ∈ wsX3_listen := by decide +kernel
  have wRX3_60 : Cond.fieldLink RX3 60 "TimeNetModel" "nextVariance" "[I" ∈ wsX3_listen := by decide +kernel
  have wRX3_16 : Cond.fieldLink RX3 16 "TimeNetModel" "variances" "[I" ∈ wsX3_listen := by decide +kernel
  have wRX3_63 : Cond.fieldLink RX3 63 "TimeNetModel" "nextSteps" "[I" ∈ wsX3_listen := by decide +kernel
  have wRX3_66 : Cond.fieldLink RX3 66 "TimeNetModel" "nextParents" "[I" ∈ wsX3_listen := by decide +kernel
  have wRX3_72 : Cond.fieldLink RX3 72 "TimeNetModel" "nodeMany" "I" ∈ wsX3_listen := by decide +kernel
  have wRX3_48 : Cond.fieldLink RX3 48 "TimeNetModel" "knownSteps" "[I" ∈ wsX3_listen := by decide +kernel
  have wRX3_51 : Cond.fieldLink RX3 51 "TimeNetModel" "parents" "[I" ∈ wsX3_listen := by decide +kernel
  have wRX3_39 : Cond.fieldLink RX3 39 "TimeNetModel" "knownNode" "[I" ∈ wsX3_listen := by decide +kernel
  have wRX3_42 : Cond.fieldLink RX3 42 "TimeNetModel" "knownGrade" "[I" ∈ wsX3_listen := by decide +kernel
  have wRX3_45 : Cond.fieldLink RX3 45 "TimeNetModel" "knownVariance" "[I" ∈ wsX3_listen := by decide +kernel
  have hinX3 : ∀ w ∈ wsX30, w ∈ wsX3_listen := by decide +kernel
  have hl : lv_has ls 4 [(0, .ref (h 0)), (1, .int (nI i))] := hl
  refine lv_aload_n hx hb dX3_listen_0 rfl (lv_at hl 0 rfl) ?_
  refine q_get hM hG (C := RX3) (T := TX3) (n := 24) hinX3 0 rfl rfl 18 (by decide) wRX3_54 rfl (v := .ref (h 15)) rfl dX3_listen_1 ?_
  refine lv_iload_n hx hb dX3_listen_4 rfl (lv_at hl 1 rfl) ?_
  refine lv_iload_n hx hb dX3_listen_5 rfl (lv_at hl 1 rfl) ?_
  refine q_iast hM hG 15 rfl hi (by decide) (ws1 := (mNet g h N tk dom gr va dr off rt cnt lk dl td K ((upd X.1 i (nI i)), X.2.1, X.2.2.1, X.2.2.2.1, X.2.2.2.2) ds thr)) rfl dX3_listen_6 (fun H locs hG => ?_)
  refine lv_aload_n hx hb dX3_listen_7 rfl (lv_at hl 0 rfl) ?_
  refine q_get hM hG (C := RX3) (T := TX3) (n := 24) hinX3 0 rfl rfl 19 (by decide) wRX3_57 rfl (v := .ref (h 16)) rfl dX3_listen_8 ?_
  refine lv_iload_n hx hb dX3_listen_11 rfl (lv_at hl 1 rfl) ?_
  refine lv_aload_n hx hb dX3_listen_12 rfl (lv_at hl 0 rfl) ?_
  refine q_get hM hG (C := RX3) (T := TX3) (n := 24) hinX3 0 rfl rfl 3 (by decide) wRX3_13 rfl (v := .ref (h 2)) rfl dX3_listen_13 ?_
  refine lv_iload_n hx hb dX3_listen_16 rfl (lv_at hl 1 rfl) ?_
  refine q_iald hM hG 2 rfl hi (by decide) dX3_listen_17 ?_
  refine q_iast hM hG 16 rfl hi (by decide) (ws1 := (mNet g h N tk dom gr va dr off rt cnt lk dl td K ((upd X.1 i (nI i)), (upd X.2.1 i (gr i)), X.2.2.1, X.2.2.2.1, X.2.2.2.2) ds thr)) rfl dX3_listen_18 (fun H locs hG => ?_)
  refine lv_aload_n hx hb dX3_listen_19 rfl (lv_at hl 0 rfl) ?_
  refine q_get hM hG (C := RX3) (T := TX3) (n := 24) hinX3 0 rfl rfl 20 (by decide) wRX3_60 rfl (v := .ref (h 17)) rfl dX3_listen_20 ?_
  refine lv_iload_n hx hb dX3_listen_23 rfl (lv_at hl 1 rfl) ?_
  refine lv_aload_n hx hb dX3_listen_24 rfl (lv_at hl 0 rfl) ?_
  refine q_get hM hG (C := RX3) (T := TX3) (n := 24) hinX3 0 rfl rfl 4 (by decide) wRX3_16 rfl (v := .ref (h 3)) rfl dX3_listen_25 ?_
  refine lv_iload_n hx hb dX3_listen_28 rfl (lv_at hl 1 rfl) ?_
  refine q_iald hM hG 3 rfl hi (by decide) dX3_listen_29 ?_
  refine q_iast hM hG 17 rfl hi (by decide) (ws1 := (mNet g h N tk dom gr va dr off rt cnt lk dl td K ((upd X.1 i (nI i)), (upd X.2.1 i (gr i)), (upd X.2.2.1 i (va i)), X.2.2.2.1, X.2.2.2.2) ds thr)) rfl dX3_listen_30 (fun H locs hG => ?_)
  refine lv_aload_n hx hb dX3_listen_31 rfl (lv_at hl 0 rfl) ?_
  refine q_get hM hG (C := RX3) (T := TX3) (n := 24) hinX3 0 rfl rfl 21 (by decide) wRX3_63 rfl (v := .ref (h 18)) rfl dX3_listen_32 ?_
  refine lv_iload_n hx hb dX3_listen_35 rfl (lv_at hl 1 rfl) ?_
  refine lv_iconst (v := 0) hx hb dX3_listen_36 (by decide) ?_
  refine q_iast hM hG 18 rfl hi (by decide) (ws1 := (mNet g h N tk dom gr va dr off rt cnt lk dl td K ((upd X.1 i (nI i)), (upd X.2.1 i (gr i)), (upd X.2.2.1 i (va i)), (upd X.2.2.2.1 i 0), X.2.2.2.2) ds thr)) rfl dX3_listen_37 (fun H locs hG => ?_)
  refine lv_aload_n hx hb dX3_listen_38 rfl (lv_at hl 0 rfl) ?_
  refine q_get hM hG (C := RX3) (T := TX3) (n := 24) hinX3 0 rfl rfl 22 (by decide) wRX3_66 rfl (v := .ref (h 19)) rfl dX3_listen_39 ?_
  refine lv_iload_n hx hb dX3_listen_42 rfl (lv_at hl 1 rfl) ?_
  refine lv_iconst (v := (-1)) hx hb dX3_listen_43 (by decide) ?_
  refine q_iast hM hG 19 rfl hi (by decide) (ws1 := (mNet g h N tk dom gr va dr off rt cnt lk dl td K ((upd X.1 i (nI i)), (upd X.2.1 i (gr i)), (upd X.2.2.1 i (va i)), (upd X.2.2.2.1 i 0), (upd X.2.2.2.2 i (-1 : Int32))) ds thr)) rfl dX3_listen_44 (fun H locs hG => ?_)
  refine lv_iconst (v := 0) hx hb dX3_listen_45 (by decide) ?_
  refine lv_istore_n (lv' := [(2, .int 0), (0, .ref (h 0)), (1, .int (nI i))]) hx hb dX3_listen_46 rfl hl (by decide) rfl (fun ls hl => ?_)
  have loop_47 : ∀ (n9 t : Nat) (X1 : KM), t ≤ N → N < t + n9 → (X1 = mlis dom lk gr va K X i t) → ∀ (H : Heap) (locs : List Loc), cC g (mNet g h N tk dom gr va dr off rt cnt lk dl td K X1 ds thr) A s H locs → ∀ (ls : Array Slot), lv_has ls 4 [(2, .int (nI t)), (0, .ref (h 0)), (1, .int (nI i))] → W p l e ({ frames := 1, cells := 0, slots := 0, locals := 22 } : Room) s m args below meth c H locs 0 0 Q (F0 m 47 ls []) := by
    intro n9
    induction n9 with
    | zero => intro t X1 h1 h2; exact absurd h2 (by omega)
    | succ n9 ih_47 =>
      intro t X1 hle_t hlt9 hinv_t H locs hG ls hl
      refine lv_iload_n hx hb dX3_listen_47 rfl (lv_at hl 0 rfl) ?_
      refine lv_aload_n hx hb dX3_listen_48 rfl (lv_at hl 1 rfl) ?_
      refine q_get hM hG (C := RX3) (T := TX3) (n := 24) hinX3 0 rfl rfl 0 (by decide) wRX3_72 rfl (v := .int (nI N)) rfl dX3_listen_49 ?_
      refine lv_icmp_ge (tgt := 167) hx hb dX3_listen_52 (by decide) (fun c_52 => ?_) (fun c_52 => ?_)
      · have ht : t = N := by have h9 := ctr_ge (a := t) (b := N) (by omega) (by omega) c_52; omega
        exact hRet X1 _ _ _ _ _ _ (by rw [ht] at hinv_t; exact hinv_t) hG (Nat.le_of_ble_eq_true rfl) (Nat.le_of_ble_eq_true rfl) dX3_listen_167
      · have ht : t < N := ctr_lt (by omega) (by omega) c_52
        have htx : t < 10 := by omega
        refine lv_aload_n hx hb dX3_listen_55 rfl (lv_at hl 1 rfl) ?_
        refine lv_iload_n hx hb dX3_listen_56 rfl (lv_at hl 2 rfl) ?_
        refine lv_iload_n hx hb dX3_listen_57 rfl (lv_at hl 0 rfl) ?_
        refine q_calli (n := 2) (As := [.int (nI i), .int (nI t)]) (rest := []) hM hl.1 hG (c_X3_areNeighbours l g h N tk dom gr va dr off rt cnt lk dl td K X1 ds thr i t hi htx hlk) rfl gX3_listen_X3_areNeighbours (by decide +kernel) ⟨Nat.le_of_ble_eq_true rfl, Nat.le_of_ble_eq_true rfl⟩ 0 rfl rfl rfl rfl rfl (Nat.le_of_ble_eq_true rfl) dX3_listen_58 (c1 := 0) (s1 := 0) rfl rfl ⟨Nat.le_of_ble_eq_true rfl, Nat.le_of_ble_eq_true rfl⟩ (fun r_58 u_58 H locs hp_58 hG => ?_)
        rcases hp_58 with ⟨rfl, hp_58⟩ | ⟨rfl, hp_58⟩
        · refine lv_if_eq (tgt := 89) hx hb dX3_listen_61 (by decide) (fun c9 => False.elim (by revert c9; decide)) (fun _ => ?_)
          refine lv_aload_n hx hb dX3_listen_64 rfl (lv_at hl 1 rfl) ?_
          refine q_get hM hG (C := RX3) (T := TX3) (n := 24) hinX3 0 rfl rfl 14 (by decide) wRX3_48 rfl (v := .ref (h 13)) rfl dX3_listen_65 ?_
          refine lv_iload_n hx hb dX3_listen_68 rfl (lv_at hl 0 rfl) ?_
          refine q_iald hM hG 13 rfl htx (by decide) dX3_listen_69 ?_
          refine lv_bipush (v := 9) hx hb dX3_listen_70 (by decide) ?_
          refine lv_icmp_ge (tgt := 89) hx hb dX3_listen_72 (by decide) (fun c_72 => ?_) (fun c_72 => ?_)
          · refine lv_iconst (v := 0) hx hb dX3_listen_89 (by decide) ?_
            refine lv_istore_n (lv' := [(3, .int 0), (2, .int (nI t)), (0, .ref (h 0)), (1, .int (nI i))]) hx hb dX3_listen_90 rfl hl (by decide) rfl (fun ls hl => ?_)
            refine lv_iload_n hx hb dX3_listen_91 rfl (lv_at hl 0 rfl) ?_
            refine lv_if_eq (tgt := 161) hx hb dX3_listen_92 (by decide) (fun _ => ?_) (fun c9 => False.elim (by revert c9; decide))
            refine lv_iinc (v := (nI (t + 1))) (lv' := [(2, .int (nI (t + 1))), (3, .int 0), (0, .ref (h 0)), (1, .int (nI i))]) hx hb dX3_listen_161 hl (k := 1) rfl (nI_1 t) (by decide) rfl (fun ls hl => ?_)
            refine lv_goto (tgt := 47) hx hb dX3_listen_164 (by decide) ?_
            exact ih_47 (t + 1) X1 (by omega) (by omega) (hinv_t.trans (mlis_f (fun h9 => nlt h9.1.2.1 c_72)).symm) _ _ hG _ (lv_sub hl [0, 2, 3] rfl)
          · refine lv_aload_n hx hb dX3_listen_75 rfl (lv_at hl 1 rfl) ?_
            refine q_get hM hG (C := RX3) (T := TX3) (n := 24) hinX3 0 rfl rfl 15 (by decide) wRX3_51 rfl (v := .ref (h 14)) rfl dX3_listen_76 ?_
            refine lv_iload_n hx hb dX3_listen_79 rfl (lv_at hl 0 rfl) ?_
            refine q_iald hM hG 14 rfl htx (by decide) dX3_listen_80 ?_
            refine lv_iload_n hx hb dX3_listen_81 rfl (lv_at hl 2 rfl) ?_
            refine lv_icmp_eq (tgt := 89) hx hb dX3_listen_82 (by decide) (fun c_82 => ?_) (fun c_82 => ?_)
            · refine lv_iconst (v := 0) hx hb dX3_listen_89 (by decide) ?_
              refine lv_istore_n (lv' := [(3, .int 0), (2, .int (nI t)), (0, .ref (h 0)), (1, .int (nI i))]) hx hb dX3_listen_90 rfl hl (by decide) rfl (fun ls hl => ?_)
              refine lv_iload_n hx hb dX3_listen_91 rfl (lv_at hl 0 rfl) ?_
              refine lv_if_eq (tgt := 161) hx hb dX3_listen_92 (by decide) (fun _ => ?_) (fun c9 => False.elim (by revert c9; decide))
              refine lv_iinc (v := (nI (t + 1))) (lv' := [(2, .int (nI (t + 1))), (3, .int 0), (0, .ref (h 0)), (1, .int (nI i))]) hx hb dX3_listen_161 hl (k := 1) rfl (nI_1 t) (by decide) rfl (fun ls hl => ?_)
              refine lv_goto (tgt := 47) hx hb dX3_listen_164 (by decide) ?_
              exact ih_47 (t + 1) X1 (by omega) (by omega) (hinv_t.trans (mlis_f (fun h9 => h9.1.2.2 c_82)).symm) _ _ hG _ (lv_sub hl [0, 2, 3] rfl)
            · refine lv_iconst (v := 1) hx hb dX3_listen_85 (by decide) ?_
              refine lv_goto (tgt := 90) hx hb dX3_listen_86 (by decide) ?_
              refine lv_istore_n (lv' := [(3, .int 1), (2, .int (nI t)), (0, .ref (h 0)), (1, .int (nI i))]) hx hb dX3_listen_90 rfl hl (by decide) rfl (fun ls hl => ?_)
              refine lv_iload_n hx hb dX3_listen_91 rfl (lv_at hl 0 rfl) ?_
              refine lv_if_eq (tgt := 161) hx hb dX3_listen_92 (by decide) (fun c9 => False.elim (by revert c9; decide)) (fun _ => ?_)
              refine lv_aload_n hx hb dX3_listen_95 rfl (lv_at hl 2 rfl) ?_
              refine lv_iload_n hx hb dX3_listen_96 rfl (lv_at hl 1 rfl) ?_
              refine lv_iload_n hx hb dX3_listen_97 rfl (lv_at hl 3 rfl) ?_
              refine q_calli (n := 2) (As := [.int (nI t), .int (nI i)]) (rest := []) hM hl.1 hG (c_X3_isBetter l g h N tk dom gr va dr off rt cnt lk dl td K X1 ds thr t i htx hi) rfl gX3_listen_X3_isBetter (by decide +kernel) ⟨Nat.le_of_ble_eq_true rfl, Nat.le_of_ble_eq_true rfl⟩ 0 rfl rfl rfl rfl rfl (Nat.le_of_ble_eq_true rfl) dX3_listen_98 (c1 := 0) (s1 := 0) rfl rfl ⟨Nat.le_of_ble_eq_true rfl, Nat.le_of_ble_eq_true rfl⟩ (fun r_98 u_98 H locs hp_98 hG => ?_)
              rcases hp_98 with ⟨rfl, hp_98⟩ | ⟨rfl, hp_98⟩
              · refine lv_if_eq (tgt := 161) hx hb dX3_listen_101 (by decide) (fun c9 => False.elim (by revert c9; decide)) (fun _ => ?_)
                refine lv_aload_n hx hb dX3_listen_104 rfl (lv_at hl 2 rfl) ?_
                refine q_get hM hG (C := RX3) (T := TX3) (n := 24) hinX3 0 rfl rfl 18 (by decide) wRX3_54 rfl (v := .ref (h 15)) rfl dX3_listen_105 ?_
                refine lv_iload_n hx hb dX3_listen_108 rfl (lv_at hl 3 rfl) ?_
                refine lv_aload_n hx hb dX3_listen_109 rfl (lv_at hl 2 rfl) ?_
                refine q_get hM hG (C := RX3) (T := TX3) (n := 24) hinX3 0 rfl rfl 11 (by decide) wRX3_39 rfl (v := .ref (h 10)) rfl dX3_listen_110 ?_
                refine lv_iload_n hx hb dX3_listen_113 rfl (lv_at hl 1 rfl) ?_
                refine q_iald hM hG 10 rfl htx (by decide) dX3_listen_114 ?_
                refine q_iast hM hG 15 rfl hi (by decide) (ws1 := (mNet g h N tk dom gr va dr off rt cnt lk dl td K ((upd X1.1 i (K.1 t)), X1.2.1, X1.2.2.1, X1.2.2.2.1, X1.2.2.2.2) ds thr)) rfl dX3_listen_115 (fun H locs hG => ?_)
                refine lv_aload_n hx hb dX3_listen_116 rfl (lv_at hl 2 rfl) ?_
                refine q_get hM hG (C := RX3) (T := TX3) (n := 24) hinX3 0 rfl rfl 19 (by decide) wRX3_57 rfl (v := .ref (h 16)) rfl dX3_listen_117 ?_
                refine lv_iload_n hx hb dX3_listen_120 rfl (lv_at hl 3 rfl) ?_
                refine lv_aload_n hx hb dX3_listen_121 rfl (lv_at hl 2 rfl) ?_
                refine q_get hM hG (C := RX3) (T := TX3) (n := 24) hinX3 0 rfl rfl 12 (by decide) wRX3_42 rfl (v := .ref (h 11)) rfl dX3_listen_122 ?_
                refine lv_iload_n hx hb dX3_listen_125 rfl (lv_at hl 1 rfl) ?_
                refine q_iald hM hG 11 rfl htx (by decide) dX3_listen_126 ?_
                refine q_iast hM hG 16 rfl hi (by decide) (ws1 := (mNet g h N tk dom gr va dr off rt cnt lk dl td K ((upd X1.1 i (K.1 t)), (upd X1.2.1 i (K.2.1 t)), X1.2.2.1, X1.2.2.2.1, X1.2.2.2.2) ds thr)) rfl dX3_listen_127 (fun H locs hG => ?_)
                refine lv_aload_n hx hb dX3_listen_128 rfl (lv_at hl 2 rfl) ?_
                refine q_get hM hG (C := RX3) (T := TX3) (n := 24) hinX3 0 rfl rfl 20 (by decide) wRX3_60 rfl (v := .ref (h 17)) rfl dX3_listen_129 ?_
                refine lv_iload_n hx hb dX3_listen_132 rfl (lv_at hl 3 rfl) ?_
                refine lv_aload_n hx hb dX3_listen_133 rfl (lv_at hl 2 rfl) ?_
                refine q_get hM hG (C := RX3) (T := TX3) (n := 24) hinX3 0 rfl rfl 13 (by decide) wRX3_45 rfl (v := .ref (h 12)) rfl dX3_listen_134 ?_
                refine lv_iload_n hx hb dX3_listen_137 rfl (lv_at hl 1 rfl) ?_
                refine q_iald hM hG 12 rfl htx (by decide) dX3_listen_138 ?_
                refine q_iast hM hG 17 rfl hi (by decide) (ws1 := (mNet g h N tk dom gr va dr off rt cnt lk dl td K ((upd X1.1 i (K.1 t)), (upd X1.2.1 i (K.2.1 t)), (upd X1.2.2.1 i (K.2.2.1 t)), X1.2.2.2.1, X1.2.2.2.2) ds thr)) rfl dX3_listen_139 (fun H locs hG => ?_)
                refine lv_aload_n hx hb dX3_listen_140 rfl (lv_at hl 2 rfl) ?_
                refine q_get hM hG (C := RX3) (T := TX3) (n := 24) hinX3 0 rfl rfl 21 (by decide) wRX3_63 rfl (v := .ref (h 18)) rfl dX3_listen_141 ?_
                refine lv_iload_n hx hb dX3_listen_144 rfl (lv_at hl 3 rfl) ?_
                refine lv_aload_n hx hb dX3_listen_145 rfl (lv_at hl 2 rfl) ?_
                refine q_get hM hG (C := RX3) (T := TX3) (n := 24) hinX3 0 rfl rfl 14 (by decide) wRX3_48 rfl (v := .ref (h 13)) rfl dX3_listen_146 ?_
                refine lv_iload_n hx hb dX3_listen_149 rfl (lv_at hl 1 rfl) ?_
                refine q_iald hM hG 13 rfl htx (by decide) dX3_listen_150 ?_
                refine lv_iconst (v := 1) hx hb dX3_listen_151 (by decide) ?_
                refine lv_iadd hx hb dX3_listen_152 ?_
                refine q_iast hM hG 18 rfl hi (by decide) (ws1 := (mNet g h N tk dom gr va dr off rt cnt lk dl td K ((upd X1.1 i (K.1 t)), (upd X1.2.1 i (K.2.1 t)), (upd X1.2.2.1 i (K.2.2.1 t)), (upd X1.2.2.2.1 i ((K.2.2.2.1 t) + 1)), X1.2.2.2.2) ds thr)) rfl dX3_listen_153 (fun H locs hG => ?_)
                refine lv_aload_n hx hb dX3_listen_154 rfl (lv_at hl 2 rfl) ?_
                refine q_get hM hG (C := RX3) (T := TX3) (n := 24) hinX3 0 rfl rfl 22 (by decide) wRX3_66 rfl (v := .ref (h 19)) rfl dX3_listen_155 ?_
                refine lv_iload_n hx hb dX3_listen_158 rfl (lv_at hl 3 rfl) ?_
                refine lv_iload_n hx hb dX3_listen_159 rfl (lv_at hl 1 rfl) ?_
                refine q_iast hM hG 19 rfl hi (by decide) (ws1 := (mNet g h N tk dom gr va dr off rt cnt lk dl td K ((upd X1.1 i (K.1 t)), (upd X1.2.1 i (K.2.1 t)), (upd X1.2.2.1 i (K.2.2.1 t)), (upd X1.2.2.2.1 i ((K.2.2.2.1 t) + 1)), (upd X1.2.2.2.2 i (nI t))) ds thr)) rfl dX3_listen_160 (fun H locs hG => ?_)
                refine lv_iinc (v := (nI (t + 1))) (lv' := [(2, .int (nI (t + 1))), (3, .int 1), (0, .ref (h 0)), (1, .int (nI i))]) hx hb dX3_listen_161 hl (k := 1) rfl (nI_1 t) (by decide) rfl (fun ls hl => ?_)
                refine lv_goto (tgt := 47) hx hb dX3_listen_164 (by decide) ?_
                exact ih_47 (t + 1) ((upd X1.1 i (K.1 t)), (upd X1.2.1 i (K.2.1 t)), (upd X1.2.2.1 i (K.2.2.1 t)), (upd X1.2.2.2.1 i ((K.2.2.2.1 t) + 1)), (upd X1.2.2.2.2 i (nI t))) (by omega) (by omega) (by subst hinv_t; exact (mlis_t ⟨⟨hp_58, nle c_72, c_82⟩, hp_98⟩).symm) _ _ hG _ (lv_sub hl [0, 2, 3] rfl)
              · refine lv_if_eq (tgt := 161) hx hb dX3_listen_101 (by decide) (fun _ => ?_) (fun c9 => False.elim (by revert c9; decide))
                refine lv_iinc (v := (nI (t + 1))) (lv' := [(2, .int (nI (t + 1))), (3, .int 1), (0, .ref (h 0)), (1, .int (nI i))]) hx hb dX3_listen_161 hl (k := 1) rfl (nI_1 t) (by decide) rfl (fun ls hl => ?_)
                refine lv_goto (tgt := 47) hx hb dX3_listen_164 (by decide) ?_
                exact ih_47 (t + 1) X1 (by omega) (by omega) (hinv_t.trans (mlis_f (fun h9 => hp_98 (by rw [hinv_t]; exact h9.2))).symm) _ _ hG _ (lv_sub hl [0, 2, 3] rfl)
        · refine lv_if_eq (tgt := 89) hx hb dX3_listen_61 (by decide) (fun _ => ?_) (fun c9 => False.elim (by revert c9; decide))
          refine lv_iconst (v := 0) hx hb dX3_listen_89 (by decide) ?_
          refine lv_istore_n (lv' := [(3, .int 0), (2, .int (nI t)), (0, .ref (h 0)), (1, .int (nI i))]) hx hb dX3_listen_90 rfl hl (by decide) rfl (fun ls hl => ?_)
          refine lv_iload_n hx hb dX3_listen_91 rfl (lv_at hl 0 rfl) ?_
          refine lv_if_eq (tgt := 161) hx hb dX3_listen_92 (by decide) (fun _ => ?_) (fun c9 => False.elim (by revert c9; decide))
          refine lv_iinc (v := (nI (t + 1))) (lv' := [(2, .int (nI (t + 1))), (3, .int 0), (0, .ref (h 0)), (1, .int (nI i))]) hx hb dX3_listen_161 hl (k := 1) rfl (nI_1 t) (by decide) rfl (fun ls hl => ?_)
          refine lv_goto (tgt := 47) hx hb dX3_listen_164 (by decide) ?_
          exact ih_47 (t + 1) X1 (by omega) (by omega) (hinv_t.trans (mlis_f (fun h9 => hp_58 h9.1.1)).symm) _ _ hG _ (lv_sub hl [0, 2, 3] rfl)
  exact loop_47 (N + 1) 0 ((upd X.1 i (nI i)), (upd X.2.1 i (gr i)), (upd X.2.2.1 i (va i)), (upd X.2.2.2.1 i 0), (upd X.2.2.2.2 i (-1 : Int32))) (by omega) (by omega) rfl _ _ hG _ (lv_sub hl [0, 1, 2] rfl)

set_option maxHeartbeats 4000000 in
set_option maxRecDepth 100000 in
theorem c_X3_announce (l : Launch) (g : EN) (h : Nat → Nat) (N : Nat) (tk : Int32) (dom : Nat → Int32) (gr : Nat → Int32) (va : Nat → Int32) (dr : Nat → Int32) (off : Nat → Int64) (rt : Nat → Int64) (cnt : Int32) (lk : Nat → Int32) (dl : Nat → Int32) (td : Nat → Int32) (K : KM) (X : KM) (ds : Nat → Int32) (thr : Int32) (hN : N ≤ 10) (hlk : b01 lk)  : Cv l yX3_announce wsX3_announce ({ frames := 2, cells := 0, slots := 0, locals := 45 }) g [.ref (h 0)] (mNet g h N tk dom gr va dr off rt cnt lk dl td K X ds thr) (fun (u : KM × KM) => u.1 = mAnn dom lk gr va N K) (fun (u : KM × KM) => (mNet g h N tk dom gr va dr off rt cnt lk dl td u.1 u.2 ds thr)) := by
  refine Cv.of (cc := cX3_announce) (maxL := 2) (by decide) rfl (Nat.le_of_ble_eq_true rfl) ?_
  intro p e s m args below meth c A Q ls hM hG hRet hl
  have hx := hM.1
  have hb := hM.2.1
  have hown := hM.2.2.2.1
  have hts := hM.2.2.2.2
  have wRX3_72 : Cond.fieldLink RX3 72 "TimeNetModel" "nodeMany" "I" ∈ wsX3_announce := by decide +kernel
  have wRX3_39 : Cond.fieldLink RX3 39 "TimeNetModel" "knownNode" "[I" ∈ wsX3_announce := by decide +kernel
  have wRX3_54 : Cond.fieldLink RX3 54 "TimeNetModel" "nextNode" "[I" ∈ wsX3_announce := by decide +kernel
  have wRX3_42 : Cond.fieldLink RX3 42 "TimeNetModel" "knownGrade" "[I" ∈ wsX3_announce := by decide +kernel
  have wRX3_57 : Cond.fieldLink RX3 57 "TimeNetModel" "nextGrade" "[I" ∈ wsX3_announce := by decide +kernel
  have wRX3_45 : Cond.fieldLink RX3 45 "TimeNetModel" "knownVariance" "[I" ∈ wsX3_announce := by decide +kernel
  have wRX3_60 : Cond.fieldLink RX3 60 "TimeNetModel" "nextVariance" "[I" ∈ wsX3_announce := by decide +kernel
  have wRX3_48 : Cond.fieldLink RX3 48 "TimeNetModel" "knownSteps" "[I" ∈ wsX3_announce := by decide +kernel
  have wRX3_63 : Cond.fieldLink RX3 63 "TimeNetModel" "nextSteps" "[I" ∈ wsX3_announce := by decide +kernel
  have wRX3_51 : Cond.fieldLink RX3 51 "TimeNetModel" "parents" "[I" ∈ wsX3_announce := by decide +kernel
  have wRX3_66 : Cond.fieldLink RX3 66 "TimeNetModel" "nextParents" "[I" ∈ wsX3_announce := by decide +kernel
  have hinX3 : ∀ w ∈ wsX30, w ∈ wsX3_announce := by decide +kernel
  have hl : lv_has ls 2 [(0, .ref (h 0))] := hl
  refine lv_iconst (v := 0) hx hb dX3_announce_0 (by decide) ?_
  refine lv_istore_n (lv' := [(1, .int 0), (0, .ref (h 0))]) hx hb dX3_announce_1 rfl hl (by decide) rfl (fun ls hl => ?_)
  have loop_2 : ∀ (n9 i : Nat) (X1 : KM), i ≤ N → N < i + n9 → (X1 = mann dom lk gr va N K X i) → ∀ (H : Heap) (locs : List Loc), cC g (mNet g h N tk dom gr va dr off rt cnt lk dl td K X1 ds thr) A s H locs → ∀ (ls : Array Slot), lv_has ls 2 [(1, .int (nI i)), (0, .ref (h 0))] → W p l e ({ frames := 2, cells := 0, slots := 0, locals := 45 } : Room) s m args below meth c H locs 0 0 Q (F0 m 2 ls []) := by
    intro n9
    induction n9 with
    | zero => intro i X1 h1 h2; exact absurd h2 (by omega)
    | succ n9 ih_2 =>
      intro i X1 hle_i hlt9 hinv_i H locs hG ls hl
      refine lv_iload_n hx hb dX3_announce_2 rfl (lv_at hl 0 rfl) ?_
      refine lv_aload_n hx hb dX3_announce_3 rfl (lv_at hl 1 rfl) ?_
      refine q_get hM hG (C := RX3) (T := TX3) (n := 24) hinX3 0 rfl rfl 0 (by decide) wRX3_72 rfl (v := .int (nI N)) rfl dX3_announce_4 ?_
      refine lv_icmp_ge (tgt := 21) hx hb dX3_announce_7 (by decide) (fun c_7 => ?_) (fun c_7 => ?_)
      · have hi : i = N := by have h9 := ctr_ge (a := i) (b := N) (by omega) (by omega) c_7; omega
        refine lv_iconst (v := 0) hx hb dX3_announce_21 (by decide) ?_
        refine lv_istore_n (lv' := [(1, .int 0), (0, .ref (h 0))]) hx hb dX3_announce_22 rfl hl (by decide) rfl (fun ls hl => ?_)
        have loop_23 : ∀ (n9 z : Nat) (K1 : KM), z ≤ N → N < z + n9 → (K1 = mcp K X1 z) → ∀ (H : Heap) (locs : List Loc), cC g (mNet g h N tk dom gr va dr off rt cnt lk dl td K1 X1 ds thr) A s H locs → ∀ (ls : Array Slot), lv_has ls 2 [(1, .int (nI z)), (0, .ref (h 0))] → W p l e ({ frames := 2, cells := 0, slots := 0, locals := 45 } : Room) s m args below meth c H locs 0 0 Q (F0 m 23 ls []) := by
          intro n9
          induction n9 with
          | zero => intro z K1 h1 h2; exact absurd h2 (by omega)
          | succ n9 ih_23 =>
            intro z K1 hle_z hlt9 hinv_z H locs hG ls hl
            refine lv_iload_n hx hb dX3_announce_23 rfl (lv_at hl 0 rfl) ?_
            refine lv_aload_n hx hb dX3_announce_24 rfl (lv_at hl 1 rfl) ?_
            refine q_get hM hG (C := RX3) (T := TX3) (n := 24) hinX3 0 rfl rfl 0 (by decide) wRX3_72 rfl (v := .int (nI N)) rfl dX3_announce_25 ?_
            refine lv_icmp_ge (tgt := 97) hx hb dX3_announce_28 (by decide) (fun c_28 => ?_) (fun c_28 => ?_)
            · have hz : z = N := by have h9 := ctr_ge (a := z) (b := N) (by omega) (by omega) c_28; omega
              exact hRet (K1, X1) _ _ _ _ _ _ (by rw [hz] at hinv_z; rw [hi] at hinv_i; rw [hinv_z, hinv_i]; exact mAnn_eq) hG (Nat.le_of_ble_eq_true rfl) (Nat.le_of_ble_eq_true rfl) dX3_announce_97
            · have hz : z < N := ctr_lt (by omega) (by omega) c_28
              have hzx : z < 10 := by omega
              refine lv_aload_n hx hb dX3_announce_31 rfl (lv_at hl 1 rfl) ?_
              refine q_get hM hG (C := RX3) (T := TX3) (n := 24) hinX3 0 rfl rfl 11 (by decide) wRX3_39 rfl (v := .ref (h 10)) rfl dX3_announce_32 ?_
              refine lv_iload_n hx hb dX3_announce_35 rfl (lv_at hl 0 rfl) ?_
              refine lv_aload_n hx hb dX3_announce_36 rfl (lv_at hl 1 rfl) ?_
              refine q_get hM hG (C := RX3) (T := TX3) (n := 24) hinX3 0 rfl rfl 18 (by decide) wRX3_54 rfl (v := .ref (h 15)) rfl dX3_announce_37 ?_
              refine lv_iload_n hx hb dX3_announce_40 rfl (lv_at hl 0 rfl) ?_
              refine q_iald hM hG 15 rfl hzx (by decide) dX3_announce_41 ?_
              refine q_iast hM hG 10 rfl hzx (by decide) (ws1 := (mNet g h N tk dom gr va dr off rt cnt lk dl td ((upd K1.1 z (X1.1 z)), K1.2.1, K1.2.2.1, K1.2.2.2.1, K1.2.2.2.2) X1 ds thr)) rfl dX3_announce_42 (fun H locs hG => ?_)
              refine lv_aload_n hx hb dX3_announce_43 rfl (lv_at hl 1 rfl) ?_
              refine q_get hM hG (C := RX3) (T := TX3) (n := 24) hinX3 0 rfl rfl 12 (by decide) wRX3_42 rfl (v := .ref (h 11)) rfl dX3_announce_44 ?_
              refine lv_iload_n hx hb dX3_announce_47 rfl (lv_at hl 0 rfl) ?_
              refine lv_aload_n hx hb dX3_announce_48 rfl (lv_at hl 1 rfl) ?_
              refine q_get hM hG (C := RX3) (T := TX3) (n := 24) hinX3 0 rfl rfl 19 (by decide) wRX3_57 rfl (v := .ref (h 16)) rfl dX3_announce_49 ?_
              refine lv_iload_n hx hb dX3_announce_52 rfl (lv_at hl 0 rfl) ?_
              refine q_iald hM hG 16 rfl hzx (by decide) dX3_announce_53 ?_
              refine q_iast hM hG 11 rfl hzx (by decide) (ws1 := (mNet g h N tk dom gr va dr off rt cnt lk dl td ((upd K1.1 z (X1.1 z)), (upd K1.2.1 z (X1.2.1 z)), K1.2.2.1, K1.2.2.2.1, K1.2.2.2.2) X1 ds thr)) rfl dX3_announce_54 (fun H locs hG => ?_)
              refine lv_aload_n hx hb dX3_announce_55 rfl (lv_at hl 1 rfl) ?_
              refine q_get hM hG (C := RX3) (T := TX3) (n := 24) hinX3 0 rfl rfl 13 (by decide) wRX3_45 rfl (v := .ref (h 12)) rfl dX3_announce_56 ?_
              refine lv_iload_n hx hb dX3_announce_59 rfl (lv_at hl 0 rfl) ?_
              refine lv_aload_n hx hb dX3_announce_60 rfl (lv_at hl 1 rfl) ?_
              refine q_get hM hG (C := RX3) (T := TX3) (n := 24) hinX3 0 rfl rfl 20 (by decide) wRX3_60 rfl (v := .ref (h 17)) rfl dX3_announce_61 ?_
              refine lv_iload_n hx hb dX3_announce_64 rfl (lv_at hl 0 rfl) ?_
              refine q_iald hM hG 17 rfl hzx (by decide) dX3_announce_65 ?_
              refine q_iast hM hG 12 rfl hzx (by decide) (ws1 := (mNet g h N tk dom gr va dr off rt cnt lk dl td ((upd K1.1 z (X1.1 z)), (upd K1.2.1 z (X1.2.1 z)), (upd K1.2.2.1 z (X1.2.2.1 z)), K1.2.2.2.1, K1.2.2.2.2) X1 ds thr)) rfl dX3_announce_66 (fun H locs hG => ?_)
              refine lv_aload_n hx hb dX3_announce_67 rfl (lv_at hl 1 rfl) ?_
              refine q_get hM hG (C := RX3) (T := TX3) (n := 24) hinX3 0 rfl rfl 14 (by decide) wRX3_48 rfl (v := .ref (h 13)) rfl dX3_announce_68 ?_
              refine lv_iload_n hx hb dX3_announce_71 rfl (lv_at hl 0 rfl) ?_
              refine lv_aload_n hx hb dX3_announce_72 rfl (lv_at hl 1 rfl) ?_
              refine q_get hM hG (C := RX3) (T := TX3) (n := 24) hinX3 0 rfl rfl 21 (by decide) wRX3_63 rfl (v := .ref (h 18)) rfl dX3_announce_73 ?_
              refine lv_iload_n hx hb dX3_announce_76 rfl (lv_at hl 0 rfl) ?_
              refine q_iald hM hG 18 rfl hzx (by decide) dX3_announce_77 ?_
              refine q_iast hM hG 13 rfl hzx (by decide) (ws1 := (mNet g h N tk dom gr va dr off rt cnt lk dl td ((upd K1.1 z (X1.1 z)), (upd K1.2.1 z (X1.2.1 z)), (upd K1.2.2.1 z (X1.2.2.1 z)), (upd K1.2.2.2.1 z (X1.2.2.2.1 z)), K1.2.2.2.2) X1 ds thr)) rfl dX3_announce_78 (fun H locs hG => ?_)
              refine lv_aload_n hx hb dX3_announce_79 rfl (lv_at hl 1 rfl) ?_
              refine q_get hM hG (C := RX3) (T := TX3) (n := 24) hinX3 0 rfl rfl 15 (by decide) wRX3_51 rfl (v := .ref (h 14)) rfl dX3_announce_80 ?_
              refine lv_iload_n hx hb dX3_announce_83 rfl (lv_at hl 0 rfl) ?_
              refine lv_aload_n hx hb dX3_announce_84 rfl (lv_at hl 1 rfl) ?_
              refine q_get hM hG (C := RX3) (T := TX3) (n := 24) hinX3 0 rfl rfl 22 (by decide) wRX3_66 rfl (v := .ref (h 19)) rfl dX3_announce_85 ?_
              refine lv_iload_n hx hb dX3_announce_88 rfl (lv_at hl 0 rfl) ?_
              refine q_iald hM hG 19 rfl hzx (by decide) dX3_announce_89 ?_
              refine q_iast hM hG 14 rfl hzx (by decide) (ws1 := (mNet g h N tk dom gr va dr off rt cnt lk dl td ((upd K1.1 z (X1.1 z)), (upd K1.2.1 z (X1.2.1 z)), (upd K1.2.2.1 z (X1.2.2.1 z)), (upd K1.2.2.2.1 z (X1.2.2.2.1 z)), (upd K1.2.2.2.2 z (X1.2.2.2.2 z))) X1 ds thr)) rfl dX3_announce_90 (fun H locs hG => ?_)
              refine lv_iinc (v := (nI (z + 1))) (lv' := [(1, .int (nI (z + 1))), (0, .ref (h 0))]) hx hb dX3_announce_91 hl (k := 0) rfl (nI_1 z) (by decide) rfl (fun ls hl => ?_)
              refine lv_goto (tgt := 23) hx hb dX3_announce_94 (by decide) ?_
              exact ih_23 (z + 1) ((upd K1.1 z (X1.1 z)), (upd K1.2.1 z (X1.2.1 z)), (upd K1.2.2.1 z (X1.2.2.1 z)), (upd K1.2.2.2.1 z (X1.2.2.2.1 z)), (upd K1.2.2.2.2 z (X1.2.2.2.2 z))) (by omega) (by omega) (by subst hinv_z; rfl) _ _ hG _ (lv_sub hl [0, 1] rfl)
        exact loop_23 (N + 1) 0 K (by omega) (by omega) rfl _ _ hG _ (lv_sub hl [0, 1] rfl)
      · have hi : i < N := ctr_lt (by omega) (by omega) c_7
        have hix : i < 10 := by omega
        refine lv_aload_n hx hb dX3_announce_10 rfl (lv_at hl 1 rfl) ?_
        refine lv_iload_n hx hb dX3_announce_11 rfl (lv_at hl 0 rfl) ?_
        refine q_callv (n := 1) (As := [.int (nI i)]) (rest := []) hM hl.1 hG (c_X3_listen l g h N tk dom gr va dr off rt cnt lk dl td K X1 ds thr i hix hN hlk) rfl gX3_announce_X3_listen (by decide +kernel) ⟨Nat.le_of_ble_eq_true rfl, Nat.le_of_ble_eq_true rfl⟩ 0 rfl rfl rfl rfl rfl (Nat.le_of_ble_eq_true rfl) dX3_announce_12 (c1 := 0) (s1 := 0) rfl rfl ⟨Nat.le_of_ble_eq_true rfl, Nat.le_of_ble_eq_true rfl⟩ (fun u_12 H locs hp_12 hG => ?_)
        refine lv_iinc (v := (nI (i + 1))) (lv' := [(1, .int (nI (i + 1))), (0, .ref (h 0))]) hx hb dX3_announce_15 hl (k := 0) rfl (nI_1 i) (by decide) rfl (fun ls hl => ?_)
        refine lv_goto (tgt := 2) hx hb dX3_announce_18 (by decide) ?_
        exact ih_2 (i + 1) u_12 (by omega) (by omega) (by rw [hp_12, hinv_i]; rfl) _ _ hG _ (lv_sub hl [0, 1] rfl)
  exact loop_2 (N + 1) 0 X (by omega) (by omega) rfl _ _ hG _ (lv_sub hl [0, 1] rfl)

set_option maxHeartbeats 4000000 in
set_option maxRecDepth 100000 in
theorem c_X3_steer (l : Launch) (g : EN) (h : Nat → Nat) (N : Nat) (tk : Int32) (dom : Nat → Int32) (gr : Nat → Int32) (va : Nat → Int32) (dr : Nat → Int32) (off : Nat → Int64) (rt : Nat → Int64) (cnt : Int32) (lk : Nat → Int32) (dl : Nat → Int32) (td : Nat → Int32) (K : KM) (X : KM) (ds : Nat → Int32) (thr : Int32) (i q : Nat) (hi : i < 10) (hq : q < 10) (eq9 : K.2.2.2.2 i = nI q)  : Cv l yX3_steer wsX3_steer ({ frames := 0, cells := 0, slots := 0, locals := 0 }) g [.ref (h 0), .int (nI i)] (mNet g h N tk dom gr va dr off rt cnt lk dl td K X ds thr) (fun (u : OR) => u = stq dl td (off, rt) q i) (fun (u : OR) => (mNet g h N tk dom gr va dr u.1 u.2 cnt lk dl td K X ds thr)) := by
  refine Cv.of (cc := cX3_steer) (maxL := 8) (by decide) rfl (Nat.le_of_ble_eq_true rfl) ?_
  intro p e s m args below meth c A Q ls hM hG hRet hl
  have hx := hM.1
  have hb := hM.2.1
  have hown := hM.2.2.2.1
  have hts := hM.2.2.2.2
  have wRX3_51 : Cond.fieldLink RX3 51 "TimeNetModel" "parents" "[I" ∈ wsX3_steer := by decide +kernel
  have wRX3_33 : Cond.fieldLink RX3 33 "TimeNetModel" "delays" "[I" ∈ wsX3_steer := by decide +kernel
  have wRX3_36 : Cond.fieldLink RX3 36 "TimeNetModel" "differences" "[I" ∈ wsX3_steer := by decide +kernel
  have wRX3_22 : Cond.fieldLink RX3 22 "TimeNetModel" "offsets" "[J" ∈ wsX3_steer := by decide +kernel
  have wRX3_26 : Cond.fieldLink RX3 26 "TimeNetModel" "rates" "[J" ∈ wsX3_steer := by decide +kernel
  have hinX3 : ∀ w ∈ wsX30, w ∈ wsX3_steer := by decide +kernel
  have hl : lv_has ls 8 [(0, .ref (h 0)), (1, .int (nI i))] := hl
  refine lv_aload_n hx hb dX3_steer_0 rfl (lv_at hl 0 rfl) ?_
  refine q_get hM hG (C := RX3) (T := TX3) (n := 24) hinX3 0 rfl rfl 15 (by decide) wRX3_51 rfl (v := .ref (h 14)) rfl dX3_steer_1 ?_
  refine lv_iload_n hx hb dX3_steer_4 rfl (lv_at hl 1 rfl) ?_
  refine q_iald hM hG 14 rfl hi (by decide) dX3_steer_5 ?_
  refine q_ren eq9 ?_
  refine lv_istore_n (lv' := [(2, .int (nI q)), (0, .ref (h 0)), (1, .int (nI i))]) hx hb dX3_steer_6 rfl hl (by decide) rfl (fun ls hl => ?_)
  refine lv_bipush (v := 10) hx hb dX3_steer_7 (by decide) ?_
  refine lv_iload_n hx hb dX3_steer_9 rfl (lv_at hl 0 rfl) ?_
  refine lv_imul hx hb dX3_steer_10 ?_
  refine lv_iload_n hx hb dX3_steer_11 rfl (lv_at hl 2 rfl) ?_
  refine lv_iadd hx hb dX3_steer_12 ?_
  refine q_ren (ix_mul' q i) ?_
  refine lv_istore_n (lv' := [(3, .int (nI (q * 10 + i))), (2, .int (nI q)), (0, .ref (h 0)), (1, .int (nI i))]) hx hb dX3_steer_13 rfl hl (by decide) rfl (fun ls hl => ?_)
  refine lv_bipush (v := 10) hx hb dX3_steer_14 (by decide) ?_
  refine lv_iload_n hx hb dX3_steer_16 rfl (lv_at hl 3 rfl) ?_
  refine lv_imul hx hb dX3_steer_17 ?_
  refine lv_iload_n hx hb dX3_steer_18 rfl (lv_at hl 1 rfl) ?_
  refine lv_iadd hx hb dX3_steer_19 ?_
  refine q_ren (ix_mul' i q) ?_
  refine lv_istore (lv' := [(4, .int (nI (i * 10 + q))), (3, .int (nI (q * 10 + i))), (2, .int (nI q)), (0, .ref (h 0)), (1, .int (nI i))]) hx hb dX3_steer_20 hl (by decide) rfl (fun ls hl => ?_)
  refine lv_aload_n hx hb dX3_steer_22 rfl (lv_at hl 3 rfl) ?_
  refine q_get hM hG (C := RX3) (T := TX3) (n := 24) hinX3 0 rfl rfl 9 (by decide) wRX3_33 rfl (v := .ref (h 8)) rfl dX3_steer_23 ?_
  refine lv_iload_n hx hb dX3_steer_26 rfl (lv_at hl 1 rfl) ?_
  refine q_iald hM hG 8 rfl (by omega) (by decide) dX3_steer_27 ?_
  refine lv_aload_n hx hb dX3_steer_28 rfl (lv_at hl 3 rfl) ?_
  refine q_get hM hG (C := RX3) (T := TX3) (n := 24) hinX3 0 rfl rfl 9 (by decide) wRX3_33 rfl (v := .ref (h 8)) rfl dX3_steer_29 ?_
  refine lv_iload hx hb dX3_steer_32 (lv_at hl 0 rfl) ?_
  refine q_iald hM hG 8 rfl (by omega) (by decide) dX3_steer_34 ?_
  refine lv_isub hx hb dX3_steer_35 ?_
  refine lv_aload_n hx hb dX3_steer_36 rfl (lv_at hl 3 rfl) ?_
  refine q_get hM hG (C := RX3) (T := TX3) (n := 24) hinX3 0 rfl rfl 10 (by decide) wRX3_36 rfl (v := .ref (h 9)) rfl dX3_steer_37 ?_
  refine lv_iload_n hx hb dX3_steer_40 rfl (lv_at hl 1 rfl) ?_
  refine q_iald hM hG 9 rfl (by omega) (by decide) dX3_steer_41 ?_
  refine lv_isub hx hb dX3_steer_42 ?_
  refine lv_iconst (v := 2) hx hb dX3_steer_43 (by decide) ?_
  refine lv_idiv hx hb dX3_steer_44 (by decide) ?_
  refine lv_istore (lv' := [(5, .int ((((dl (q * 10 + i)) - (dl (i * 10 + q))) - (td (q * 10 + i))) / 2)), (4, .int (nI (i * 10 + q))), (3, .int (nI (q * 10 + i))), (2, .int (nI q)), (0, .ref (h 0)), (1, .int (nI i))]) hx hb dX3_steer_45 hl (by decide) rfl (fun ls hl => ?_)
  refine lv_aload_n hx hb dX3_steer_47 rfl (lv_at hl 4 rfl) ?_
  refine q_get hM hG (C := RX3) (T := TX3) (n := 24) hinX3 0 rfl rfl 6 (by decide) wRX3_22 rfl (v := .ref (h 5)) rfl dX3_steer_48 ?_
  refine lv_iload_n hx hb dX3_steer_51 rfl (lv_at hl 5 rfl) ?_
  refine q_lald hM hG 5 rfl hi (by decide) dX3_steer_52 ?_
  refine lv_aload_n hx hb dX3_steer_53 rfl (lv_at hl 4 rfl) ?_
  refine q_get hM hG (C := RX3) (T := TX3) (n := 24) hinX3 0 rfl rfl 6 (by decide) wRX3_22 rfl (v := .ref (h 5)) rfl dX3_steer_54 ?_
  refine lv_iload_n hx hb dX3_steer_57 rfl (lv_at hl 3 rfl) ?_
  refine q_lald hM hG 5 rfl hq (by decide) dX3_steer_58 ?_
  refine lv_lsub hx hb dX3_steer_59 ?_
  refine lv_iload hx hb dX3_steer_60 (lv_at hl 0 rfl) ?_
  refine lv_i2l hx hb dX3_steer_62 rfl ?_
  refine lv_ladd hx hb dX3_steer_63 ?_
  refine lv_lstore (lv' := [(6, .long (((off i) - (off q)) + ((((dl (q * 10 + i)) - (dl (i * 10 + q))) - (td (q * 10 + i))) / 2).toInt64)), (5, .int ((((dl (q * 10 + i)) - (dl (i * 10 + q))) - (td (q * 10 + i))) / 2)), (4, .int (nI (i * 10 + q))), (3, .int (nI (q * 10 + i))), (2, .int (nI q)), (0, .ref (h 0)), (1, .int (nI i))]) hx hb dX3_steer_64 hl (by decide) rfl (fun ls hl => ?_)
  refine lv_aload_n hx hb dX3_steer_66 rfl (lv_at hl 5 rfl) ?_
  refine q_get hM hG (C := RX3) (T := TX3) (n := 24) hinX3 0 rfl rfl 6 (by decide) wRX3_22 rfl (v := .ref (h 5)) rfl dX3_steer_67 ?_
  refine lv_iload_n hx hb dX3_steer_70 rfl (lv_at hl 6 rfl) ?_
  refine lv_dup2_11 hx hb dX3_steer_71 rfl rfl ?_
  refine q_lald hM hG 5 rfl hi (by decide) dX3_steer_72 ?_
  refine lv_lload hx hb dX3_steer_73 (lv_at hl 0 rfl) ?_
  refine lv_ldc2 (v := 2) hx hb hown (hts (.constantLong RX3 108 2) (by decide +kernel)) dX3_steer_75 ?_
  refine lv_ldiv hx hb dX3_steer_78 (by decide) ?_
  refine lv_lsub hx hb dX3_steer_79 ?_
  refine q_last hM hG 5 rfl hi (by decide) (ws1 := (mNet g h N tk dom gr va dr (vp_updL off i ((off i) - ((((off i) - (off q)) + ((((dl (q * 10 + i)) - (dl (i * 10 + q))) - (td (q * 10 + i))) / 2).toInt64) / 2))) rt cnt lk dl td K X ds thr)) rfl dX3_steer_80 (fun H locs hG => ?_)
  refine lv_aload_n hx hb dX3_steer_81 rfl (lv_at hl 5 rfl) ?_
  refine q_get hM hG (C := RX3) (T := TX3) (n := 24) hinX3 0 rfl rfl 7 (by decide) wRX3_26 rfl (v := .ref (h 6)) rfl dX3_steer_82 ?_
  refine lv_iload_n hx hb dX3_steer_85 rfl (lv_at hl 6 rfl) ?_
  refine lv_dup2_11 hx hb dX3_steer_86 rfl rfl ?_
  refine q_lald hM hG 6 rfl hi (by decide) dX3_steer_87 ?_
  refine lv_lload hx hb dX3_steer_88 (lv_at hl 0 rfl) ?_
  refine lv_ldc2 (v := 16) hx hb hown (hts (.constantLong RX3 110 16) (by decide +kernel)) dX3_steer_90 ?_
  refine lv_ldiv hx hb dX3_steer_93 (by decide) ?_
  refine lv_lsub hx hb dX3_steer_94 ?_
  refine q_last hM hG 6 rfl hi (by decide) (ws1 := (mNet g h N tk dom gr va dr (vp_updL off i ((off i) - ((((off i) - (off q)) + ((((dl (q * 10 + i)) - (dl (i * 10 + q))) - (td (q * 10 + i))) / 2).toInt64) / 2))) (vp_updL rt i ((rt i) - ((((off i) - (off q)) + ((((dl (q * 10 + i)) - (dl (i * 10 + q))) - (td (q * 10 + i))) / 2).toInt64) / 16))) cnt lk dl td K X ds thr)) rfl dX3_steer_95 (fun H locs hG => ?_)
  exact hRet ((vp_updL off i ((off i) - ((((off i) - (off q)) + ((((dl (q * 10 + i)) - (dl (i * 10 + q))) - (td (q * 10 + i))) / 2).toInt64) / 2))), (vp_updL rt i ((rt i) - ((((off i) - (off q)) + ((((dl (q * 10 + i)) - (dl (i * 10 + q))) - (td (q * 10 + i))) / 2).toInt64) / 16)))) _ _ _ _ _ _ (by simp only [stq, lmea, lerr]) hG (Nat.le_of_ble_eq_true rfl) (Nat.le_of_ble_eq_true rfl) dX3_steer_96

set_option maxHeartbeats 4000000 in
set_option maxRecDepth 100000 in
theorem c_X3_asksFor (l : Launch) (g : EN) (h : Nat → Nat) (N : Nat) (tk : Int32) (dom : Nat → Int32) (gr : Nat → Int32) (va : Nat → Int32) (dr : Nat → Int32) (off : Nat → Int64) (rt : Nat → Int64) (cnt : Int32) (lk : Nat → Int32) (dl : Nat → Int32) (td : Nat → Int32) (K : KM) (X : KM) (ds : Nat → Int32) (thr : Int32) (x : Int32) (hN : N ≤ 10)  : Ci l yX3_asksFor wsX3_asksFor ({ frames := 2, cells := 0, slots := 0, locals := 43 }) g [.ref (h 0), .int x] (mNet g h N tk dom gr va dr off rt cnt lk dl td K X ds thr) (fun (r : Int32) (u : Int32) => (r = 1 ∧ u = 0 ∧ okN N x) ∨ (r = 0 ∧ u = 1 ∧ ¬ okN N x)) (fun (u : Int32) => (mNet g h N tk dom gr va dr off rt cnt lk dl td K X ds u)) := by
  refine Cz.of (cc := cX3_asksFor) (maxL := 2) (by decide) rfl (Nat.le_of_ble_eq_true rfl) (fun r u h => h.elim (fun h => Or.inr h.1) (fun h => Or.inl h.1)) ?_
  intro p e s m args below meth c A Q ls hM hG hRet hl
  have hx := hM.1
  have hb := hM.2.1
  have hown := hM.2.2.2.1
  have hts := hM.2.2.2.2
  have wRX3_76 : Cond.fieldLink RX3 76 "TimeNetModel" "thrown" "I" ∈ wsX3_asksFor := by decide +kernel
  have hinX3 : ∀ w ∈ wsX30, w ∈ wsX3_asksFor := by decide +kernel
  have hl : lv_has ls 2 [(0, .ref (h 0)), (1, .int x)] := hl
  refine lv_aload_n hx hb dX3_asksFor_0 rfl (lv_at hl 0 rfl) ?_
  refine lv_aload_n hx hb dX3_asksFor_1 rfl (lv_at hl 0 rfl) ?_
  refine lv_iload_n hx hb dX3_asksFor_2 rfl (lv_at hl 1 rfl) ?_
  refine q_calli (n := 1) (As := [.int x]) (rest := [.ref (h 0)]) hM hl.1 hG (c_X3_isNode l g h N tk dom gr va dr off rt cnt lk dl td K X ds thr x hN) rfl gX3_asksFor_X3_isNode (by decide +kernel) ⟨Nat.le_of_ble_eq_true rfl, Nat.le_of_ble_eq_true rfl⟩ 0 rfl rfl rfl rfl rfl (Nat.le_of_ble_eq_true rfl) dX3_asksFor_3 (c1 := 0) (s1 := 0) rfl rfl ⟨Nat.le_of_ble_eq_true rfl, Nat.le_of_ble_eq_true rfl⟩ (fun r_3 u_3 H locs hp_3 hG => ?_)
  rcases hp_3 with ⟨rfl, hp_3⟩ | ⟨rfl, hp_3⟩
  · obtain ⟨i, hi, rfl⟩ := hp_3
    have hix : i < 10 := by omega
    refine lv_if_eq (tgt := 13) hx hb dX3_asksFor_6 (by decide) (fun c9 => False.elim (by revert c9; decide)) (fun _ => ?_)
    refine lv_iconst (v := 0) hx hb dX3_asksFor_9 (by decide) ?_
    refine lv_goto (tgt := 14) hx hb dX3_asksFor_10 (by decide) ?_
    refine q_put hM hG (C := RX3) (T := TX3) (n := 24) hinX3 tyX3 tyX3_ok nmX3 0 rfl rfl 17 (by decide) wRX3_76 rfl rfl rfl (Nat.le_of_ble_eq_true rfl) (ws1 := (mNet g h N tk dom gr va dr off rt cnt lk dl td K X ds 0)) rfl dX3_asksFor_14 (fun H locs hG => ?_)
    refine lv_aload_n hx hb dX3_asksFor_17 rfl (lv_at hl 0 rfl) ?_
    refine q_get hM hG (C := RX3) (T := TX3) (n := 24) hinX3 0 rfl rfl 17 (by decide) wRX3_76 rfl (v := .int 0) rfl dX3_asksFor_18 ?_
    refine lv_if_ne (tgt := 28) hx hb dX3_asksFor_21 (by decide) (fun c9 => False.elim (by revert c9; decide)) (fun _ => ?_)
    refine lv_iconst (v := 1) hx hb dX3_asksFor_24 (by decide) ?_
    refine lv_goto (tgt := 29) hx hb dX3_asksFor_25 (by decide) ?_
    exact hRet 1 0 _ _ _ _ _ _ (Or.inl ⟨rfl, rfl, ⟨i, hi, rfl⟩⟩) hG (Nat.le_of_ble_eq_true rfl) (Nat.le_of_ble_eq_true rfl) dX3_asksFor_29
  · refine lv_if_eq (tgt := 13) hx hb dX3_asksFor_6 (by decide) (fun _ => ?_) (fun c9 => False.elim (by revert c9; decide))
    refine lv_iconst (v := 1) hx hb dX3_asksFor_13 (by decide) ?_
    refine q_put hM hG (C := RX3) (T := TX3) (n := 24) hinX3 tyX3 tyX3_ok nmX3 0 rfl rfl 17 (by decide) wRX3_76 rfl rfl rfl (Nat.le_of_ble_eq_true rfl) (ws1 := (mNet g h N tk dom gr va dr off rt cnt lk dl td K X ds 1)) rfl dX3_asksFor_14 (fun H locs hG => ?_)
    refine lv_aload_n hx hb dX3_asksFor_17 rfl (lv_at hl 0 rfl) ?_
    refine q_get hM hG (C := RX3) (T := TX3) (n := 24) hinX3 0 rfl rfl 17 (by decide) wRX3_76 rfl (v := .int 1) rfl dX3_asksFor_18 ?_
    refine lv_if_ne (tgt := 28) hx hb dX3_asksFor_21 (by decide) (fun _ => ?_) (fun c9 => False.elim (by revert c9; decide))
    refine lv_iconst (v := 0) hx hb dX3_asksFor_28 (by decide) ?_
    exact hRet 0 1 _ _ _ _ _ _ (Or.inr ⟨rfl, rfl, hp_3⟩) hG (Nat.le_of_ble_eq_true rfl) (Nat.le_of_ble_eq_true rfl) dX3_asksFor_29

set_option maxHeartbeats 4000000 in
set_option maxRecDepth 100000 in
theorem c_X3_layDistances (l : Launch) (g : EN) (h : Nat → Nat) (N : Nat) (tk : Int32) (dom : Nat → Int32) (gr : Nat → Int32) (va : Nat → Int32) (dr : Nat → Int32) (off : Nat → Int64) (rt : Nat → Int64) (cnt : Int32) (lk : Nat → Int32) (dl : Nat → Int32) (td : Nat → Int32) (K : KM) (X : KM) (ds : Nat → Int32) (thr : Int32) (s0 : Nat) (hs : s0 < N) (hN : N ≤ 10) (hlk : b01 lk) (hsy : sym lk)  : Cv l yX3_layDistances wsX3_layDistances ({ frames := 1, cells := 0, slots := 0, locals := 22 }) g [.ref (h 0), .int (nI s0)] (mNet g h N tk dom gr va dr off rt cnt lk dl td K X ds thr) (fun (u : Nat → Int32) => isDist N dom lk s0 u) (fun (u : Nat → Int32) => (mNet g h N tk dom gr va dr off rt cnt lk dl td K X u thr)) := by
  refine Cv.of (cc := cX3_layDistances) (maxL := 5) (by decide) rfl (Nat.le_of_ble_eq_true rfl) ?_
  intro p e s m args below meth c A Q ls hM hG hRet hl
  have hx := hM.1
  have hb := hM.2.1
  have hown := hM.2.2.2.1
  have hts := hM.2.2.2.2
  have wRX3_72 : Cond.fieldLink RX3 72 "TimeNetModel" "nodeMany" "I" ∈ wsX3_layDistances := by decide +kernel
  have wRX3_69 : Cond.fieldLink RX3 69 "TimeNetModel" "distances" "[I" ∈ wsX3_layDistances := by decide +kernel
  have hinX3 : ∀ w ∈ wsX30, w ∈ wsX3_layDistances := by decide +kernel
  have hl : lv_has ls 5 [(0, .ref (h 0)), (1, .int (nI s0))] := hl
  refine lv_iconst (v := 0) hx hb dX3_layDistances_0 (by decide) ?_
  refine lv_istore_n (lv' := [(2, .int 0), (0, .ref (h 0)), (1, .int (nI s0))]) hx hb dX3_layDistances_1 rfl hl (by decide) rfl (fun ls hl => ?_)
  have loop_2 : ∀ (n9 k : Nat) (f1 : Nat → Int32), k ≤ N → N < k + n9 → (∀ j, j < k → (j = s0 → f1 j = 0) ∧ (¬ j = s0 → f1 j = -1)) → ∀ (H : Heap) (locs : List Loc), cC g (mNet g h N tk dom gr va dr off rt cnt lk dl td K X f1 thr) A s H locs → ∀ (ls : Array Slot), lv_has ls 5 [(2, .int (nI k)), (0, .ref (h 0)), (1, .int (nI s0))] → W p l e ({ frames := 1, cells := 0, slots := 0, locals := 22 } : Room) s m args below meth c H locs 0 0 Q (F0 m 2 ls []) := by
    intro n9
    induction n9 with
    | zero => intro k f1 h1 h2; exact absurd h2 (by omega)
    | succ n9 ih_2 =>
      intro k f1 hle_k hlt9 hinv_k H locs hG ls hl
      refine lv_iload_n hx hb dX3_layDistances_2 rfl (lv_at hl 0 rfl) ?_
      refine lv_aload_n hx hb dX3_layDistances_3 rfl (lv_at hl 1 rfl) ?_
      refine q_get hM hG (C := RX3) (T := TX3) (n := 24) hinX3 0 rfl rfl 0 (by decide) wRX3_72 rfl (v := .int (nI N)) rfl dX3_layDistances_4 ?_
      refine lv_icmp_ge (tgt := 32) hx hb dX3_layDistances_7 (by decide) (fun c_7 => ?_) (fun c_7 => ?_)
      · have hk : k = N := by have h9 := ctr_ge (a := k) (b := N) (by omega) (by omega) c_7; omega
        refine lv_iconst (v := 1) hx hb dX3_layDistances_32 (by decide) ?_
        refine lv_istore_n (lv' := [(2, .int 1), (0, .ref (h 0)), (1, .int (nI s0))]) hx hb dX3_layDistances_33 rfl hl (by decide) rfl (fun ls hl => ?_)
        have loop_34 : ∀ (n9 d : Nat) (f2 : Nat → Int32), d ≤ N → N < d + n9 → (isLev N dom lk s0 d f2) → ∀ (H : Heap) (locs : List Loc), cC g (mNet g h N tk dom gr va dr off rt cnt lk dl td K X f2 thr) A s H locs → ∀ (ls : Array Slot), lv_has ls 5 [(2, .int (nI (d + 1))), (0, .ref (h 0)), (1, .int (nI s0))] → W p l e ({ frames := 1, cells := 0, slots := 0, locals := 22 } : Room) s m args below meth c H locs 0 0 Q (F0 m 34 ls []) := by
          intro n9
          induction n9 with
          | zero => intro d f2 h1 h2; exact absurd h2 (by omega)
          | succ n9 ih_34 =>
            intro d f2 hle_d hlt9 hinv_d H locs hG ls hl
            refine lv_iload_n hx hb dX3_layDistances_34 rfl (lv_at hl 0 rfl) ?_
            refine lv_aload_n hx hb dX3_layDistances_35 rfl (lv_at hl 1 rfl) ?_
            refine q_get hM hG (C := RX3) (T := TX3) (n := 24) hinX3 0 rfl rfl 0 (by decide) wRX3_72 rfl (v := .int (nI N)) rfl dX3_layDistances_36 ?_
            refine lv_icmp_ge (tgt := 126) hx hb dX3_layDistances_39 (by decide) (fun c_39 => ?_) (fun c_39 => ?_)
            · have hd : N ≤ d + 1 := ctr_ge (a := d + 1) (b := N) (by omega) (by omega) c_39
              exact hRet f2 _ _ _ _ _ _ (lev_dist hd hinv_d) hG (Nat.le_of_ble_eq_true rfl) (Nat.le_of_ble_eq_true rfl) dX3_layDistances_126
            · have hd : d + 1 < N := ctr_lt (by omega) (by omega) c_39
              refine lv_iconst (v := 0) hx hb dX3_layDistances_42 (by decide) ?_
              refine lv_istore_n (lv' := [(3, .int 0), (2, .int (nI (d + 1))), (0, .ref (h 0)), (1, .int (nI s0))]) hx hb dX3_layDistances_43 rfl hl (by decide) rfl (fun ls hl => ?_)
              have loop_44 : ∀ (n9 a : Nat) (f3 : Nat → Int32), a ≤ N → N < a + n9 → (isParM N dom lk d f2 a f3) → ∀ (H : Heap) (locs : List Loc), cC g (mNet g h N tk dom gr va dr off rt cnt lk dl td K X f3 thr) A s H locs → ∀ (ls : Array Slot), lv_has ls 5 [(3, .int (nI a)), (2, .int (nI (d + 1))), (0, .ref (h 0)), (1, .int (nI s0))] → W p l e ({ frames := 1, cells := 0, slots := 0, locals := 22 } : Room) s m args below meth c H locs 0 0 Q (F0 m 44 ls []) := by
                intro n9
                induction n9 with
                | zero => intro a f3 h1 h2; exact absurd h2 (by omega)
                | succ n9 ih_44 =>
                  intro a f3 hle_a hlt9 hinv_a H locs hG ls hl
                  refine lv_iload_n hx hb dX3_layDistances_44 rfl (lv_at hl 0 rfl) ?_
                  refine lv_aload_n hx hb dX3_layDistances_45 rfl (lv_at hl 2 rfl) ?_
                  refine q_get hM hG (C := RX3) (T := TX3) (n := 24) hinX3 0 rfl rfl 0 (by decide) wRX3_72 rfl (v := .int (nI N)) rfl dX3_layDistances_46 ?_
                  refine lv_icmp_ge (tgt := 120) hx hb dX3_layDistances_49 (by decide) (fun c_49 => ?_) (fun c_49 => ?_)
                  · have ha : a = N := by have h9 := ctr_ge (a := a) (b := N) (by omega) (by omega) c_49; omega
                    refine lv_iinc (v := (nI (d + 1 + 1))) (lv' := [(2, .int (nI (d + 1 + 1))), (3, .int (nI a)), (0, .ref (h 0)), (1, .int (nI s0))]) hx hb dX3_layDistances_120 hl (k := 1) rfl (nI_1 (d + 1)) (by decide) rfl (fun ls hl => ?_)
                    refine lv_goto (tgt := 34) hx hb dX3_layDistances_123 (by decide) ?_
                    exact ih_34 (d + 1) f3 (by omega) (by omega) (isLev_s (by omega) hinv_d (isPar_ofM hN hsy (by rw [ha] at hinv_a; exact hinv_a))) _ _ hG _ (lv_sub hl [0, 2, 3] rfl)
                  · have ha : a < N := ctr_lt (by omega) (by omega) c_49
                    have hax : a < 10 := by omega
                    refine lv_iconst (v := 0) hx hb dX3_layDistances_52 (by decide) ?_
                    refine lv_istore (lv' := [(4, .int 0), (3, .int (nI a)), (2, .int (nI (d + 1))), (0, .ref (h 0)), (1, .int (nI s0))]) hx hb dX3_layDistances_53 hl (by decide) rfl (fun ls hl => ?_)
                    have loop_55 : ∀ (n9 z : Nat) (f4 : Nat → Int32), z ≤ N → N < z + n9 → (isInn N dom lk d a f3 z f4) → ∀ (H : Heap) (locs : List Loc), cC g (mNet g h N tk dom gr va dr off rt cnt lk dl td K X f4 thr) A s H locs → ∀ (ls : Array Slot), lv_has ls 5 [(4, .int (nI z)), (3, .int (nI a)), (2, .int (nI (d + 1))), (0, .ref (h 0)), (1, .int (nI s0))] → W p l e ({ frames := 1, cells := 0, slots := 0, locals := 22 } : Room) s m args below meth c H locs 0 0 Q (F0 m 55 ls []) := by
                      intro n9
                      induction n9 with
                      | zero => intro z f4 h1 h2; exact absurd h2 (by omega)
                      | succ n9 ih_55 =>
                        intro z f4 hle_z hlt9 hinv_z H locs hG ls hl
                        refine lv_iload hx hb dX3_layDistances_55 (lv_at hl 0 rfl) ?_
                        refine lv_aload_n hx hb dX3_layDistances_57 rfl (lv_at hl 3 rfl) ?_
                        refine q_get hM hG (C := RX3) (T := TX3) (n := 24) hinX3 0 rfl rfl 0 (by decide) wRX3_72 rfl (v := .int (nI N)) rfl dX3_layDistances_58 ?_
                        refine lv_icmp_ge (tgt := 114) hx hb dX3_layDistances_61 (by decide) (fun c_61 => ?_) (fun c_61 => ?_)
                        · have hz : z = N := by have h9 := ctr_ge (a := z) (b := N) (by omega) (by omega) c_61; omega
                          refine lv_iinc (v := (nI (a + 1))) (lv' := [(3, .int (nI (a + 1))), (4, .int (nI z)), (2, .int (nI (d + 1))), (0, .ref (h 0)), (1, .int (nI s0))]) hx hb dX3_layDistances_114 hl (k := 1) rfl (nI_1 a) (by decide) rfl (fun ls hl => ?_)
                          refine lv_goto (tgt := 44) hx hb dX3_layDistances_117 (by decide) ?_
                          exact ih_44 (a + 1) f4 (by omega) (by omega) (isParM_s (by omega) ha hinv_a hinv_z (Or.inl hz)) _ _ hG _ (lv_sub hl [0, 2, 3, 4] rfl)
                        · have hz : z < N := ctr_lt (by omega) (by omega) c_61
                          have hzx : z < 10 := by omega
                          refine lv_aload_n hx hb dX3_layDistances_64 rfl (lv_at hl 3 rfl) ?_
                          refine q_get hM hG (C := RX3) (T := TX3) (n := 24) hinX3 0 rfl rfl 23 (by decide) wRX3_69 rfl (v := .ref (h 20)) rfl dX3_layDistances_65 ?_
                          refine lv_iload_n hx hb dX3_layDistances_68 rfl (lv_at hl 1 rfl) ?_
                          refine q_iald hM hG 20 rfl hax (by decide) dX3_layDistances_69 ?_
                          refine lv_iconst (v := (-1)) hx hb dX3_layDistances_70 (by decide) ?_
                          refine lv_icmp_ne (tgt := 114) hx hb dX3_layDistances_71 (by decide) (fun c_71 => ?_) (fun c_71 => ?_)
                          · refine lv_iinc (v := (nI (a + 1))) (lv' := [(3, .int (nI (a + 1))), (4, .int (nI z)), (2, .int (nI (d + 1))), (0, .ref (h 0)), (1, .int (nI s0))]) hx hb dX3_layDistances_114 hl (k := 1) rfl (nI_1 a) (by decide) rfl (fun ls hl => ?_)
                            refine lv_goto (tgt := 44) hx hb dX3_layDistances_117 (by decide) ?_
                            exact ih_44 (a + 1) f4 (by omega) (by omega) (isParM_s (by omega) ha hinv_a hinv_z (Or.inr c_71)) _ _ hG _ (lv_sub hl [0, 2, 3, 4] rfl)
                          · refine lv_aload_n hx hb dX3_layDistances_74 rfl (lv_at hl 3 rfl) ?_
                            refine q_get hM hG (C := RX3) (T := TX3) (n := 24) hinX3 0 rfl rfl 23 (by decide) wRX3_69 rfl (v := .ref (h 20)) rfl dX3_layDistances_75 ?_
                            refine lv_iload_n hx hb dX3_layDistances_78 rfl (lv_at hl 1 rfl) ?_
                            refine lv_aload_n hx hb dX3_layDistances_79 rfl (lv_at hl 3 rfl) ?_
                            refine q_get hM hG (C := RX3) (T := TX3) (n := 24) hinX3 0 rfl rfl 23 (by decide) wRX3_69 rfl (v := .ref (h 20)) rfl dX3_layDistances_80 ?_
                            refine lv_iload hx hb dX3_layDistances_83 (lv_at hl 0 rfl) ?_
                            refine q_iald hM hG 20 rfl hzx (by decide) dX3_layDistances_85 ?_
                            refine lv_iload_n hx hb dX3_layDistances_86 rfl (lv_at hl 2 rfl) ?_
                            refine lv_iconst (v := 1) hx hb dX3_layDistances_87 (by decide) ?_
                            refine lv_isub hx hb dX3_layDistances_88 ?_
                            refine q_ren (nI_pred d) ?_
                            refine lv_icmp_ne (tgt := 106) hx hb dX3_layDistances_89 (by decide) (fun c_89 => ?_) (fun c_89 => ?_)
                            · refine lv_iconst (v := (-1)) hx hb dX3_layDistances_106 (by decide) ?_
                              refine q_iast hM hG 20 rfl hax (by decide) (ws1 := (mNet g h N tk dom gr va dr off rt cnt lk dl td K X (upd f4 a (-1 : Int32)) thr)) rfl dX3_layDistances_107 (fun H locs hG => ?_)
                              refine lv_iinc (v := (nI (z + 1))) (lv' := [(4, .int (nI (z + 1))), (3, .int (nI a)), (2, .int (nI (d + 1))), (0, .ref (h 0)), (1, .int (nI s0))]) hx hb dX3_layDistances_108 hl (k := 0) rfl (nI_1 z) (by decide) rfl (fun ls hl => ?_)
                              refine lv_goto (tgt := 55) hx hb dX3_layDistances_111 (by decide) ?_
                              exact ih_55 (z + 1) (upd f4 a (-1 : Int32)) (by omega) (by omega) (isInn_no (by omega) hz hinv_z c_71 (fun h9 => c_89 h9.1)) _ _ hG _ (lv_sub hl [0, 1, 2, 3, 4] rfl)
                            · refine lv_aload_n hx hb dX3_layDistances_92 rfl (lv_at hl 3 rfl) ?_
                              refine lv_iload_n hx hb dX3_layDistances_93 rfl (lv_at hl 1 rfl) ?_
                              refine lv_iload hx hb dX3_layDistances_94 (lv_at hl 0 rfl) ?_
                              refine q_calli (n := 2) (As := [.int (nI a), .int (nI z)]) (rest := [.int (nI a), .ref (h 20)]) hM hl.1 hG (c_X3_areNeighbours l g h N tk dom gr va dr off rt cnt lk dl td K X f4 thr a z hax hzx hlk) rfl gX3_layDistances_X3_areNeighbours (by decide +kernel) ⟨Nat.le_of_ble_eq_true rfl, Nat.le_of_ble_eq_true rfl⟩ 0 rfl rfl rfl rfl rfl (Nat.le_of_ble_eq_true rfl) dX3_layDistances_96 (c1 := 0) (s1 := 0) rfl rfl ⟨Nat.le_of_ble_eq_true rfl, Nat.le_of_ble_eq_true rfl⟩ (fun r_96 u_96 H locs hp_96 hG => ?_)
                              rcases hp_96 with ⟨rfl, hp_96⟩ | ⟨rfl, hp_96⟩
                              · refine lv_if_eq (tgt := 106) hx hb dX3_layDistances_99 (by decide) (fun c9 => False.elim (by revert c9; decide)) (fun _ => ?_)
                                refine lv_iload_n hx hb dX3_layDistances_102 rfl (lv_at hl 2 rfl) ?_
                                refine lv_goto (tgt := 107) hx hb dX3_layDistances_103 (by decide) ?_
                                refine q_iast hM hG 20 rfl hax (by decide) (ws1 := (mNet g h N tk dom gr va dr off rt cnt lk dl td K X (upd f4 a (nI (d + 1))) thr)) rfl dX3_layDistances_107 (fun H locs hG => ?_)
                                refine lv_iinc (v := (nI (z + 1))) (lv' := [(4, .int (nI (z + 1))), (3, .int (nI a)), (2, .int (nI (d + 1))), (0, .ref (h 0)), (1, .int (nI s0))]) hx hb dX3_layDistances_108 hl (k := 0) rfl (nI_1 z) (by decide) rfl (fun ls hl => ?_)
                                refine lv_goto (tgt := 55) hx hb dX3_layDistances_111 (by decide) ?_
                                exact ih_55 (z + 1) (upd f4 a (nI (d + 1))) (by omega) (by omega) (isInn_yes (by omega) hz hinv_z c_71 c_89 hp_96) _ _ hG _ (lv_sub hl [0, 1, 2, 3, 4] rfl)
                              · refine lv_if_eq (tgt := 106) hx hb dX3_layDistances_99 (by decide) (fun _ => ?_) (fun c9 => False.elim (by revert c9; decide))
                                refine lv_iconst (v := (-1)) hx hb dX3_layDistances_106 (by decide) ?_
                                refine q_iast hM hG 20 rfl hax (by decide) (ws1 := (mNet g h N tk dom gr va dr off rt cnt lk dl td K X (upd f4 a (-1 : Int32)) thr)) rfl dX3_layDistances_107 (fun H locs hG => ?_)
                                refine lv_iinc (v := (nI (z + 1))) (lv' := [(4, .int (nI (z + 1))), (3, .int (nI a)), (2, .int (nI (d + 1))), (0, .ref (h 0)), (1, .int (nI s0))]) hx hb dX3_layDistances_108 hl (k := 0) rfl (nI_1 z) (by decide) rfl (fun ls hl => ?_)
                                refine lv_goto (tgt := 55) hx hb dX3_layDistances_111 (by decide) ?_
                                exact ih_55 (z + 1) (upd f4 a (-1 : Int32)) (by omega) (by omega) (isInn_no (by omega) hz hinv_z c_71 (fun h9 => hp_96 h9.2)) _ _ hG _ (lv_sub hl [0, 1, 2, 3, 4] rfl)
                    exact loop_55 (N + 1) 0 f3 (by omega) (by omega) isInn_0 _ _ hG _ (lv_sub hl [0, 1, 2, 3, 4] rfl)
              exact loop_44 (N + 1) 0 f2 (by omega) (by omega) isParM_0 _ _ hG _ (lv_sub hl [0, 1, 2, 3] rfl)
        exact loop_34 (N + 1) 0 f1 (by omega) (by omega) (isLev_M0 (by rw [hk] at hinv_k; exact hinv_k)) _ _ hG _ (lv_sub hl [0, 1, 2] rfl)
      · have hk : k < N := ctr_lt (by omega) (by omega) c_7
        have hkx : k < 10 := by omega
        refine lv_aload_n hx hb dX3_layDistances_10 rfl (lv_at hl 1 rfl) ?_
        refine q_get hM hG (C := RX3) (T := TX3) (n := 24) hinX3 0 rfl rfl 23 (by decide) wRX3_69 rfl (v := .ref (h 20)) rfl dX3_layDistances_11 ?_
        refine lv_iload_n hx hb dX3_layDistances_14 rfl (lv_at hl 0 rfl) ?_
        refine lv_iload_n hx hb dX3_layDistances_15 rfl (lv_at hl 0 rfl) ?_
        refine lv_iload_n hx hb dX3_layDistances_16 rfl (lv_at hl 2 rfl) ?_
        refine lv_icmp_ne (tgt := 24) hx hb dX3_layDistances_17 (by decide) (fun c_17 => ?_) (fun c_17 => ?_)
        · refine lv_iconst (v := (-1)) hx hb dX3_layDistances_24 (by decide) ?_
          refine q_iast hM hG 20 rfl hkx (by decide) (ws1 := (mNet g h N tk dom gr va dr off rt cnt lk dl td K X (upd f1 k (-1 : Int32)) thr)) rfl dX3_layDistances_25 (fun H locs hG => ?_)
          refine lv_iinc (v := (nI (k + 1))) (lv' := [(2, .int (nI (k + 1))), (0, .ref (h 0)), (1, .int (nI s0))]) hx hb dX3_layDistances_26 hl (k := 0) rfl (nI_1 k) (by decide) rfl (fun ls hl => ?_)
          refine lv_goto (tgt := 2) hx hb dX3_layDistances_29 (by decide) ?_
          exact ih_2 (k + 1) (upd f1 k (-1 : Int32)) (by omega) (by omega) (fun j h9 => by by_cases e9 : j = k; (subst e9; rw [pk_us]; exact ⟨fun h8 => absurd (congrArg nI h8) c_17, fun h8 => rfl⟩); (rw [pk_un e9]; exact hinv_k j (by omega))) _ _ hG _ (lv_sub hl [0, 1, 2] rfl)
        · refine lv_iconst (v := 0) hx hb dX3_layDistances_20 (by decide) ?_
          refine lv_goto (tgt := 25) hx hb dX3_layDistances_21 (by decide) ?_
          refine q_iast hM hG 20 rfl hkx (by decide) (ws1 := (mNet g h N tk dom gr va dr off rt cnt lk dl td K X (upd f1 k 0) thr)) rfl dX3_layDistances_25 (fun H locs hG => ?_)
          refine lv_iinc (v := (nI (k + 1))) (lv' := [(2, .int (nI (k + 1))), (0, .ref (h 0)), (1, .int (nI s0))]) hx hb dX3_layDistances_26 hl (k := 0) rfl (nI_1 k) (by decide) rfl (fun ls hl => ?_)
          refine lv_goto (tgt := 2) hx hb dX3_layDistances_29 (by decide) ?_
          exact ih_2 (k + 1) (upd f1 k 0) (by omega) (by omega) (fun j h9 => by by_cases e9 : j = k; (subst e9; rw [pk_us]; exact ⟨fun h8 => rfl, fun h8 => absurd ((nI_eq (by omega) (by omega)).mp c_17) h8⟩); (rw [pk_un e9]; exact hinv_k j (by omega))) _ _ hG _ (lv_sub hl [0, 1, 2] rfl)
  exact loop_2 (N + 1) 0 ds (by omega) (by omega) (fun j h9 => absurd h9 (Nat.not_lt_zero _)) _ _ hG _ (lv_sub hl [0, 1, 2] rfl)

set_option maxHeartbeats 4000000 in
set_option maxRecDepth 100000 in
theorem c_X3_bestReached (l : Launch) (g : EN) (h : Nat → Nat) (N : Nat) (tk : Int32) (dom : Nat → Int32) (gr : Nat → Int32) (va : Nat → Int32) (dr : Nat → Int32) (off : Nat → Int64) (rt : Nat → Int64) (cnt : Int32) (lk : Nat → Int32) (dl : Nat → Int32) (td : Nat → Int32) (K : KM) (X : KM) (ds : Nat → Int32) (thr : Int32) (s0 : Nat) (hs : s0 < N) (hN : N ≤ 10) (hlk : b01 lk) (hsy : sym lk) (hg : rng gr va)  : Ci l yX3_bestReached wsX3_bestReached ({ frames := 2, cells := 0, slots := 0, locals := 46 }) g [.ref (h 0), .int (nI s0)] (mNet g h N tk dom gr va dr off rt cnt lk dl td K X ds thr) (fun (r : Int32) (u : (Nat → Int32) × Nat) => r = nI u.2 ∧ isDist N dom lk s0 u.1 ∧ isBest N gr va u.1 u.2) (fun (u : (Nat → Int32) × Nat) => (mNet g h N tk dom gr va dr off rt cnt lk dl td K X u.1 thr)) := by
  refine Ci.of (cc := cX3_bestReached) (maxL := 7) (by decide) rfl (Nat.le_of_ble_eq_true rfl) ?_
  intro p e s m args below meth c A Q ls hM hG hRet hl
  have hx := hM.1
  have hb := hM.2.1
  have hown := hM.2.2.2.1
  have hts := hM.2.2.2.2
  have wRX3_72 : Cond.fieldLink RX3 72 "TimeNetModel" "nodeMany" "I" ∈ wsX3_bestReached := by decide +kernel
  have wRX3_13 : Cond.fieldLink RX3 13 "TimeNetModel" "grades" "[I" ∈ wsX3_bestReached := by decide +kernel
  have wRX3_16 : Cond.fieldLink RX3 16 "TimeNetModel" "variances" "[I" ∈ wsX3_bestReached := by decide +kernel
  have wRX3_69 : Cond.fieldLink RX3 69 "TimeNetModel" "distances" "[I" ∈ wsX3_bestReached := by decide +kernel
  have hinX3 : ∀ w ∈ wsX30, w ∈ wsX3_bestReached := by decide +kernel
  have hl : lv_has ls 7 [(0, .ref (h 0)), (1, .int (nI s0))] := hl
  refine lv_aload_n hx hb dX3_bestReached_0 rfl (lv_at hl 0 rfl) ?_
  refine lv_iload_n hx hb dX3_bestReached_1 rfl (lv_at hl 1 rfl) ?_
  refine q_callv (n := 1) (As := [.int (nI s0)]) (rest := []) hM hl.1 hG (c_X3_layDistances l g h N tk dom gr va dr off rt cnt lk dl td K X ds thr s0 hs hN hlk hsy) rfl gX3_bestReached_X3_layDistances (by decide +kernel) ⟨Nat.le_of_ble_eq_true rfl, Nat.le_of_ble_eq_true rfl⟩ 0 rfl rfl rfl rfl rfl (Nat.le_of_ble_eq_true rfl) dX3_bestReached_2 (c1 := 0) (s1 := 0) rfl rfl ⟨Nat.le_of_ble_eq_true rfl, Nat.le_of_ble_eq_true rfl⟩ (fun u_2 H locs hp_2 hG => ?_)
  refine lv_iload_n hx hb dX3_bestReached_5 rfl (lv_at hl 1 rfl) ?_
  refine lv_istore_n (lv' := [(2, .int (nI s0)), (0, .ref (h 0)), (1, .int (nI s0))]) hx hb dX3_bestReached_6 rfl hl (by decide) rfl (fun ls hl => ?_)
  refine lv_iconst (v := 0) hx hb dX3_bestReached_7 (by decide) ?_
  refine lv_istore_n (lv' := [(3, .int 0), (2, .int (nI s0)), (0, .ref (h 0)), (1, .int (nI s0))]) hx hb dX3_bestReached_8 rfl hl (by decide) rfl (fun ls hl => ?_)
  have loop_9 : ∀ (n9 k : Nat) (w : Nat), k ≤ N → N < k + n9 → (bestTo gr va u_2 N k w) → ∀ (H : Heap) (locs : List Loc), cC g (mNet g h N tk dom gr va dr off rt cnt lk dl td K X u_2 thr) A s H locs → ∀ (ls : Array Slot), lv_has ls 7 [(3, .int (nI k)), (2, .int (nI w)), (0, .ref (h 0)), (1, .int (nI s0))] → W p l e ({ frames := 2, cells := 0, slots := 0, locals := 46 } : Room) s m args below meth c H locs 0 0 Q (F0 m 9 ls []) := by
    intro n9
    induction n9 with
    | zero => intro k w h1 h2; exact absurd h2 (by omega)
    | succ n9 ih_9 =>
      intro k w hle_k hlt9 hinv_k H locs hG ls hl
      refine lv_iload_n hx hb dX3_bestReached_9 rfl (lv_at hl 0 rfl) ?_
      refine lv_aload_n hx hb dX3_bestReached_10 rfl (lv_at hl 2 rfl) ?_
      refine q_get hM hG (C := RX3) (T := TX3) (n := 24) hinX3 0 rfl rfl 0 (by decide) wRX3_72 rfl (v := .int (nI N)) rfl dX3_bestReached_11 ?_
      refine lv_icmp_ge (tgt := 106) hx hb dX3_bestReached_14 (by decide) (fun c_14 => ?_) (fun c_14 => ?_)
      · have hk : k = N := by have h9 := ctr_ge (a := k) (b := N) (by omega) (by omega) c_14; omega
        refine lv_iload_n hx hb dX3_bestReached_106 rfl (lv_at hl 1 rfl) ?_
        exact hRet (nI w) (u_2, w) _ _ _ _ _ _ (⟨rfl, hp_2, by rw [hk] at hinv_k; exact hinv_k⟩) hG (Nat.le_of_ble_eq_true rfl) (Nat.le_of_ble_eq_true rfl) dX3_bestReached_107
      · have hk : k < N := ctr_lt (by omega) (by omega) c_14
        have hkx : k < 10 := by omega
        refine lv_aload_n hx hb dX3_bestReached_17 rfl (lv_at hl 2 rfl) ?_
        refine q_get hM hG (C := RX3) (T := TX3) (n := 24) hinX3 0 rfl rfl 3 (by decide) wRX3_13 rfl (v := .ref (h 2)) rfl dX3_bestReached_18 ?_
        refine lv_iload_n hx hb dX3_bestReached_21 rfl (lv_at hl 0 rfl) ?_
        refine q_iald hM hG 2 rfl hkx (by decide) dX3_bestReached_22 ?_
        refine lv_aload_n hx hb dX3_bestReached_23 rfl (lv_at hl 2 rfl) ?_
        refine q_get hM hG (C := RX3) (T := TX3) (n := 24) hinX3 0 rfl rfl 3 (by decide) wRX3_13 rfl (v := .ref (h 2)) rfl dX3_bestReached_24 ?_
        refine lv_iload_n hx hb dX3_bestReached_27 rfl (lv_at hl 1 rfl) ?_
        refine q_iald hM hG 2 rfl (by have h9 := hinv_k.1; omega) (by decide) dX3_bestReached_28 ?_
        refine lv_isub hx hb dX3_bestReached_29 ?_
        refine lv_istore (lv' := [(4, .int ((gr k) - (gr w))), (3, .int (nI k)), (2, .int (nI w)), (0, .ref (h 0)), (1, .int (nI s0))]) hx hb dX3_bestReached_30 hl (by decide) rfl (fun ls hl => ?_)
        refine lv_aload_n hx hb dX3_bestReached_32 rfl (lv_at hl 3 rfl) ?_
        refine q_get hM hG (C := RX3) (T := TX3) (n := 24) hinX3 0 rfl rfl 4 (by decide) wRX3_16 rfl (v := .ref (h 3)) rfl dX3_bestReached_33 ?_
        refine lv_iload_n hx hb dX3_bestReached_36 rfl (lv_at hl 1 rfl) ?_
        refine q_iald hM hG 3 rfl hkx (by decide) dX3_bestReached_37 ?_
        refine lv_aload_n hx hb dX3_bestReached_38 rfl (lv_at hl 3 rfl) ?_
        refine q_get hM hG (C := RX3) (T := TX3) (n := 24) hinX3 0 rfl rfl 4 (by decide) wRX3_16 rfl (v := .ref (h 3)) rfl dX3_bestReached_39 ?_
        refine lv_iload_n hx hb dX3_bestReached_42 rfl (lv_at hl 2 rfl) ?_
        refine q_iald hM hG 3 rfl (by have h9 := hinv_k.1; omega) (by decide) dX3_bestReached_43 ?_
        refine lv_isub hx hb dX3_bestReached_44 ?_
        refine lv_istore (lv' := [(5, .int ((va k) - (va w))), (4, .int ((gr k) - (gr w))), (3, .int (nI k)), (2, .int (nI w)), (0, .ref (h 0)), (1, .int (nI s0))]) hx hb dX3_bestReached_45 hl (by decide) rfl (fun ls hl => ?_)
        refine lv_iload hx hb dX3_bestReached_47 (lv_at hl 1 rfl) ?_
        refine lv_if_lt (tgt := 72) hx hb dX3_bestReached_49 (by decide) (fun c_49 => ?_) (fun c_49 => ?_)
        · refine lv_iconst (v := 1) hx hb dX3_bestReached_72 (by decide) ?_
          refine lv_goto (tgt := 77) hx hb dX3_bestReached_73 (by decide) ?_
          refine lv_istore (lv' := [(6, .int 1), (5, .int ((va k) - (va w))), (4, .int ((gr k) - (gr w))), (3, .int (nI k)), (2, .int (nI w)), (0, .ref (h 0)), (1, .int (nI s0))]) hx hb dX3_bestReached_77 hl (by decide) rfl (fun ls hl => ?_)
          refine lv_aload_n hx hb dX3_bestReached_79 rfl (lv_at hl 5 rfl) ?_
          refine q_get hM hG (C := RX3) (T := TX3) (n := 24) hinX3 0 rfl rfl 23 (by decide) wRX3_69 rfl (v := .ref (h 20)) rfl dX3_bestReached_80 ?_
          refine lv_iload_n hx hb dX3_bestReached_83 rfl (lv_at hl 3 rfl) ?_
          refine q_iald hM hG 20 rfl hkx (by decide) dX3_bestReached_84 ?_
          refine lv_iconst (v := (-1)) hx hb dX3_bestReached_85 (by decide) ?_
          refine lv_icmp_eq (tgt := 98) hx hb dX3_bestReached_86 (by decide) (fun c_86 => ?_) (fun c_86 => ?_)
          · refine lv_iload_n hx hb dX3_bestReached_98 rfl (lv_at hl 4 rfl) ?_
            refine lv_istore_n (lv' := [(2, .int (nI w)), (6, .int 1), (5, .int ((va k) - (va w))), (4, .int ((gr k) - (gr w))), (3, .int (nI k)), (0, .ref (h 0)), (1, .int (nI s0))]) hx hb dX3_bestReached_99 rfl hl (by decide) rfl (fun ls hl => ?_)
            refine lv_iinc (v := (nI (k + 1))) (lv' := [(3, .int (nI (k + 1))), (2, .int (nI w)), (6, .int 1), (5, .int ((va k) - (va w))), (4, .int ((gr k) - (gr w))), (0, .ref (h 0)), (1, .int (nI s0))]) hx hb dX3_bestReached_100 hl (k := 4) rfl (nI_1 k) (by decide) rfl (fun ls hl => ?_)
            refine lv_goto (tgt := 9) hx hb dX3_bestReached_103 (by decide) ?_
            exact ih_9 (k + 1) w (by omega) (by omega) (bestTo_skip hinv_k (Or.inl c_86)) _ _ hG _ (lv_sub hl [0, 1, 5, 6] rfl)
          · refine lv_iload hx hb dX3_bestReached_89 (lv_at hl 0 rfl) ?_
            refine lv_if_eq (tgt := 98) hx hb dX3_bestReached_91 (by decide) (fun c9 => False.elim (by revert c9; decide)) (fun _ => ?_)
            refine lv_iload_n hx hb dX3_bestReached_94 rfl (lv_at hl 3 rfl) ?_
            refine lv_goto (tgt := 99) hx hb dX3_bestReached_95 (by decide) ?_
            refine lv_istore_n (lv' := [(2, .int (nI k)), (6, .int 1), (5, .int ((va k) - (va w))), (4, .int ((gr k) - (gr w))), (3, .int (nI k)), (0, .ref (h 0)), (1, .int (nI s0))]) hx hb dX3_bestReached_99 rfl hl (by decide) rfl (fun ls hl => ?_)
            refine lv_iinc (v := (nI (k + 1))) (lv' := [(3, .int (nI (k + 1))), (2, .int (nI k)), (6, .int 1), (5, .int ((va k) - (va w))), (4, .int ((gr k) - (gr w))), (0, .ref (h 0)), (1, .int (nI s0))]) hx hb dX3_bestReached_100 hl (k := 4) rfl (nI_1 k) (by decide) rfl (fun ls hl => ?_)
            refine lv_goto (tgt := 9) hx hb dX3_bestReached_103 (by decide) ?_
            exact ih_9 (k + 1) k (by omega) (by omega) (bestTo_take hN hk hg hinv_k c_86 (Or.inl ((gr_lt hg k w).mp c_49))) _ _ hG _ (lv_sub hl [0, 1, 5, 6] rfl)
        · refine lv_iload hx hb dX3_bestReached_52 (lv_at hl 1 rfl) ?_
          refine lv_if_ne (tgt := 76) hx hb dX3_bestReached_54 (by decide) (fun c_54 => ?_) (fun c_54 => ?_)
          · refine lv_iconst (v := 0) hx hb dX3_bestReached_76 (by decide) ?_
            refine lv_istore (lv' := [(6, .int 0), (5, .int ((va k) - (va w))), (4, .int ((gr k) - (gr w))), (3, .int (nI k)), (2, .int (nI w)), (0, .ref (h 0)), (1, .int (nI s0))]) hx hb dX3_bestReached_77 hl (by decide) rfl (fun ls hl => ?_)
            refine lv_aload_n hx hb dX3_bestReached_79 rfl (lv_at hl 5 rfl) ?_
            refine q_get hM hG (C := RX3) (T := TX3) (n := 24) hinX3 0 rfl rfl 23 (by decide) wRX3_69 rfl (v := .ref (h 20)) rfl dX3_bestReached_80 ?_
            refine lv_iload_n hx hb dX3_bestReached_83 rfl (lv_at hl 3 rfl) ?_
            refine q_iald hM hG 20 rfl hkx (by decide) dX3_bestReached_84 ?_
            refine lv_iconst (v := (-1)) hx hb dX3_bestReached_85 (by decide) ?_
            refine lv_icmp_eq (tgt := 98) hx hb dX3_bestReached_86 (by decide) (fun c_86 => ?_) (fun c_86 => ?_)
            · refine lv_iload_n hx hb dX3_bestReached_98 rfl (lv_at hl 4 rfl) ?_
              refine lv_istore_n (lv' := [(2, .int (nI w)), (6, .int 0), (5, .int ((va k) - (va w))), (4, .int ((gr k) - (gr w))), (3, .int (nI k)), (0, .ref (h 0)), (1, .int (nI s0))]) hx hb dX3_bestReached_99 rfl hl (by decide) rfl (fun ls hl => ?_)
              refine lv_iinc (v := (nI (k + 1))) (lv' := [(3, .int (nI (k + 1))), (2, .int (nI w)), (6, .int 0), (5, .int ((va k) - (va w))), (4, .int ((gr k) - (gr w))), (0, .ref (h 0)), (1, .int (nI s0))]) hx hb dX3_bestReached_100 hl (k := 4) rfl (nI_1 k) (by decide) rfl (fun ls hl => ?_)
              refine lv_goto (tgt := 9) hx hb dX3_bestReached_103 (by decide) ?_
              exact ih_9 (k + 1) w (by omega) (by omega) (bestTo_skip hinv_k (Or.inl c_86)) _ _ hG _ (lv_sub hl [0, 1, 5, 6] rfl)
            · refine lv_iload hx hb dX3_bestReached_89 (lv_at hl 0 rfl) ?_
              refine lv_if_eq (tgt := 98) hx hb dX3_bestReached_91 (by decide) (fun _ => ?_) (fun c9 => False.elim (by revert c9; decide))
              refine lv_iload_n hx hb dX3_bestReached_98 rfl (lv_at hl 4 rfl) ?_
              refine lv_istore_n (lv' := [(2, .int (nI w)), (6, .int 0), (5, .int ((va k) - (va w))), (4, .int ((gr k) - (gr w))), (3, .int (nI k)), (0, .ref (h 0)), (1, .int (nI s0))]) hx hb dX3_bestReached_99 rfl hl (by decide) rfl (fun ls hl => ?_)
              refine lv_iinc (v := (nI (k + 1))) (lv' := [(3, .int (nI (k + 1))), (2, .int (nI w)), (6, .int 0), (5, .int ((va k) - (va w))), (4, .int ((gr k) - (gr w))), (0, .ref (h 0)), (1, .int (nI s0))]) hx hb dX3_bestReached_100 hl (k := 4) rfl (nI_1 k) (by decide) rfl (fun ls hl => ?_)
              refine lv_goto (tgt := 9) hx hb dX3_bestReached_103 (by decide) ?_
              exact ih_9 (k + 1) w (by omega) (by omega) (bestTo_skip hinv_k (Or.inr (fun h9 => h9.elim (fun h8 => c_49 ((gr_lt hg k w).mpr h8)) (fun h8 => c_54 ((gr_eq hg k w).mpr h8.1))))) _ _ hG _ (lv_sub hl [0, 1, 5, 6] rfl)
          · refine lv_iload hx hb dX3_bestReached_57 (lv_at hl 0 rfl) ?_
            refine lv_if_lt (tgt := 72) hx hb dX3_bestReached_59 (by decide) (fun c_59 => ?_) (fun c_59 => ?_)
            · refine lv_iconst (v := 1) hx hb dX3_bestReached_72 (by decide) ?_
              refine lv_goto (tgt := 77) hx hb dX3_bestReached_73 (by decide) ?_
              refine lv_istore (lv' := [(6, .int 1), (5, .int ((va k) - (va w))), (4, .int ((gr k) - (gr w))), (3, .int (nI k)), (2, .int (nI w)), (0, .ref (h 0)), (1, .int (nI s0))]) hx hb dX3_bestReached_77 hl (by decide) rfl (fun ls hl => ?_)
              refine lv_aload_n hx hb dX3_bestReached_79 rfl (lv_at hl 5 rfl) ?_
              refine q_get hM hG (C := RX3) (T := TX3) (n := 24) hinX3 0 rfl rfl 23 (by decide) wRX3_69 rfl (v := .ref (h 20)) rfl dX3_bestReached_80 ?_
              refine lv_iload_n hx hb dX3_bestReached_83 rfl (lv_at hl 3 rfl) ?_
              refine q_iald hM hG 20 rfl hkx (by decide) dX3_bestReached_84 ?_
              refine lv_iconst (v := (-1)) hx hb dX3_bestReached_85 (by decide) ?_
              refine lv_icmp_eq (tgt := 98) hx hb dX3_bestReached_86 (by decide) (fun c_86 => ?_) (fun c_86 => ?_)
              · refine lv_iload_n hx hb dX3_bestReached_98 rfl (lv_at hl 4 rfl) ?_
                refine lv_istore_n (lv' := [(2, .int (nI w)), (6, .int 1), (5, .int ((va k) - (va w))), (4, .int ((gr k) - (gr w))), (3, .int (nI k)), (0, .ref (h 0)), (1, .int (nI s0))]) hx hb dX3_bestReached_99 rfl hl (by decide) rfl (fun ls hl => ?_)
                refine lv_iinc (v := (nI (k + 1))) (lv' := [(3, .int (nI (k + 1))), (2, .int (nI w)), (6, .int 1), (5, .int ((va k) - (va w))), (4, .int ((gr k) - (gr w))), (0, .ref (h 0)), (1, .int (nI s0))]) hx hb dX3_bestReached_100 hl (k := 4) rfl (nI_1 k) (by decide) rfl (fun ls hl => ?_)
                refine lv_goto (tgt := 9) hx hb dX3_bestReached_103 (by decide) ?_
                exact ih_9 (k + 1) w (by omega) (by omega) (bestTo_skip hinv_k (Or.inl c_86)) _ _ hG _ (lv_sub hl [0, 1, 5, 6] rfl)
              · refine lv_iload hx hb dX3_bestReached_89 (lv_at hl 0 rfl) ?_
                refine lv_if_eq (tgt := 98) hx hb dX3_bestReached_91 (by decide) (fun c9 => False.elim (by revert c9; decide)) (fun _ => ?_)
                refine lv_iload_n hx hb dX3_bestReached_94 rfl (lv_at hl 3 rfl) ?_
                refine lv_goto (tgt := 99) hx hb dX3_bestReached_95 (by decide) ?_
                refine lv_istore_n (lv' := [(2, .int (nI k)), (6, .int 1), (5, .int ((va k) - (va w))), (4, .int ((gr k) - (gr w))), (3, .int (nI k)), (0, .ref (h 0)), (1, .int (nI s0))]) hx hb dX3_bestReached_99 rfl hl (by decide) rfl (fun ls hl => ?_)
                refine lv_iinc (v := (nI (k + 1))) (lv' := [(3, .int (nI (k + 1))), (2, .int (nI k)), (6, .int 1), (5, .int ((va k) - (va w))), (4, .int ((gr k) - (gr w))), (0, .ref (h 0)), (1, .int (nI s0))]) hx hb dX3_bestReached_100 hl (k := 4) rfl (nI_1 k) (by decide) rfl (fun ls hl => ?_)
                refine lv_goto (tgt := 9) hx hb dX3_bestReached_103 (by decide) ?_
                exact ih_9 (k + 1) k (by omega) (by omega) (bestTo_take hN hk hg hinv_k c_86 (Or.inr ⟨(gr_eq hg k w).mp c_54, Or.inl ((va_lt hg k w).mp c_59)⟩)) _ _ hG _ (lv_sub hl [0, 1, 5, 6] rfl)
            · refine lv_iload hx hb dX3_bestReached_62 (lv_at hl 0 rfl) ?_
              refine lv_if_ne (tgt := 76) hx hb dX3_bestReached_64 (by decide) (fun c_64 => ?_) (fun c_64 => ?_)
              · refine lv_iconst (v := 0) hx hb dX3_bestReached_76 (by decide) ?_
                refine lv_istore (lv' := [(6, .int 0), (5, .int ((va k) - (va w))), (4, .int ((gr k) - (gr w))), (3, .int (nI k)), (2, .int (nI w)), (0, .ref (h 0)), (1, .int (nI s0))]) hx hb dX3_bestReached_77 hl (by decide) rfl (fun ls hl => ?_)
                refine lv_aload_n hx hb dX3_bestReached_79 rfl (lv_at hl 5 rfl) ?_
                refine q_get hM hG (C := RX3) (T := TX3) (n := 24) hinX3 0 rfl rfl 23 (by decide) wRX3_69 rfl (v := .ref (h 20)) rfl dX3_bestReached_80 ?_
                refine lv_iload_n hx hb dX3_bestReached_83 rfl (lv_at hl 3 rfl) ?_
                refine q_iald hM hG 20 rfl hkx (by decide) dX3_bestReached_84 ?_
                refine lv_iconst (v := (-1)) hx hb dX3_bestReached_85 (by decide) ?_
                refine lv_icmp_eq (tgt := 98) hx hb dX3_bestReached_86 (by decide) (fun c_86 => ?_) (fun c_86 => ?_)
                · refine lv_iload_n hx hb dX3_bestReached_98 rfl (lv_at hl 4 rfl) ?_
                  refine lv_istore_n (lv' := [(2, .int (nI w)), (6, .int 0), (5, .int ((va k) - (va w))), (4, .int ((gr k) - (gr w))), (3, .int (nI k)), (0, .ref (h 0)), (1, .int (nI s0))]) hx hb dX3_bestReached_99 rfl hl (by decide) rfl (fun ls hl => ?_)
                  refine lv_iinc (v := (nI (k + 1))) (lv' := [(3, .int (nI (k + 1))), (2, .int (nI w)), (6, .int 0), (5, .int ((va k) - (va w))), (4, .int ((gr k) - (gr w))), (0, .ref (h 0)), (1, .int (nI s0))]) hx hb dX3_bestReached_100 hl (k := 4) rfl (nI_1 k) (by decide) rfl (fun ls hl => ?_)
                  refine lv_goto (tgt := 9) hx hb dX3_bestReached_103 (by decide) ?_
                  exact ih_9 (k + 1) w (by omega) (by omega) (bestTo_skip hinv_k (Or.inl c_86)) _ _ hG _ (lv_sub hl [0, 1, 5, 6] rfl)
                · refine lv_iload hx hb dX3_bestReached_89 (lv_at hl 0 rfl) ?_
                  refine lv_if_eq (tgt := 98) hx hb dX3_bestReached_91 (by decide) (fun _ => ?_) (fun c9 => False.elim (by revert c9; decide))
                  refine lv_iload_n hx hb dX3_bestReached_98 rfl (lv_at hl 4 rfl) ?_
                  refine lv_istore_n (lv' := [(2, .int (nI w)), (6, .int 0), (5, .int ((va k) - (va w))), (4, .int ((gr k) - (gr w))), (3, .int (nI k)), (0, .ref (h 0)), (1, .int (nI s0))]) hx hb dX3_bestReached_99 rfl hl (by decide) rfl (fun ls hl => ?_)
                  refine lv_iinc (v := (nI (k + 1))) (lv' := [(3, .int (nI (k + 1))), (2, .int (nI w)), (6, .int 0), (5, .int ((va k) - (va w))), (4, .int ((gr k) - (gr w))), (0, .ref (h 0)), (1, .int (nI s0))]) hx hb dX3_bestReached_100 hl (k := 4) rfl (nI_1 k) (by decide) rfl (fun ls hl => ?_)
                  refine lv_goto (tgt := 9) hx hb dX3_bestReached_103 (by decide) ?_
                  exact ih_9 (k + 1) w (by omega) (by omega) (bestTo_skip hinv_k (Or.inr (fun h9 => h9.elim (fun h8 => c_49 ((gr_lt hg k w).mpr h8)) (fun h8 => h8.2.elim (fun h7 => c_59 ((va_lt hg k w).mpr h7)) (fun h7 => c_64 ((va_eq hg k w).mpr h7.1)))))) _ _ hG _ (lv_sub hl [0, 1, 5, 6] rfl)
              · refine lv_iload_n hx hb dX3_bestReached_67 rfl (lv_at hl 2 rfl) ?_
                refine lv_iload_n hx hb dX3_bestReached_68 rfl (lv_at hl 3 rfl) ?_
                refine lv_icmp_ge (tgt := 76) hx hb dX3_bestReached_69 (by decide) (fun c_69 => ?_) (fun c_69 => ?_)
                · refine lv_iconst (v := 0) hx hb dX3_bestReached_76 (by decide) ?_
                  refine lv_istore (lv' := [(6, .int 0), (5, .int ((va k) - (va w))), (4, .int ((gr k) - (gr w))), (3, .int (nI k)), (2, .int (nI w)), (0, .ref (h 0)), (1, .int (nI s0))]) hx hb dX3_bestReached_77 hl (by decide) rfl (fun ls hl => ?_)
                  refine lv_aload_n hx hb dX3_bestReached_79 rfl (lv_at hl 5 rfl) ?_
                  refine q_get hM hG (C := RX3) (T := TX3) (n := 24) hinX3 0 rfl rfl 23 (by decide) wRX3_69 rfl (v := .ref (h 20)) rfl dX3_bestReached_80 ?_
                  refine lv_iload_n hx hb dX3_bestReached_83 rfl (lv_at hl 3 rfl) ?_
                  refine q_iald hM hG 20 rfl hkx (by decide) dX3_bestReached_84 ?_
                  refine lv_iconst (v := (-1)) hx hb dX3_bestReached_85 (by decide) ?_
                  refine lv_icmp_eq (tgt := 98) hx hb dX3_bestReached_86 (by decide) (fun c_86 => ?_) (fun c_86 => ?_)
                  · refine lv_iload_n hx hb dX3_bestReached_98 rfl (lv_at hl 4 rfl) ?_
                    refine lv_istore_n (lv' := [(2, .int (nI w)), (6, .int 0), (5, .int ((va k) - (va w))), (4, .int ((gr k) - (gr w))), (3, .int (nI k)), (0, .ref (h 0)), (1, .int (nI s0))]) hx hb dX3_bestReached_99 rfl hl (by decide) rfl (fun ls hl => ?_)
                    refine lv_iinc (v := (nI (k + 1))) (lv' := [(3, .int (nI (k + 1))), (2, .int (nI w)), (6, .int 0), (5, .int ((va k) - (va w))), (4, .int ((gr k) - (gr w))), (0, .ref (h 0)), (1, .int (nI s0))]) hx hb dX3_bestReached_100 hl (k := 4) rfl (nI_1 k) (by decide) rfl (fun ls hl => ?_)
                    refine lv_goto (tgt := 9) hx hb dX3_bestReached_103 (by decide) ?_
                    exact ih_9 (k + 1) w (by omega) (by omega) (bestTo_skip hinv_k (Or.inl c_86)) _ _ hG _ (lv_sub hl [0, 1, 5, 6] rfl)
                  · refine lv_iload hx hb dX3_bestReached_89 (lv_at hl 0 rfl) ?_
                    refine lv_if_eq (tgt := 98) hx hb dX3_bestReached_91 (by decide) (fun _ => ?_) (fun c9 => False.elim (by revert c9; decide))
                    refine lv_iload_n hx hb dX3_bestReached_98 rfl (lv_at hl 4 rfl) ?_
                    refine lv_istore_n (lv' := [(2, .int (nI w)), (6, .int 0), (5, .int ((va k) - (va w))), (4, .int ((gr k) - (gr w))), (3, .int (nI k)), (0, .ref (h 0)), (1, .int (nI s0))]) hx hb dX3_bestReached_99 rfl hl (by decide) rfl (fun ls hl => ?_)
                    refine lv_iinc (v := (nI (k + 1))) (lv' := [(3, .int (nI (k + 1))), (2, .int (nI w)), (6, .int 0), (5, .int ((va k) - (va w))), (4, .int ((gr k) - (gr w))), (0, .ref (h 0)), (1, .int (nI s0))]) hx hb dX3_bestReached_100 hl (k := 4) rfl (nI_1 k) (by decide) rfl (fun ls hl => ?_)
                    refine lv_goto (tgt := 9) hx hb dX3_bestReached_103 (by decide) ?_
                    exact ih_9 (k + 1) w (by omega) (by omega) (bestTo_skip hinv_k (Or.inr (fun h9 => h9.elim (fun h8 => c_49 ((gr_lt hg k w).mpr h8)) (fun h8 => h8.2.elim (fun h7 => c_59 ((va_lt hg k w).mpr h7)) (fun h7 => absurd (ctr_ge (by omega) (by have h6 := hinv_k.1; omega) c_69) (by omega)))))) _ _ hG _ (lv_sub hl [0, 1, 5, 6] rfl)
                · refine lv_iconst (v := 1) hx hb dX3_bestReached_72 (by decide) ?_
                  refine lv_goto (tgt := 77) hx hb dX3_bestReached_73 (by decide) ?_
                  refine lv_istore (lv' := [(6, .int 1), (5, .int ((va k) - (va w))), (4, .int ((gr k) - (gr w))), (3, .int (nI k)), (2, .int (nI w)), (0, .ref (h 0)), (1, .int (nI s0))]) hx hb dX3_bestReached_77 hl (by decide) rfl (fun ls hl => ?_)
                  refine lv_aload_n hx hb dX3_bestReached_79 rfl (lv_at hl 5 rfl) ?_
                  refine q_get hM hG (C := RX3) (T := TX3) (n := 24) hinX3 0 rfl rfl 23 (by decide) wRX3_69 rfl (v := .ref (h 20)) rfl dX3_bestReached_80 ?_
                  refine lv_iload_n hx hb dX3_bestReached_83 rfl (lv_at hl 3 rfl) ?_
                  refine q_iald hM hG 20 rfl hkx (by decide) dX3_bestReached_84 ?_
                  refine lv_iconst (v := (-1)) hx hb dX3_bestReached_85 (by decide) ?_
                  refine lv_icmp_eq (tgt := 98) hx hb dX3_bestReached_86 (by decide) (fun c_86 => ?_) (fun c_86 => ?_)
                  · refine lv_iload_n hx hb dX3_bestReached_98 rfl (lv_at hl 4 rfl) ?_
                    refine lv_istore_n (lv' := [(2, .int (nI w)), (6, .int 1), (5, .int ((va k) - (va w))), (4, .int ((gr k) - (gr w))), (3, .int (nI k)), (0, .ref (h 0)), (1, .int (nI s0))]) hx hb dX3_bestReached_99 rfl hl (by decide) rfl (fun ls hl => ?_)
                    refine lv_iinc (v := (nI (k + 1))) (lv' := [(3, .int (nI (k + 1))), (2, .int (nI w)), (6, .int 1), (5, .int ((va k) - (va w))), (4, .int ((gr k) - (gr w))), (0, .ref (h 0)), (1, .int (nI s0))]) hx hb dX3_bestReached_100 hl (k := 4) rfl (nI_1 k) (by decide) rfl (fun ls hl => ?_)
                    refine lv_goto (tgt := 9) hx hb dX3_bestReached_103 (by decide) ?_
                    exact ih_9 (k + 1) w (by omega) (by omega) (bestTo_skip hinv_k (Or.inl c_86)) _ _ hG _ (lv_sub hl [0, 1, 5, 6] rfl)
                  · refine lv_iload hx hb dX3_bestReached_89 (lv_at hl 0 rfl) ?_
                    refine lv_if_eq (tgt := 98) hx hb dX3_bestReached_91 (by decide) (fun c9 => False.elim (by revert c9; decide)) (fun _ => ?_)
                    refine lv_iload_n hx hb dX3_bestReached_94 rfl (lv_at hl 3 rfl) ?_
                    refine lv_goto (tgt := 99) hx hb dX3_bestReached_95 (by decide) ?_
                    refine lv_istore_n (lv' := [(2, .int (nI k)), (6, .int 1), (5, .int ((va k) - (va w))), (4, .int ((gr k) - (gr w))), (3, .int (nI k)), (0, .ref (h 0)), (1, .int (nI s0))]) hx hb dX3_bestReached_99 rfl hl (by decide) rfl (fun ls hl => ?_)
                    refine lv_iinc (v := (nI (k + 1))) (lv' := [(3, .int (nI (k + 1))), (2, .int (nI k)), (6, .int 1), (5, .int ((va k) - (va w))), (4, .int ((gr k) - (gr w))), (0, .ref (h 0)), (1, .int (nI s0))]) hx hb dX3_bestReached_100 hl (k := 4) rfl (nI_1 k) (by decide) rfl (fun ls hl => ?_)
                    refine lv_goto (tgt := 9) hx hb dX3_bestReached_103 (by decide) ?_
                    exact ih_9 (k + 1) k (by omega) (by omega) (bestTo_take hN hk hg hinv_k c_86 (Or.inr ⟨(gr_eq hg k w).mp c_54, Or.inr ⟨(va_eq hg k w).mp c_64, ctr_lt (by omega) (by have h6 := hinv_k.1; omega) c_69⟩⟩)) _ _ hG _ (lv_sub hl [0, 1, 5, 6] rfl)
  exact loop_9 (N + 1) 0 s0 (by omega) (by omega) (⟨hs, isDist_self hN hs hp_2, fun j h9 => absurd h9 (Nat.not_lt_zero _)⟩) _ _ hG _ (lv_sub hl [0, 1, 2, 3] rfl)
