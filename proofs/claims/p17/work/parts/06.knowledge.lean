set_option maxHeartbeats 4000000 in
set_option maxRecDepth 100000 in
theorem c_X0_start (l : Launch) (g : EN) (h : Nat → Nat) (N : Nat) (tk : Int32) (dom : Nat → Int32) (gr : Nat → Int32) (va : Nat → Int32) (dr : Nat → Int32) (off : Nat → Int64) (rt : Nat → Int64) (cnt : Int32) (lk : Nat → Int32) (dl : Nat → Int32) (td : Nat → Int32) (K : KT) (E : KT) (ds : Nat → Int32) (i : Nat) (r : Int32) (hi : i < 10)  : Cv l yX0_start wsX0_start ({ frames := 0, cells := 0, slots := 0, locals := 0 }) g [.ref (h 12), .int (nI i), .int r] (cNet g h N tk dom gr va dr off rt cnt lk dl td K E ds) (fun (u : KT) => u = kst K i r) (fun (u : KT) => (cNet g h N tk dom gr va dr off rt cnt lk dl td u E ds)) := by
  refine Cv.of (cc := cX0_start) (maxL := 3) (by decide) rfl (Nat.le_of_ble_eq_true rfl) ?_
  intro p e s m args below meth c A Q ls hM hG hRet hl
  have hx := hM.1
  have hb := hM.2.1
  have hown := hM.2.2.2.1
  have hts := hM.2.2.2.2
  have wRX0_9 : Cond.fieldLink RX0 9 "TimeNet$Knowledge" "clockNode" "[I" ∈ wsX0_start := by decide +kernel
  have wRX0_15 : Cond.fieldLink RX0 15 "TimeNet$Knowledge" "clockRank" "[I" ∈ wsX0_start := by decide +kernel
  have wRX0_18 : Cond.fieldLink RX0 18 "TimeNet$Knowledge" "stepsAway" "[I" ∈ wsX0_start := by decide +kernel
  have wRX0_21 : Cond.fieldLink RX0 21 "TimeNet$Knowledge" "knownFrom" "[I" ∈ wsX0_start := by decide +kernel
  have hinX0 : ∀ w ∈ wsX00, w ∈ wsX0_start := by decide +kernel
  have hl : lv_has ls 3 [(0, .ref (h 12)), (1, .int (nI i)), (2, .int r)] := hl
  refine lv_aload_n hx hb dX0_start_0 rfl (lv_at hl 0 rfl) ?_
  refine q_get hM hG (C := RX0) (T := TX0) (n := 4) hinX0 12 rfl rfl 0 (by decide) wRX0_9 rfl (v := .ref (h 13)) rfl dX0_start_1 ?_
  refine lv_iload_n hx hb dX0_start_4 rfl (lv_at hl 1 rfl) ?_
  refine lv_iload_n hx hb dX0_start_5 rfl (lv_at hl 1 rfl) ?_
  refine q_iast hM hG 13 rfl hi (by decide) (ws1 := (cNet g h N tk dom gr va dr off rt cnt lk dl td ((upd K.1 i (nI i)), K.2.1, K.2.2.1, K.2.2.2) E ds)) rfl dX0_start_6 (fun H locs hG => ?_)
  refine lv_aload_n hx hb dX0_start_7 rfl (lv_at hl 0 rfl) ?_
  refine q_get hM hG (C := RX0) (T := TX0) (n := 4) hinX0 12 rfl rfl 1 (by decide) wRX0_15 rfl (v := .ref (h 14)) rfl dX0_start_8 ?_
  refine lv_iload_n hx hb dX0_start_11 rfl (lv_at hl 1 rfl) ?_
  refine lv_iload_n hx hb dX0_start_12 rfl (lv_at hl 2 rfl) ?_
  refine q_iast hM hG 14 rfl hi (by decide) (ws1 := (cNet g h N tk dom gr va dr off rt cnt lk dl td ((upd K.1 i (nI i)), (upd K.2.1 i r), K.2.2.1, K.2.2.2) E ds)) rfl dX0_start_13 (fun H locs hG => ?_)
  refine lv_aload_n hx hb dX0_start_14 rfl (lv_at hl 0 rfl) ?_
  refine q_get hM hG (C := RX0) (T := TX0) (n := 4) hinX0 12 rfl rfl 2 (by decide) wRX0_18 rfl (v := .ref (h 15)) rfl dX0_start_15 ?_
  refine lv_iload_n hx hb dX0_start_18 rfl (lv_at hl 1 rfl) ?_
  refine lv_iconst (v := 0) hx hb dX0_start_19 (by decide) ?_
  refine q_iast hM hG 15 rfl hi (by decide) (ws1 := (cNet g h N tk dom gr va dr off rt cnt lk dl td ((upd K.1 i (nI i)), (upd K.2.1 i r), (upd K.2.2.1 i 0), K.2.2.2) E ds)) rfl dX0_start_20 (fun H locs hG => ?_)
  refine lv_aload_n hx hb dX0_start_21 rfl (lv_at hl 0 rfl) ?_
  refine q_get hM hG (C := RX0) (T := TX0) (n := 4) hinX0 12 rfl rfl 3 (by decide) wRX0_21 rfl (v := .ref (h 16)) rfl dX0_start_22 ?_
  refine lv_iload_n hx hb dX0_start_25 rfl (lv_at hl 1 rfl) ?_
  refine lv_iconst (v := (-1)) hx hb dX0_start_26 (by decide) ?_
  refine q_iast hM hG 16 rfl hi (by decide) (ws1 := (cNet g h N tk dom gr va dr off rt cnt lk dl td ((upd K.1 i (nI i)), (upd K.2.1 i r), (upd K.2.2.1 i 0), (upd K.2.2.2 i (-1 : Int32))) E ds)) rfl dX0_start_27 (fun H locs hG => ?_)
  exact hRet ((upd K.1 i (nI i)), (upd K.2.1 i r), (upd K.2.2.1 i 0), (upd K.2.2.2 i (-1 : Int32))) _ _ _ _ _ _ rfl hG (Nat.le_of_ble_eq_true rfl) (Nat.le_of_ble_eq_true rfl) dX0_start_28

set_option maxHeartbeats 4000000 in
set_option maxRecDepth 100000 in
theorem c_X0_copyFrom (l : Launch) (g : EN) (h : Nat → Nat) (N : Nat) (tk : Int32) (dom : Nat → Int32) (gr : Nat → Int32) (va : Nat → Int32) (dr : Nat → Int32) (off : Nat → Int64) (rt : Nat → Int64) (cnt : Int32) (lk : Nat → Int32) (dl : Nat → Int32) (td : Nat → Int32) (K : KT) (E : KT) (ds : Nat → Int32)   : Cv l yX0_copyFrom wsX0_copyFrom ({ frames := 0, cells := 0, slots := 0, locals := 0 }) g [.ref (h 17), .ref (h 12)] (cNet g h N tk dom gr va dr off rt cnt lk dl td K E ds) (fun (u : KT) => cpK K u 10) (fun (u : KT) => (cNet g h N tk dom gr va dr off rt cnt lk dl td K u ds)) := by
  refine Cv.of (cc := cX0_copyFrom) (maxL := 3) (by decide) rfl (Nat.le_of_ble_eq_true rfl) ?_
  intro p e s m args below meth c A Q ls hM hG hRet hl
  have hx := hM.1
  have hb := hM.2.1
  have hown := hM.2.2.2.1
  have hts := hM.2.2.2.2
  have wRX0_9 : Cond.fieldLink RX0 9 "TimeNet$Knowledge" "clockNode" "[I" ∈ wsX0_copyFrom := by decide +kernel
  have wRX0_15 : Cond.fieldLink RX0 15 "TimeNet$Knowledge" "clockRank" "[I" ∈ wsX0_copyFrom := by decide +kernel
  have wRX0_18 : Cond.fieldLink RX0 18 "TimeNet$Knowledge" "stepsAway" "[I" ∈ wsX0_copyFrom := by decide +kernel
  have wRX0_21 : Cond.fieldLink RX0 21 "TimeNet$Knowledge" "knownFrom" "[I" ∈ wsX0_copyFrom := by decide +kernel
  have hinX0 : ∀ w ∈ wsX00, w ∈ wsX0_copyFrom := by decide +kernel
  have hl : lv_has ls 3 [(0, .ref (h 17)), (1, .ref (h 12))] := hl
  refine lv_iconst (v := 0) hx hb dX0_copyFrom_0 (by decide) ?_
  refine lv_istore_n (lv' := [(2, .int 0), (0, .ref (h 17)), (1, .ref (h 12))]) hx hb dX0_copyFrom_1 rfl hl (by decide) rfl (fun ls hl => ?_)
  have loop_2 : ∀ (n9 k : Nat) (E1 : KT), k ≤ 10 → 10 < k + n9 → (cpK K E1 k) → ∀ (H : Heap) (locs : List Loc), cC g (cNet g h N tk dom gr va dr off rt cnt lk dl td K E1 ds) A s H locs → ∀ (ls : Array Slot), lv_has ls 3 [(2, .int (nI k)), (0, .ref (h 17)), (1, .ref (h 12))] → W p l e ({ frames := 0, cells := 0, slots := 0, locals := 0 } : Room) s m args below meth c H locs 0 0 Q (F0 m 2 ls []) := by
    intro n9
    induction n9 with
    | zero => intro k E1 h1 h2; exact absurd h2 (by omega)
    | succ n9 ih_2 =>
      intro k E1 hle_k hlt9 hinv_k H locs hG ls hl
      refine lv_iload_n hx hb dX0_copyFrom_2 rfl (lv_at hl 0 rfl) ?_
      refine lv_bipush (v := 10) hx hb dX0_copyFrom_3 (by decide) ?_
      refine lv_icmp_ge (tgt := 62) hx hb dX0_copyFrom_5 (by decide) (fun c_5 => ?_) (fun c_5 => ?_)
      · have hk : k = 10 := by have h9 := ctr_ge (a := k) (b := 10) (by omega) (by omega) c_5; omega
        exact hRet E1 _ _ _ _ _ _ (by rw [← hk]; exact hinv_k) hG (Nat.le_of_ble_eq_true rfl) (Nat.le_of_ble_eq_true rfl) dX0_copyFrom_62
      · have hk : k < 10 := ctr_lt (by omega) (by omega) c_5
        refine lv_aload_n hx hb dX0_copyFrom_8 rfl (lv_at hl 1 rfl) ?_
        refine q_get hM hG (C := RX0) (T := TX0) (n := 4) hinX0 17 rfl rfl 0 (by decide) wRX0_9 rfl (v := .ref (h 18)) rfl dX0_copyFrom_9 ?_
        refine lv_iload_n hx hb dX0_copyFrom_12 rfl (lv_at hl 0 rfl) ?_
        refine lv_aload_n hx hb dX0_copyFrom_13 rfl (lv_at hl 2 rfl) ?_
        refine q_get hM hG (C := RX0) (T := TX0) (n := 4) hinX0 12 rfl rfl 0 (by decide) wRX0_9 rfl (v := .ref (h 13)) rfl dX0_copyFrom_14 ?_
        refine lv_iload_n hx hb dX0_copyFrom_17 rfl (lv_at hl 0 rfl) ?_
        refine q_iald hM hG 13 rfl hk (by decide) dX0_copyFrom_18 ?_
        refine q_iast hM hG 18 rfl hk (by decide) (ws1 := (cNet g h N tk dom gr va dr off rt cnt lk dl td K ((upd E1.1 k (K.1 k)), E1.2.1, E1.2.2.1, E1.2.2.2) ds)) rfl dX0_copyFrom_19 (fun H locs hG => ?_)
        refine lv_aload_n hx hb dX0_copyFrom_20 rfl (lv_at hl 1 rfl) ?_
        refine q_get hM hG (C := RX0) (T := TX0) (n := 4) hinX0 17 rfl rfl 1 (by decide) wRX0_15 rfl (v := .ref (h 19)) rfl dX0_copyFrom_21 ?_
        refine lv_iload_n hx hb dX0_copyFrom_24 rfl (lv_at hl 0 rfl) ?_
        refine lv_aload_n hx hb dX0_copyFrom_25 rfl (lv_at hl 2 rfl) ?_
        refine q_get hM hG (C := RX0) (T := TX0) (n := 4) hinX0 12 rfl rfl 1 (by decide) wRX0_15 rfl (v := .ref (h 14)) rfl dX0_copyFrom_26 ?_
        refine lv_iload_n hx hb dX0_copyFrom_29 rfl (lv_at hl 0 rfl) ?_
        refine q_iald hM hG 14 rfl hk (by decide) dX0_copyFrom_30 ?_
        refine q_iast hM hG 19 rfl hk (by decide) (ws1 := (cNet g h N tk dom gr va dr off rt cnt lk dl td K ((upd E1.1 k (K.1 k)), (upd E1.2.1 k (K.2.1 k)), E1.2.2.1, E1.2.2.2) ds)) rfl dX0_copyFrom_31 (fun H locs hG => ?_)
        refine lv_aload_n hx hb dX0_copyFrom_32 rfl (lv_at hl 1 rfl) ?_
        refine q_get hM hG (C := RX0) (T := TX0) (n := 4) hinX0 17 rfl rfl 2 (by decide) wRX0_18 rfl (v := .ref (h 20)) rfl dX0_copyFrom_33 ?_
        refine lv_iload_n hx hb dX0_copyFrom_36 rfl (lv_at hl 0 rfl) ?_
        refine lv_aload_n hx hb dX0_copyFrom_37 rfl (lv_at hl 2 rfl) ?_
        refine q_get hM hG (C := RX0) (T := TX0) (n := 4) hinX0 12 rfl rfl 2 (by decide) wRX0_18 rfl (v := .ref (h 15)) rfl dX0_copyFrom_38 ?_
        refine lv_iload_n hx hb dX0_copyFrom_41 rfl (lv_at hl 0 rfl) ?_
        refine q_iald hM hG 15 rfl hk (by decide) dX0_copyFrom_42 ?_
        refine q_iast hM hG 20 rfl hk (by decide) (ws1 := (cNet g h N tk dom gr va dr off rt cnt lk dl td K ((upd E1.1 k (K.1 k)), (upd E1.2.1 k (K.2.1 k)), (upd E1.2.2.1 k (K.2.2.1 k)), E1.2.2.2) ds)) rfl dX0_copyFrom_43 (fun H locs hG => ?_)
        refine lv_aload_n hx hb dX0_copyFrom_44 rfl (lv_at hl 1 rfl) ?_
        refine q_get hM hG (C := RX0) (T := TX0) (n := 4) hinX0 17 rfl rfl 3 (by decide) wRX0_21 rfl (v := .ref (h 21)) rfl dX0_copyFrom_45 ?_
        refine lv_iload_n hx hb dX0_copyFrom_48 rfl (lv_at hl 0 rfl) ?_
        refine lv_aload_n hx hb dX0_copyFrom_49 rfl (lv_at hl 2 rfl) ?_
        refine q_get hM hG (C := RX0) (T := TX0) (n := 4) hinX0 12 rfl rfl 3 (by decide) wRX0_21 rfl (v := .ref (h 16)) rfl dX0_copyFrom_50 ?_
        refine lv_iload_n hx hb dX0_copyFrom_53 rfl (lv_at hl 0 rfl) ?_
        refine q_iald hM hG 16 rfl hk (by decide) dX0_copyFrom_54 ?_
        refine q_iast hM hG 21 rfl hk (by decide) (ws1 := (cNet g h N tk dom gr va dr off rt cnt lk dl td K ((upd E1.1 k (K.1 k)), (upd E1.2.1 k (K.2.1 k)), (upd E1.2.2.1 k (K.2.2.1 k)), (upd E1.2.2.2 k (K.2.2.2 k))) ds)) rfl dX0_copyFrom_55 (fun H locs hG => ?_)
        refine lv_iinc (v := (nI (k + 1))) (lv' := [(2, .int (nI (k + 1))), (0, .ref (h 17)), (1, .ref (h 12))]) hx hb dX0_copyFrom_56 hl (k := 0) rfl (nI_1 k) (by decide) rfl (fun ls hl => ?_)
        refine lv_goto (tgt := 2) hx hb dX0_copyFrom_59 (by decide) ?_
        exact ih_2 (k + 1) ((upd E1.1 k (K.1 k)), (upd E1.2.1 k (K.2.1 k)), (upd E1.2.2.1 k (K.2.2.1 k)), (upd E1.2.2.2 k (K.2.2.2 k))) (by omega) (by omega) (cpK_s hinv_k) _ _ hG _ (lv_sub hl [0, 1, 2] rfl)
  exact loop_2 (10 + 1) 0 E (by omega) (by omega) cpK_0 _ _ hG _ (lv_sub hl [0, 1, 2] rfl)

set_option maxHeartbeats 4000000 in
set_option maxRecDepth 100000 in
theorem c_X0_reaches (l : Launch) (g : EN) (h : Nat → Nat) (N : Nat) (tk : Int32) (dom : Nat → Int32) (gr : Nat → Int32) (va : Nat → Int32) (dr : Nat → Int32) (off : Nat → Int64) (rt : Nat → Int64) (cnt : Int32) (lk : Nat → Int32) (dl : Nat → Int32) (td : Nat → Int32) (K : KT) (E : KT) (ds : Nat → Int32) (t i : Nat) (ht : t < 10)  : Ci l yX0_reaches wsX0_reaches ({ frames := 0, cells := 0, slots := 0, locals := 0 }) g [.ref (h 17), .int (nI t), .int (nI i)] (cNet g h N tk dom gr va dr off rt cnt lk dl td K E ds) (fun (r : Int32) (_ : Unit) => bP r (E.2.2.1 t < 9 ∧ ¬ E.2.2.2 t = nI i)) (fun (_ : Unit) => (cNet g h N tk dom gr va dr off rt cnt lk dl td K E ds)) := by
  refine Cz.of (cc := cX0_reaches) (maxL := 3) (by decide) rfl (Nat.le_of_ble_eq_true rfl) (fun r u h => bP.b h) ?_
  intro p e s m args below meth c A Q ls hM hG hRet hl
  have hx := hM.1
  have hb := hM.2.1
  have hown := hM.2.2.2.1
  have hts := hM.2.2.2.2
  have wRX0_18 : Cond.fieldLink RX0 18 "TimeNet$Knowledge" "stepsAway" "[I" ∈ wsX0_reaches := by decide +kernel
  have wRX0_21 : Cond.fieldLink RX0 21 "TimeNet$Knowledge" "knownFrom" "[I" ∈ wsX0_reaches := by decide +kernel
  have hinX0 : ∀ w ∈ wsX00, w ∈ wsX0_reaches := by decide +kernel
  have hl : lv_has ls 3 [(0, .ref (h 17)), (1, .int (nI t)), (2, .int (nI i))] := hl
  refine lv_aload_n hx hb dX0_reaches_0 rfl (lv_at hl 0 rfl) ?_
  refine q_get hM hG (C := RX0) (T := TX0) (n := 4) hinX0 17 rfl rfl 2 (by decide) wRX0_18 rfl (v := .ref (h 20)) rfl dX0_reaches_1 ?_
  refine lv_iload_n hx hb dX0_reaches_4 rfl (lv_at hl 1 rfl) ?_
  refine q_iald hM hG 20 rfl ht (by decide) dX0_reaches_5 ?_
  refine lv_bipush (v := 9) hx hb dX0_reaches_6 (by decide) ?_
  refine lv_icmp_ge (tgt := 25) hx hb dX0_reaches_8 (by decide) (fun c_8 => ?_) (fun c_8 => ?_)
  · refine lv_iconst (v := 0) hx hb dX0_reaches_25 (by decide) ?_
    exact hRet 0 () _ _ _ _ _ _ (bP.f (fun h9 => nlt h9.1 c_8)) hG (Nat.le_of_ble_eq_true rfl) (Nat.le_of_ble_eq_true rfl) dX0_reaches_26
  · refine lv_aload_n hx hb dX0_reaches_11 rfl (lv_at hl 0 rfl) ?_
    refine q_get hM hG (C := RX0) (T := TX0) (n := 4) hinX0 17 rfl rfl 3 (by decide) wRX0_21 rfl (v := .ref (h 21)) rfl dX0_reaches_12 ?_
    refine lv_iload_n hx hb dX0_reaches_15 rfl (lv_at hl 1 rfl) ?_
    refine q_iald hM hG 21 rfl ht (by decide) dX0_reaches_16 ?_
    refine lv_iload_n hx hb dX0_reaches_17 rfl (lv_at hl 2 rfl) ?_
    refine lv_icmp_eq (tgt := 25) hx hb dX0_reaches_18 (by decide) (fun c_18 => ?_) (fun c_18 => ?_)
    · refine lv_iconst (v := 0) hx hb dX0_reaches_25 (by decide) ?_
      exact hRet 0 () _ _ _ _ _ _ (bP.f (fun h9 => h9.2 c_18)) hG (Nat.le_of_ble_eq_true rfl) (Nat.le_of_ble_eq_true rfl) dX0_reaches_26
    · refine lv_iconst (v := 1) hx hb dX0_reaches_21 (by decide) ?_
      refine lv_goto (tgt := 26) hx hb dX0_reaches_22 (by decide) ?_
      exact hRet 1 () _ _ _ _ _ _ (bP.t ⟨nle c_8, c_18⟩) hG (Nat.le_of_ble_eq_true rfl) (Nat.le_of_ble_eq_true rfl) dX0_reaches_26

set_option maxHeartbeats 4000000 in
set_option maxRecDepth 100000 in
theorem c_X0_takeIfBetter (l : Launch) (g : EN) (h : Nat → Nat) (N : Nat) (tk : Int32) (dom : Nat → Int32) (gr : Nat → Int32) (va : Nat → Int32) (dr : Nat → Int32) (off : Nat → Int64) (rt : Nat → Int64) (cnt : Int32) (lk : Nat → Int32) (dl : Nat → Int32) (td : Nat → Int32) (K : KT) (E : KT) (ds : Nat → Int32) (i t : Nat) (hi : i < 10) (ht : t < 10)  : Cv l yX0_takeIfBetter wsX0_takeIfBetter ({ frames := 0, cells := 0, slots := 0, locals := 0 }) g [.ref (h 12), .int (nI i), .int (nI t), .ref (h 17)] (cNet g h N tk dom gr va dr off rt cnt lk dl td K E ds) (fun (u : KT) => u = ktk K E i t) (fun (u : KT) => (cNet g h N tk dom gr va dr off rt cnt lk dl td u E ds)) := by
  refine Cv.of (cc := cX0_takeIfBetter) (maxL := 6) (by decide) rfl (Nat.le_of_ble_eq_true rfl) ?_
  intro p e s m args below meth c A Q ls hM hG hRet hl
  have hx := hM.1
  have hb := hM.2.1
  have hown := hM.2.2.2.1
  have hts := hM.2.2.2.2
  have wRX0_15 : Cond.fieldLink RX0 15 "TimeNet$Knowledge" "clockRank" "[I" ∈ wsX0_takeIfBetter := by decide +kernel
  have wRX0_18 : Cond.fieldLink RX0 18 "TimeNet$Knowledge" "stepsAway" "[I" ∈ wsX0_takeIfBetter := by decide +kernel
  have wRX0_9 : Cond.fieldLink RX0 9 "TimeNet$Knowledge" "clockNode" "[I" ∈ wsX0_takeIfBetter := by decide +kernel
  have wRX0_21 : Cond.fieldLink RX0 21 "TimeNet$Knowledge" "knownFrom" "[I" ∈ wsX0_takeIfBetter := by decide +kernel
  have hinX0 : ∀ w ∈ wsX00, w ∈ wsX0_takeIfBetter := by decide +kernel
  have hl : lv_has ls 6 [(0, .ref (h 12)), (1, .int (nI i)), (2, .int (nI t)), (3, .ref (h 17))] := hl
  refine lv_aload_n hx hb dX0_takeIfBetter_0 rfl (lv_at hl 3 rfl) ?_
  refine q_get hM hG (C := RX0) (T := TX0) (n := 4) hinX0 17 rfl rfl 1 (by decide) wRX0_15 rfl (v := .ref (h 19)) rfl dX0_takeIfBetter_1 ?_
  refine lv_iload_n hx hb dX0_takeIfBetter_4 rfl (lv_at hl 2 rfl) ?_
  refine q_iald hM hG 19 rfl ht (by decide) dX0_takeIfBetter_5 ?_
  refine lv_istore (lv' := [(4, .int (E.2.1 t)), (0, .ref (h 12)), (1, .int (nI i)), (2, .int (nI t)), (3, .ref (h 17))]) hx hb dX0_takeIfBetter_6 hl (by decide) rfl (fun ls hl => ?_)
  refine lv_aload_n hx hb dX0_takeIfBetter_8 rfl (lv_at hl 4 rfl) ?_
  refine q_get hM hG (C := RX0) (T := TX0) (n := 4) hinX0 17 rfl rfl 2 (by decide) wRX0_18 rfl (v := .ref (h 20)) rfl dX0_takeIfBetter_9 ?_
  refine lv_iload_n hx hb dX0_takeIfBetter_12 rfl (lv_at hl 3 rfl) ?_
  refine q_iald hM hG 20 rfl ht (by decide) dX0_takeIfBetter_13 ?_
  refine lv_iconst (v := 1) hx hb dX0_takeIfBetter_14 (by decide) ?_
  refine lv_iadd hx hb dX0_takeIfBetter_15 ?_
  refine lv_istore (lv' := [(5, .int ((E.2.2.1 t) + 1)), (4, .int (E.2.1 t)), (0, .ref (h 12)), (1, .int (nI i)), (2, .int (nI t)), (3, .ref (h 17))]) hx hb dX0_takeIfBetter_16 hl (by decide) rfl (fun ls hl => ?_)
  refine lv_iload hx hb dX0_takeIfBetter_18 (lv_at hl 1 rfl) ?_
  refine lv_aload_n hx hb dX0_takeIfBetter_20 rfl (lv_at hl 2 rfl) ?_
  refine q_get hM hG (C := RX0) (T := TX0) (n := 4) hinX0 12 rfl rfl 1 (by decide) wRX0_15 rfl (v := .ref (h 14)) rfl dX0_takeIfBetter_21 ?_
  refine lv_iload_n hx hb dX0_takeIfBetter_24 rfl (lv_at hl 3 rfl) ?_
  refine q_iald hM hG 14 rfl hi (by decide) dX0_takeIfBetter_25 ?_
  refine lv_icmp_lt (tgt := 51) hx hb dX0_takeIfBetter_26 (by decide) (fun c_26 => ?_) (fun c_26 => ?_)
  · refine lv_aload_n hx hb dX0_takeIfBetter_51 rfl (lv_at hl 2 rfl) ?_
    refine q_get hM hG (C := RX0) (T := TX0) (n := 4) hinX0 12 rfl rfl 0 (by decide) wRX0_9 rfl (v := .ref (h 13)) rfl dX0_takeIfBetter_52 ?_
    refine lv_iload_n hx hb dX0_takeIfBetter_55 rfl (lv_at hl 3 rfl) ?_
    refine lv_aload_n hx hb dX0_takeIfBetter_56 rfl (lv_at hl 5 rfl) ?_
    refine q_get hM hG (C := RX0) (T := TX0) (n := 4) hinX0 17 rfl rfl 0 (by decide) wRX0_9 rfl (v := .ref (h 18)) rfl dX0_takeIfBetter_57 ?_
    refine lv_iload_n hx hb dX0_takeIfBetter_60 rfl (lv_at hl 4 rfl) ?_
    refine q_iald hM hG 18 rfl ht (by decide) dX0_takeIfBetter_61 ?_
    refine q_iast hM hG 13 rfl hi (by decide) (ws1 := (cNet g h N tk dom gr va dr off rt cnt lk dl td ((upd K.1 i (E.1 t)), K.2.1, K.2.2.1, K.2.2.2) E ds)) rfl dX0_takeIfBetter_62 (fun H locs hG => ?_)
    refine lv_aload_n hx hb dX0_takeIfBetter_63 rfl (lv_at hl 2 rfl) ?_
    refine q_get hM hG (C := RX0) (T := TX0) (n := 4) hinX0 12 rfl rfl 1 (by decide) wRX0_15 rfl (v := .ref (h 14)) rfl dX0_takeIfBetter_64 ?_
    refine lv_iload_n hx hb dX0_takeIfBetter_67 rfl (lv_at hl 3 rfl) ?_
    refine lv_iload hx hb dX0_takeIfBetter_68 (lv_at hl 1 rfl) ?_
    refine q_iast hM hG 14 rfl hi (by decide) (ws1 := (cNet g h N tk dom gr va dr off rt cnt lk dl td ((upd K.1 i (E.1 t)), (upd K.2.1 i (E.2.1 t)), K.2.2.1, K.2.2.2) E ds)) rfl dX0_takeIfBetter_70 (fun H locs hG => ?_)
    refine lv_aload_n hx hb dX0_takeIfBetter_71 rfl (lv_at hl 2 rfl) ?_
    refine q_get hM hG (C := RX0) (T := TX0) (n := 4) hinX0 12 rfl rfl 2 (by decide) wRX0_18 rfl (v := .ref (h 15)) rfl dX0_takeIfBetter_72 ?_
    refine lv_iload_n hx hb dX0_takeIfBetter_75 rfl (lv_at hl 3 rfl) ?_
    refine lv_iload hx hb dX0_takeIfBetter_76 (lv_at hl 0 rfl) ?_
    refine q_iast hM hG 15 rfl hi (by decide) (ws1 := (cNet g h N tk dom gr va dr off rt cnt lk dl td ((upd K.1 i (E.1 t)), (upd K.2.1 i (E.2.1 t)), (upd K.2.2.1 i ((E.2.2.1 t) + 1)), K.2.2.2) E ds)) rfl dX0_takeIfBetter_78 (fun H locs hG => ?_)
    refine lv_aload_n hx hb dX0_takeIfBetter_79 rfl (lv_at hl 2 rfl) ?_
    refine q_get hM hG (C := RX0) (T := TX0) (n := 4) hinX0 12 rfl rfl 3 (by decide) wRX0_21 rfl (v := .ref (h 16)) rfl dX0_takeIfBetter_80 ?_
    refine lv_iload_n hx hb dX0_takeIfBetter_83 rfl (lv_at hl 3 rfl) ?_
    refine lv_iload_n hx hb dX0_takeIfBetter_84 rfl (lv_at hl 4 rfl) ?_
    refine q_iast hM hG 16 rfl hi (by decide) (ws1 := (cNet g h N tk dom gr va dr off rt cnt lk dl td ((upd K.1 i (E.1 t)), (upd K.2.1 i (E.2.1 t)), (upd K.2.2.1 i ((E.2.2.1 t) + 1)), (upd K.2.2.2 i (nI t))) E ds)) rfl dX0_takeIfBetter_85 (fun H locs hG => ?_)
    exact hRet ((upd K.1 i (E.1 t)), (upd K.2.1 i (E.2.1 t)), (upd K.2.2.1 i ((E.2.2.1 t) + 1)), (upd K.2.2.2 i (nI t))) _ _ _ _ _ _ ((if_pos (Or.inl c_26)).symm) hG (Nat.le_of_ble_eq_true rfl) (Nat.le_of_ble_eq_true rfl) dX0_takeIfBetter_86
  · refine lv_iload hx hb dX0_takeIfBetter_29 (lv_at hl 1 rfl) ?_
    refine lv_aload_n hx hb dX0_takeIfBetter_31 rfl (lv_at hl 2 rfl) ?_
    refine q_get hM hG (C := RX0) (T := TX0) (n := 4) hinX0 12 rfl rfl 1 (by decide) wRX0_15 rfl (v := .ref (h 14)) rfl dX0_takeIfBetter_32 ?_
    refine lv_iload_n hx hb dX0_takeIfBetter_35 rfl (lv_at hl 3 rfl) ?_
    refine q_iald hM hG 14 rfl hi (by decide) dX0_takeIfBetter_36 ?_
    refine lv_icmp_ne (tgt := 86) hx hb dX0_takeIfBetter_37 (by decide) (fun c_37 => ?_) (fun c_37 => ?_)
    · exact hRet K _ _ _ _ _ _ ((if_neg (fun h9 => h9.elim (fun h => c_26 h) (fun h => c_37 h.1))).symm) hG (Nat.le_of_ble_eq_true rfl) (Nat.le_of_ble_eq_true rfl) dX0_takeIfBetter_86
    · refine lv_iload hx hb dX0_takeIfBetter_40 (lv_at hl 0 rfl) ?_
      refine lv_aload_n hx hb dX0_takeIfBetter_42 rfl (lv_at hl 2 rfl) ?_
      refine q_get hM hG (C := RX0) (T := TX0) (n := 4) hinX0 12 rfl rfl 2 (by decide) wRX0_18 rfl (v := .ref (h 15)) rfl dX0_takeIfBetter_43 ?_
      refine lv_iload_n hx hb dX0_takeIfBetter_46 rfl (lv_at hl 3 rfl) ?_
      refine q_iald hM hG 15 rfl hi (by decide) dX0_takeIfBetter_47 ?_
      refine lv_icmp_ge (tgt := 86) hx hb dX0_takeIfBetter_48 (by decide) (fun c_48 => ?_) (fun c_48 => ?_)
      · exact hRet K _ _ _ _ _ _ ((if_neg (fun h9 => h9.elim (fun h => c_26 h) (fun h => nlt h.2 c_48))).symm) hG (Nat.le_of_ble_eq_true rfl) (Nat.le_of_ble_eq_true rfl) dX0_takeIfBetter_86
      · refine lv_aload_n hx hb dX0_takeIfBetter_51 rfl (lv_at hl 2 rfl) ?_
        refine q_get hM hG (C := RX0) (T := TX0) (n := 4) hinX0 12 rfl rfl 0 (by decide) wRX0_9 rfl (v := .ref (h 13)) rfl dX0_takeIfBetter_52 ?_
        refine lv_iload_n hx hb dX0_takeIfBetter_55 rfl (lv_at hl 3 rfl) ?_
        refine lv_aload_n hx hb dX0_takeIfBetter_56 rfl (lv_at hl 5 rfl) ?_
        refine q_get hM hG (C := RX0) (T := TX0) (n := 4) hinX0 17 rfl rfl 0 (by decide) wRX0_9 rfl (v := .ref (h 18)) rfl dX0_takeIfBetter_57 ?_
        refine lv_iload_n hx hb dX0_takeIfBetter_60 rfl (lv_at hl 4 rfl) ?_
        refine q_iald hM hG 18 rfl ht (by decide) dX0_takeIfBetter_61 ?_
        refine q_iast hM hG 13 rfl hi (by decide) (ws1 := (cNet g h N tk dom gr va dr off rt cnt lk dl td ((upd K.1 i (E.1 t)), K.2.1, K.2.2.1, K.2.2.2) E ds)) rfl dX0_takeIfBetter_62 (fun H locs hG => ?_)
        refine lv_aload_n hx hb dX0_takeIfBetter_63 rfl (lv_at hl 2 rfl) ?_
        refine q_get hM hG (C := RX0) (T := TX0) (n := 4) hinX0 12 rfl rfl 1 (by decide) wRX0_15 rfl (v := .ref (h 14)) rfl dX0_takeIfBetter_64 ?_
        refine lv_iload_n hx hb dX0_takeIfBetter_67 rfl (lv_at hl 3 rfl) ?_
        refine lv_iload hx hb dX0_takeIfBetter_68 (lv_at hl 1 rfl) ?_
        refine q_iast hM hG 14 rfl hi (by decide) (ws1 := (cNet g h N tk dom gr va dr off rt cnt lk dl td ((upd K.1 i (E.1 t)), (upd K.2.1 i (E.2.1 t)), K.2.2.1, K.2.2.2) E ds)) rfl dX0_takeIfBetter_70 (fun H locs hG => ?_)
        refine lv_aload_n hx hb dX0_takeIfBetter_71 rfl (lv_at hl 2 rfl) ?_
        refine q_get hM hG (C := RX0) (T := TX0) (n := 4) hinX0 12 rfl rfl 2 (by decide) wRX0_18 rfl (v := .ref (h 15)) rfl dX0_takeIfBetter_72 ?_
        refine lv_iload_n hx hb dX0_takeIfBetter_75 rfl (lv_at hl 3 rfl) ?_
        refine lv_iload hx hb dX0_takeIfBetter_76 (lv_at hl 0 rfl) ?_
        refine q_iast hM hG 15 rfl hi (by decide) (ws1 := (cNet g h N tk dom gr va dr off rt cnt lk dl td ((upd K.1 i (E.1 t)), (upd K.2.1 i (E.2.1 t)), (upd K.2.2.1 i ((E.2.2.1 t) + 1)), K.2.2.2) E ds)) rfl dX0_takeIfBetter_78 (fun H locs hG => ?_)
        refine lv_aload_n hx hb dX0_takeIfBetter_79 rfl (lv_at hl 2 rfl) ?_
        refine q_get hM hG (C := RX0) (T := TX0) (n := 4) hinX0 12 rfl rfl 3 (by decide) wRX0_21 rfl (v := .ref (h 16)) rfl dX0_takeIfBetter_80 ?_
        refine lv_iload_n hx hb dX0_takeIfBetter_83 rfl (lv_at hl 3 rfl) ?_
        refine lv_iload_n hx hb dX0_takeIfBetter_84 rfl (lv_at hl 4 rfl) ?_
        refine q_iast hM hG 16 rfl hi (by decide) (ws1 := (cNet g h N tk dom gr va dr off rt cnt lk dl td ((upd K.1 i (E.1 t)), (upd K.2.1 i (E.2.1 t)), (upd K.2.2.1 i ((E.2.2.1 t) + 1)), (upd K.2.2.2 i (nI t))) E ds)) rfl dX0_takeIfBetter_85 (fun H locs hG => ?_)
        exact hRet ((upd K.1 i (E.1 t)), (upd K.2.1 i (E.2.1 t)), (upd K.2.2.1 i ((E.2.2.1 t) + 1)), (upd K.2.2.2 i (nI t))) _ _ _ _ _ _ ((if_pos (Or.inr ⟨c_37, nle c_48⟩)).symm) hG (Nat.le_of_ble_eq_true rfl) (Nat.le_of_ble_eq_true rfl) dX0_takeIfBetter_86
