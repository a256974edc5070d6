set_option maxHeartbeats 4000000 in
set_option maxRecDepth 100000 in
theorem c_X2_isNode (l : Launch) (g : EN) (h : Nat → Nat) (N : Nat) (tk : Int32) (dom : Nat → Int32) (gr : Nat → Int32) (va : Nat → Int32) (dr : Nat → Int32) (off : Nat → Int64) (rt : Nat → Int64) (cnt : Int32) (lk : Nat → Int32) (dl : Nat → Int32) (td : Nat → Int32) (K : KT) (E : KT) (ds : Nat → Int32) (x : Int32) (hN : N ≤ 10)  : Ci l yX2_isNode wsX2_isNode ({ frames := 0, cells := 0, slots := 0, locals := 0 }) g [.ref (h 0), .int x] (cNet g h N tk dom gr va dr off rt cnt lk dl td K E ds) (fun (r : Int32) (_ : Unit) => bP r (okN N x)) (fun (_ : Unit) => (cNet g h N tk dom gr va dr off rt cnt lk dl td K E ds)) := by
  refine Cz.of (cc := cX2_isNode) (maxL := 2) (by decide) rfl (Nat.le_of_ble_eq_true rfl) (fun r u h => bP.b h) ?_
  intro p e s m args below meth c A Q ls hM hG hRet hl
  have hx := hM.1
  have hb := hM.2.1
  have hown := hM.2.2.2.1
  have hts := hM.2.2.2.2
  have wRX2_49 : Cond.fieldLink RX2 49 "TimeNet" "nodeCount" "I" ∈ wsX2_isNode := by decide +kernel
  have hinX2 : ∀ w ∈ wsX20, w ∈ wsX2_isNode := by decide +kernel
  have hl : lv_has ls 2 [(0, .ref (h 0)), (1, .int x)] := hl
  refine lv_iload_n hx hb dX2_isNode_0 rfl (lv_at hl 1 rfl) ?_
  refine lv_if_lt (tgt := 16) hx hb dX2_isNode_1 (by decide) (fun c_1 => ?_) (fun c_1 => ?_)
  · refine lv_iconst (v := 0) hx hb dX2_isNode_16 (by decide) ?_
    exact hRet 0 () _ _ _ _ _ _ (bP.f (okN_no0 hN c_1)) hG (Nat.le_of_ble_eq_true rfl) (Nat.le_of_ble_eq_true rfl) dX2_isNode_17
  · refine lv_iload_n hx hb dX2_isNode_4 rfl (lv_at hl 1 rfl) ?_
    refine lv_aload_n hx hb dX2_isNode_5 rfl (lv_at hl 0 rfl) ?_
    refine q_get hM hG (C := RX2) (T := TX2) (n := 12) hinX2 0 rfl rfl 10 (by decide) wRX2_49 rfl (v := .int (nI N)) rfl dX2_isNode_6 ?_
    refine lv_icmp_ge (tgt := 16) hx hb dX2_isNode_9 (by decide) (fun c_9 => ?_) (fun c_9 => ?_)
    · refine lv_iconst (v := 0) hx hb dX2_isNode_16 (by decide) ?_
      exact hRet 0 () _ _ _ _ _ _ (bP.f (okN_no1 hN c_9)) hG (Nat.le_of_ble_eq_true rfl) (Nat.le_of_ble_eq_true rfl) dX2_isNode_17
    · refine lv_iconst (v := 1) hx hb dX2_isNode_12 (by decide) ?_
      refine lv_goto (tgt := 17) hx hb dX2_isNode_13 (by decide) ?_
      exact hRet 1 () _ _ _ _ _ _ (bP.t (okN_of hN c_1 (nle c_9))) hG (Nat.le_of_ble_eq_true rfl) (Nat.le_of_ble_eq_true rfl) dX2_isNode_17

set_option maxHeartbeats 4000000 in
set_option maxRecDepth 100000 in
theorem c_X2_requireNode (l : Launch) (g : EN) (h : Nat → Nat) (N : Nat) (tk : Int32) (dom : Nat → Int32) (gr : Nat → Int32) (va : Nat → Int32) (dr : Nat → Int32) (off : Nat → Int64) (rt : Nat → Int64) (cnt : Int32) (lk : Nat → Int32) (dl : Nat → Int32) (td : Nat → Int32) (K : KT) (E : KT) (ds : Nat → Int32) (x : Int32) (hN : N ≤ 10) (hok : okN N x)  : Cv l yX2_requireNode wsX2_requireNode ({ frames := 6, cells := 0, slots := 0, locals := 82 }) g [.ref (h 0), .int x] (cNet g h N tk dom gr va dr off rt cnt lk dl td K E ds) (fun (_ : Unit) => True) (fun (_ : Unit) => (cNet g h N tk dom gr va dr off rt cnt lk dl td K E ds)) := by
  refine Cv.of (cc := cX2_requireNode) (maxL := 2) (by decide) rfl (Nat.le_of_ble_eq_true rfl) ?_
  intro p e s m args below meth c A Q ls hM hG hRet hl
  have hx := hM.1
  have hb := hM.2.1
  have hown := hM.2.2.2.1
  have hts := hM.2.2.2.2
  have hl : lv_has ls 2 [(0, .ref (h 0)), (1, .int x)] := hl
  refine lv_aload_n hx hb dX2_requireNode_0 rfl (lv_at hl 0 rfl) ?_
  refine lv_iload_n hx hb dX2_requireNode_1 rfl (lv_at hl 1 rfl) ?_
  refine q_calli (n := 1) (As := [.int x]) (rest := []) hM hl.1 hG (c_X2_isNode l g h N tk dom gr va dr off rt cnt lk dl td K E ds x hN) rfl gX2_requireNode_X2_isNode (by decide +kernel) ⟨Nat.le_of_ble_eq_true rfl, Nat.le_of_ble_eq_true rfl⟩ 0 rfl rfl rfl rfl rfl (Nat.le_of_ble_eq_true rfl) dX2_requireNode_2 (c1 := 0) (s1 := 0) rfl rfl ⟨Nat.le_of_ble_eq_true rfl, Nat.le_of_ble_eq_true rfl⟩ (fun r_2 u_2 H locs hp_2 hG => ?_)
  rcases hp_2 with ⟨rfl, hp_2⟩ | ⟨rfl, hp_2⟩
  · refine lv_if_ne (tgt := 18) hx hb dX2_requireNode_5 (by decide) (fun _ => ?_) (fun c9 => False.elim (by revert c9; decide))
    exact hRet () _ _ _ _ _ _ trivial hG (Nat.le_of_ble_eq_true rfl) (Nat.le_of_ble_eq_true rfl) dX2_requireNode_18
  · refine lv_if_ne (tgt := 18) hx hb dX2_requireNode_5 (by decide) (fun c9 => False.elim (by revert c9; decide)) (fun _ => ?_)
    exact absurd hok hp_2

set_option maxHeartbeats 4000000 in
set_option maxRecDepth 100000 in
theorem c_X2_requireNode_x (l : Launch) (hl0 : l.stackTraces = false) (g : EN) (h : Nat → Nat) (N : Nat) (tk : Int32) (dom : Nat → Int32) (gr : Nat → Int32) (va : Nat → Int32) (dr : Nat → Int32) (off : Nat → Int64) (rt : Nat → Int64) (cnt : Int32) (lk : Nat → Int32) (dl : Nat → Int32) (td : Nat → Int32) (K : KT) (E : KT) (ds : Nat → Int32) (x : Int32) (hN : N ≤ 10) (hno : ¬ (okN N x))  : Xv l yX2_requireNode wsX2_requireNode ({ frames := 6, cells := 1, slots := 6, locals := 82 }) g [.ref (h 0), .int x] (cNet g h N tk dom gr va dr off rt cnt lk dl td K E ds) (fun E => E = "java/lang/IndexOutOfBoundsException" ∧ ¬ (okN N x)) (fun (_ : Unit) => False) (fun (_ : Unit) => (cNet g h N tk dom gr va dr off rt cnt lk dl td K E ds)) := by
  refine Xv.of (cc := cX2_requireNode) (maxL := 2) hl0 (by decide) rfl (Nat.le_of_ble_eq_true rfl) ?_
  intro p e s m args below meth c A Q ls hM hG hRet hThr hNew hl
  have hx := hM.1
  have hb := hM.2.1
  have hown := hM.2.2.2.1
  have hts := hM.2.2.2.2
  have hl : lv_has ls 2 [(0, .ref (h 0)), (1, .int x)] := hl
  refine lv_aload_n hx hb dX2_requireNode_0 rfl (lv_at hl 0 rfl) ?_
  refine lv_iload_n hx hb dX2_requireNode_1 rfl (lv_at hl 1 rfl) ?_
  refine q_calli (n := 1) (As := [.int x]) (rest := []) hM hl.1 hG (c_X2_isNode l g h N tk dom gr va dr off rt cnt lk dl td K E ds x hN) rfl gX2_requireNode_X2_isNode (by decide +kernel) ⟨Nat.le_of_ble_eq_true rfl, Nat.le_of_ble_eq_true rfl⟩ 0 rfl rfl rfl rfl rfl (Nat.le_of_ble_eq_true rfl) dX2_requireNode_2 (c1 := 0) (s1 := 0) rfl rfl ⟨Nat.le_of_ble_eq_true rfl, Nat.le_of_ble_eq_true rfl⟩ (fun r_2 u_2 H locs hp_2 hG => ?_)
  rcases hp_2 with ⟨rfl, hp_2⟩ | ⟨rfl, hp_2⟩
  · refine lv_if_ne (tgt := 18) hx hb dX2_requireNode_5 (by decide) (fun _ => ?_) (fun c9 => False.elim (by revert c9; decide))
    exact absurd hp_2 hno
  · refine lv_if_ne (tgt := 18) hx hb dX2_requireNode_5 (by decide) (fun c9 => False.elim (by revert c9; decide)) (fun _ => ?_)
    obtain ⟨sa9, hsa9⟩ := hG.2.2.2.2.1.2.2.2.2.2.2.1
    refine hNew RX2 "java/lang/IndexOutOfBoundsException" "there is no such node" ["java/lang/RuntimeException", "java/lang/Exception"] 148 150 152 sa9 _ _ _ _ _ _ hown (by decide +kernel) (by decide +kernel) (hts (.classLink RX2 148 "java/lang/IndexOutOfBoundsException") (by decide +kernel)) (hts (.initialized "java/lang/IndexOutOfBoundsException") (by decide +kernel)) hsa9 ?_ (by decide +kernel) hG hl.1 dX2_requireNode_8 dX2_requireNode_11 dX2_requireNode_12 dX2_requireNode_14 dX2_requireNode_17 (by decide) (by decide) (by decide) (by decide) (⟨rfl, hno⟩)
    exact q_at hM hG (by decide +kernel) (by decide +kernel)

set_option maxHeartbeats 4000000 in
set_option maxRecDepth 100000 in
theorem c_X2_requireWithin (l : Launch) (g : EN) (h : Nat → Nat) (N : Nat) (tk : Int32) (dom : Nat → Int32) (gr : Nat → Int32) (va : Nat → Int32) (dr : Nat → Int32) (off : Nat → Int64) (rt : Nat → Int64) (cnt : Int32) (lk : Nat → Int32) (dl : Nat → Int32) (td : Nat → Int32) (K : KT) (E : KT) (ds : Nat → Int32) (v a b : Int32) (hok : inR a v b)  : Cv l yX2_requireWithin wsX2_requireWithin ({ frames := 6, cells := 0, slots := 0, locals := 82 }) g [.int v, .int a, .int b] (cNet g h N tk dom gr va dr off rt cnt lk dl td K E ds) (fun (_ : Unit) => True) (fun (_ : Unit) => (cNet g h N tk dom gr va dr off rt cnt lk dl td K E ds)) := by
  refine Cv.of (cc := cX2_requireWithin) (maxL := 3) (by decide) rfl (Nat.le_of_ble_eq_true rfl) ?_
  intro p e s m args below meth c A Q ls hM hG hRet hl
  have hx := hM.1
  have hb := hM.2.1
  have hown := hM.2.2.2.1
  have hts := hM.2.2.2.2
  have hl : lv_has ls 3 [(0, .int v), (1, .int a), (2, .int b)] := hl
  refine lv_iload_n hx hb dX2_requireWithin_0 rfl (lv_at hl 0 rfl) ?_
  refine lv_iload_n hx hb dX2_requireWithin_1 rfl (lv_at hl 1 rfl) ?_
  refine lv_icmp_lt (tgt := 10) hx hb dX2_requireWithin_2 (by decide) (fun c_2 => ?_) (fun c_2 => ?_)
  · exact absurd hok.1 (nlt c_2)
  · refine lv_iload_n hx hb dX2_requireWithin_5 rfl (lv_at hl 0 rfl) ?_
    refine lv_iload_n hx hb dX2_requireWithin_6 rfl (lv_at hl 2 rfl) ?_
    refine lv_icmp_le (tgt := 20) hx hb dX2_requireWithin_7 (by decide) (fun c_7 => ?_) (fun c_7 => ?_)
    · exact hRet () _ _ _ _ _ _ trivial hG (Nat.le_of_ble_eq_true rfl) (Nat.le_of_ble_eq_true rfl) dX2_requireWithin_20
    · exact absurd hok.2 c_7

set_option maxHeartbeats 4000000 in
set_option maxRecDepth 100000 in
theorem c_X2_requireWithin_x (l : Launch) (hl0 : l.stackTraces = false) (g : EN) (h : Nat → Nat) (N : Nat) (tk : Int32) (dom : Nat → Int32) (gr : Nat → Int32) (va : Nat → Int32) (dr : Nat → Int32) (off : Nat → Int64) (rt : Nat → Int64) (cnt : Int32) (lk : Nat → Int32) (dl : Nat → Int32) (td : Nat → Int32) (K : KT) (E : KT) (ds : Nat → Int32) (v a b : Int32) (hno : ¬ (inR a v b))  : Xv l yX2_requireWithin wsX2_requireWithin ({ frames := 6, cells := 1, slots := 6, locals := 82 }) g [.int v, .int a, .int b] (cNet g h N tk dom gr va dr off rt cnt lk dl td K E ds) (fun E => E = "java/lang/IllegalArgumentException" ∧ ¬ (inR a v b)) (fun (_ : Unit) => False) (fun (_ : Unit) => (cNet g h N tk dom gr va dr off rt cnt lk dl td K E ds)) := by
  refine Xv.of (cc := cX2_requireWithin) (maxL := 3) hl0 (by decide) rfl (Nat.le_of_ble_eq_true rfl) ?_
  intro p e s m args below meth c A Q ls hM hG hRet hThr hNew hl
  have hx := hM.1
  have hb := hM.2.1
  have hown := hM.2.2.2.1
  have hts := hM.2.2.2.2
  have hl : lv_has ls 3 [(0, .int v), (1, .int a), (2, .int b)] := hl
  refine lv_iload_n hx hb dX2_requireWithin_0 rfl (lv_at hl 0 rfl) ?_
  refine lv_iload_n hx hb dX2_requireWithin_1 rfl (lv_at hl 1 rfl) ?_
  refine lv_icmp_lt (tgt := 10) hx hb dX2_requireWithin_2 (by decide) (fun c_2 => ?_) (fun c_2 => ?_)
  · obtain ⟨sa9, hsa9⟩ := hG.2.2.2.2.1.2.2.2.2.2.2.2.1
    refine hNew RX2 "java/lang/IllegalArgumentException" "an argument is out of its range" ["java/lang/RuntimeException", "java/lang/Exception"] 76 153 80 sa9 _ _ _ _ _ _ hown (by decide +kernel) (by decide +kernel) (hts (.classLink RX2 76 "java/lang/IllegalArgumentException") (by decide +kernel)) (hts (.initialized "java/lang/IllegalArgumentException") (by decide +kernel)) hsa9 ?_ (by decide +kernel) hG hl.1 dX2_requireWithin_10 dX2_requireWithin_13 dX2_requireWithin_14 dX2_requireWithin_16 dX2_requireWithin_19 (by decide) (by decide) (by decide) (by decide) (⟨rfl, hno⟩)
    exact q_at hM hG (by decide +kernel) (by decide +kernel)
  · refine lv_iload_n hx hb dX2_requireWithin_5 rfl (lv_at hl 0 rfl) ?_
    refine lv_iload_n hx hb dX2_requireWithin_6 rfl (lv_at hl 2 rfl) ?_
    refine lv_icmp_le (tgt := 20) hx hb dX2_requireWithin_7 (by decide) (fun c_7 => ?_) (fun c_7 => ?_)
    · exact absurd ⟨Int32.not_lt.mp c_2, c_7⟩ hno
    · obtain ⟨sa9, hsa9⟩ := hG.2.2.2.2.1.2.2.2.2.2.2.2.1
      refine hNew RX2 "java/lang/IllegalArgumentException" "an argument is out of its range" ["java/lang/RuntimeException", "java/lang/Exception"] 76 153 80 sa9 _ _ _ _ _ _ hown (by decide +kernel) (by decide +kernel) (hts (.classLink RX2 76 "java/lang/IllegalArgumentException") (by decide +kernel)) (hts (.initialized "java/lang/IllegalArgumentException") (by decide +kernel)) hsa9 ?_ (by decide +kernel) hG hl.1 dX2_requireWithin_10 dX2_requireWithin_13 dX2_requireWithin_14 dX2_requireWithin_16 dX2_requireWithin_19 (by decide) (by decide) (by decide) (by decide) (⟨rfl, hno⟩)
      exact q_at hM hG (by decide +kernel) (by decide +kernel)

set_option maxHeartbeats 4000000 in
set_option maxRecDepth 100000 in
theorem c_X2_requireLinked (l : Launch) (g : EN) (h : Nat → Nat) (N : Nat) (tk : Int32) (dom : Nat → Int32) (gr : Nat → Int32) (va : Nat → Int32) (dr : Nat → Int32) (off : Nat → Int64) (rt : Nat → Int64) (cnt : Int32) (lk : Nat → Int32) (dl : Nat → Int32) (td : Nat → Int32) (K : KT) (E : KT) (ds : Nat → Int32) (i j : Nat) (hij : i * 10 + j < 100) (hlk : b01 lk) (hok : lk (i * 10 + j) = 1)  : Cv l yX2_requireLinked wsX2_requireLinked ({ frames := 6, cells := 0, slots := 0, locals := 82 }) g [.ref (h 0), .int (nI i), .int (nI j)] (cNet g h N tk dom gr va dr off rt cnt lk dl td K E ds) (fun (_ : Unit) => True) (fun (_ : Unit) => (cNet g h N tk dom gr va dr off rt cnt lk dl td K E ds)) := by
  refine Cv.of (cc := cX2_requireLinked) (maxL := 3) (by decide) rfl (Nat.le_of_ble_eq_true rfl) ?_
  intro p e s m args below meth c A Q ls hM hG hRet hl
  have hx := hM.1
  have hb := hM.2.1
  have hown := hM.2.2.2.1
  have hts := hM.2.2.2.2
  have wRX2_32 : Cond.fieldLink RX2 32 "TimeNet" "wires" "LTimeNet$Wires;" ∈ wsX2_requireLinked := by decide +kernel
  have hinX2 : ∀ w ∈ wsX20, w ∈ wsX2_requireLinked := by decide +kernel
  have hl : lv_has ls 3 [(0, .ref (h 0)), (1, .int (nI i)), (2, .int (nI j))] := hl
  refine lv_aload_n hx hb dX2_requireLinked_0 rfl (lv_at hl 0 rfl) ?_
  refine q_get hM hG (C := RX2) (T := TX2) (n := 12) hinX2 0 rfl rfl 6 (by decide) wRX2_32 rfl (v := .ref (h 8)) rfl dX2_requireLinked_1 ?_
  refine lv_iload_n hx hb dX2_requireLinked_4 rfl (lv_at hl 1 rfl) ?_
  refine lv_iload_n hx hb dX2_requireLinked_5 rfl (lv_at hl 2 rfl) ?_
  refine q_callNi (n := 2) (As := [.int (nI i), .int (nI j)]) (rest := []) hM hl.1 hG (c_X1_areLinked l g h N tk dom gr va dr off rt cnt lk dl td K E ds i j hij hlk) rfl (host := RX2) gX2_requireLinked_X1_areLinked_n82 (by decide +kernel) (by decide +kernel) (by decide +kernel) (by decide +kernel) (by decide +kernel) ⟨Nat.le_of_ble_eq_true rfl, Nat.le_of_ble_eq_true rfl⟩ 8 rfl rfl rfl rfl rfl (Nat.le_of_ble_eq_true rfl) dX2_requireLinked_6 (c1 := 0) (s1 := 0) rfl rfl ⟨Nat.le_of_ble_eq_true rfl, Nat.le_of_ble_eq_true rfl⟩ (fun r_6 u_6 H locs hp_6 hG => ?_)
  rcases hp_6 with ⟨rfl, hp_6⟩ | ⟨rfl, hp_6⟩
  · refine lv_if_ne (tgt := 22) hx hb dX2_requireLinked_9 (by decide) (fun _ => ?_) (fun c9 => False.elim (by revert c9; decide))
    exact hRet () _ _ _ _ _ _ trivial hG (Nat.le_of_ble_eq_true rfl) (Nat.le_of_ble_eq_true rfl) dX2_requireLinked_22
  · refine lv_if_ne (tgt := 22) hx hb dX2_requireLinked_9 (by decide) (fun c9 => False.elim (by revert c9; decide)) (fun _ => ?_)
    exact absurd hok hp_6

set_option maxHeartbeats 4000000 in
set_option maxRecDepth 100000 in
theorem c_X2_requireLinked_x (l : Launch) (hl0 : l.stackTraces = false) (g : EN) (h : Nat → Nat) (N : Nat) (tk : Int32) (dom : Nat → Int32) (gr : Nat → Int32) (va : Nat → Int32) (dr : Nat → Int32) (off : Nat → Int64) (rt : Nat → Int64) (cnt : Int32) (lk : Nat → Int32) (dl : Nat → Int32) (td : Nat → Int32) (K : KT) (E : KT) (ds : Nat → Int32) (i j : Nat) (hij : i * 10 + j < 100) (hlk : b01 lk) (hno : ¬ (lk (i * 10 + j) = 1))  : Xv l yX2_requireLinked wsX2_requireLinked ({ frames := 6, cells := 1, slots := 6, locals := 82 }) g [.ref (h 0), .int (nI i), .int (nI j)] (cNet g h N tk dom gr va dr off rt cnt lk dl td K E ds) (fun E => E = "java/lang/IllegalStateException" ∧ ¬ (lk (i * 10 + j) = 1)) (fun (_ : Unit) => False) (fun (_ : Unit) => (cNet g h N tk dom gr va dr off rt cnt lk dl td K E ds)) := by
  refine Xv.of (cc := cX2_requireLinked) (maxL := 3) hl0 (by decide) rfl (Nat.le_of_ble_eq_true rfl) ?_
  intro p e s m args below meth c A Q ls hM hG hRet hThr hNew hl
  have hx := hM.1
  have hb := hM.2.1
  have hown := hM.2.2.2.1
  have hts := hM.2.2.2.2
  have wRX2_32 : Cond.fieldLink RX2 32 "TimeNet" "wires" "LTimeNet$Wires;" ∈ wsX2_requireLinked := by decide +kernel
  have hinX2 : ∀ w ∈ wsX20, w ∈ wsX2_requireLinked := by decide +kernel
  have hl : lv_has ls 3 [(0, .ref (h 0)), (1, .int (nI i)), (2, .int (nI j))] := hl
  refine lv_aload_n hx hb dX2_requireLinked_0 rfl (lv_at hl 0 rfl) ?_
  refine q_get hM hG (C := RX2) (T := TX2) (n := 12) hinX2 0 rfl rfl 6 (by decide) wRX2_32 rfl (v := .ref (h 8)) rfl dX2_requireLinked_1 ?_
  refine lv_iload_n hx hb dX2_requireLinked_4 rfl (lv_at hl 1 rfl) ?_
  refine lv_iload_n hx hb dX2_requireLinked_5 rfl (lv_at hl 2 rfl) ?_
  refine q_callNi (n := 2) (As := [.int (nI i), .int (nI j)]) (rest := []) hM hl.1 hG (c_X1_areLinked l g h N tk dom gr va dr off rt cnt lk dl td K E ds i j hij hlk) rfl (host := RX2) gX2_requireLinked_X1_areLinked_n82 (by decide +kernel) (by decide +kernel) (by decide +kernel) (by decide +kernel) (by decide +kernel) ⟨Nat.le_of_ble_eq_true rfl, Nat.le_of_ble_eq_true rfl⟩ 8 rfl rfl rfl rfl rfl (Nat.le_of_ble_eq_true rfl) dX2_requireLinked_6 (c1 := 0) (s1 := 0) rfl rfl ⟨Nat.le_of_ble_eq_true rfl, Nat.le_of_ble_eq_true rfl⟩ (fun r_6 u_6 H locs hp_6 hG => ?_)
  rcases hp_6 with ⟨rfl, hp_6⟩ | ⟨rfl, hp_6⟩
  · refine lv_if_ne (tgt := 22) hx hb dX2_requireLinked_9 (by decide) (fun _ => ?_) (fun c9 => False.elim (by revert c9; decide))
    exact absurd hp_6 hno
  · refine lv_if_ne (tgt := 22) hx hb dX2_requireLinked_9 (by decide) (fun c9 => False.elim (by revert c9; decide)) (fun _ => ?_)
    obtain ⟨sa9, hsa9⟩ := hG.2.2.2.2.1.2.2.2.2.2.2.2.2.1
    refine hNew RX2 "java/lang/IllegalStateException" "they are not linked" ["java/lang/RuntimeException", "java/lang/Exception"] 60 155 64 sa9 _ _ _ _ _ _ hown (by decide +kernel) (by decide +kernel) (hts (.classLink RX2 60 "java/lang/IllegalStateException") (by decide +kernel)) (hts (.initialized "java/lang/IllegalStateException") (by decide +kernel)) hsa9 ?_ (by decide +kernel) hG hl.1 dX2_requireLinked_12 dX2_requireLinked_15 dX2_requireLinked_16 dX2_requireLinked_18 dX2_requireLinked_21 (by decide) (by decide) (by decide) (by decide) (⟨rfl, hno⟩)
    exact q_at hM hG (by decide +kernel) (by decide +kernel)

set_option maxHeartbeats 4000000 in
set_option maxRecDepth 100000 in
theorem c_X2_areNeighbours (l : Launch) (g : EN) (h : Nat → Nat) (N : Nat) (tk : Int32) (dom : Nat → Int32) (gr : Nat → Int32) (va : Nat → Int32) (dr : Nat → Int32) (off : Nat → Int64) (rt : Nat → Int64) (cnt : Int32) (lk : Nat → Int32) (dl : Nat → Int32) (td : Nat → Int32) (K : KT) (E : KT) (ds : Nat → Int32) (i j : Nat) (hi : i < 10) (hj : j < 10) (hlk : b01 lk)  : Ci l yX2_areNeighbours wsX2_areNeighbours ({ frames := 2, cells := 0, slots := 0, locals := 43 }) g [.ref (h 0), .int (nI i), .int (nI j)] (cNet g h N tk dom gr va dr off rt cnt lk dl td K E ds) (fun (r : Int32) (_ : Unit) => bP r (nb dom lk i j)) (fun (_ : Unit) => (cNet g h N tk dom gr va dr off rt cnt lk dl td K E ds)) := by
  refine Cz.of (cc := cX2_areNeighbours) (maxL := 3) (by decide) rfl (Nat.le_of_ble_eq_true rfl) (fun r u h => bP.b h) ?_
  intro p e s m args below meth c A Q ls hM hG hRet hl
  have hx := hM.1
  have hb := hM.2.1
  have hown := hM.2.2.2.1
  have hts := hM.2.2.2.2
  have wRX2_9 : Cond.fieldLink RX2 9 "TimeNet" "domainOf" "[I" ∈ wsX2_areNeighbours := by decide +kernel
  have wRX2_32 : Cond.fieldLink RX2 32 "TimeNet" "wires" "LTimeNet$Wires;" ∈ wsX2_areNeighbours := by decide +kernel
  have hinX2 : ∀ w ∈ wsX20, w ∈ wsX2_areNeighbours := by decide +kernel
  have hl : lv_has ls 3 [(0, .ref (h 0)), (1, .int (nI i)), (2, .int (nI j))] := hl
  refine lv_aload_n hx hb dX2_areNeighbours_0 rfl (lv_at hl 0 rfl) ?_
  refine q_get hM hG (C := RX2) (T := TX2) (n := 12) hinX2 0 rfl rfl 0 (by decide) wRX2_9 rfl (v := .ref (h 1)) rfl dX2_areNeighbours_1 ?_
  refine lv_iload_n hx hb dX2_areNeighbours_4 rfl (lv_at hl 1 rfl) ?_
  refine q_iald hM hG 1 rfl hi (by decide) dX2_areNeighbours_5 ?_
  refine lv_aload_n hx hb dX2_areNeighbours_6 rfl (lv_at hl 0 rfl) ?_
  refine q_get hM hG (C := RX2) (T := TX2) (n := 12) hinX2 0 rfl rfl 0 (by decide) wRX2_9 rfl (v := .ref (h 1)) rfl dX2_areNeighbours_7 ?_
  refine lv_iload_n hx hb dX2_areNeighbours_10 rfl (lv_at hl 2 rfl) ?_
  refine q_iald hM hG 1 rfl hj (by decide) dX2_areNeighbours_11 ?_
  refine lv_icmp_ne (tgt := 31) hx hb dX2_areNeighbours_12 (by decide) (fun c_12 => ?_) (fun c_12 => ?_)
  · refine lv_iconst (v := 0) hx hb dX2_areNeighbours_31 (by decide) ?_
    exact hRet 0 () _ _ _ _ _ _ (bP.f (fun h9 => c_12 h9.1)) hG (Nat.le_of_ble_eq_true rfl) (Nat.le_of_ble_eq_true rfl) dX2_areNeighbours_32
  · refine lv_aload_n hx hb dX2_areNeighbours_15 rfl (lv_at hl 0 rfl) ?_
    refine q_get hM hG (C := RX2) (T := TX2) (n := 12) hinX2 0 rfl rfl 6 (by decide) wRX2_32 rfl (v := .ref (h 8)) rfl dX2_areNeighbours_16 ?_
    refine lv_iload_n hx hb dX2_areNeighbours_19 rfl (lv_at hl 1 rfl) ?_
    refine lv_iload_n hx hb dX2_areNeighbours_20 rfl (lv_at hl 2 rfl) ?_
    refine q_callNi (n := 2) (As := [.int (nI i), .int (nI j)]) (rest := []) hM hl.1 hG (c_X1_areLinked l g h N tk dom gr va dr off rt cnt lk dl td K E ds i j (by omega) hlk) rfl (host := RX2) gX2_areNeighbours_X1_areLinked_n82 (by decide +kernel) (by decide +kernel) (by decide +kernel) (by decide +kernel) (by decide +kernel) ⟨Nat.le_of_ble_eq_true rfl, Nat.le_of_ble_eq_true rfl⟩ 8 rfl rfl rfl rfl rfl (Nat.le_of_ble_eq_true rfl) dX2_areNeighbours_21 (c1 := 0) (s1 := 0) rfl rfl ⟨Nat.le_of_ble_eq_true rfl, Nat.le_of_ble_eq_true rfl⟩ (fun r_21 u_21 H locs hp_21 hG => ?_)
    rcases hp_21 with ⟨rfl, hp_21⟩ | ⟨rfl, hp_21⟩
    · refine lv_if_eq (tgt := 31) hx hb dX2_areNeighbours_24 (by decide) (fun c9 => False.elim (by revert c9; decide)) (fun _ => ?_)
      refine lv_iconst (v := 1) hx hb dX2_areNeighbours_27 (by decide) ?_
      refine lv_goto (tgt := 32) hx hb dX2_areNeighbours_28 (by decide) ?_
      exact hRet 1 () _ _ _ _ _ _ (bP.t ⟨c_12, hp_21⟩) hG (Nat.le_of_ble_eq_true rfl) (Nat.le_of_ble_eq_true rfl) dX2_areNeighbours_32
    · refine lv_if_eq (tgt := 31) hx hb dX2_areNeighbours_24 (by decide) (fun _ => ?_) (fun c9 => False.elim (by revert c9; decide))
      refine lv_iconst (v := 0) hx hb dX2_areNeighbours_31 (by decide) ?_
      exact hRet 0 () _ _ _ _ _ _ (bP.f (fun h9 => hp_21 h9.2)) hG (Nat.le_of_ble_eq_true rfl) (Nat.le_of_ble_eq_true rfl) dX2_areNeighbours_32

set_option maxHeartbeats 4000000 in
set_option maxRecDepth 100000 in
theorem c_X2_rankOf (l : Launch) (g : EN) (h : Nat → Nat) (N : Nat) (tk : Int32) (dom : Nat → Int32) (gr : Nat → Int32) (va : Nat → Int32) (dr : Nat → Int32) (off : Nat → Int64) (rt : Nat → Int64) (cnt : Int32) (lk : Nat → Int32) (dl : Nat → Int32) (td : Nat → Int32) (K : KT) (E : KT) (ds : Nat → Int32) (i : Nat) (hi : i < 10)  : Ci l yX2_rankOf wsX2_rankOf ({ frames := 0, cells := 0, slots := 0, locals := 0 }) g [.ref (h 0), .int (nI i)] (cNet g h N tk dom gr va dr off rt cnt lk dl td K E ds) (fun (r : Int32) (_ : Unit) => r = rk gr va i) (fun (_ : Unit) => (cNet g h N tk dom gr va dr off rt cnt lk dl td K E ds)) := by
  refine Ci.of (cc := cX2_rankOf) (maxL := 2) (by decide) rfl (Nat.le_of_ble_eq_true rfl) ?_
  intro p e s m args below meth c A Q ls hM hG hRet hl
  have hx := hM.1
  have hb := hM.2.1
  have hown := hM.2.2.2.1
  have hts := hM.2.2.2.2
  have wRX2_13 : Cond.fieldLink RX2 13 "TimeNet" "gradeOf" "[I" ∈ wsX2_rankOf := by decide +kernel
  have wRX2_16 : Cond.fieldLink RX2 16 "TimeNet" "varianceOf" "[I" ∈ wsX2_rankOf := by decide +kernel
  have hinX2 : ∀ w ∈ wsX20, w ∈ wsX2_rankOf := by decide +kernel
  have hl : lv_has ls 2 [(0, .ref (h 0)), (1, .int (nI i))] := hl
  refine lv_aload_n hx hb dX2_rankOf_0 rfl (lv_at hl 0 rfl) ?_
  refine q_get hM hG (C := RX2) (T := TX2) (n := 12) hinX2 0 rfl rfl 1 (by decide) wRX2_13 rfl (v := .ref (h 2)) rfl dX2_rankOf_1 ?_
  refine lv_iload_n hx hb dX2_rankOf_4 rfl (lv_at hl 1 rfl) ?_
  refine q_iald hM hG 2 rfl hi (by decide) dX2_rankOf_5 ?_
  refine lv_sipush (v := 1001) hx hb dX2_rankOf_6 (by decide) ?_
  refine lv_imul hx hb dX2_rankOf_9 ?_
  refine lv_aload_n hx hb dX2_rankOf_10 rfl (lv_at hl 0 rfl) ?_
  refine q_get hM hG (C := RX2) (T := TX2) (n := 12) hinX2 0 rfl rfl 2 (by decide) wRX2_16 rfl (v := .ref (h 3)) rfl dX2_rankOf_11 ?_
  refine lv_iload_n hx hb dX2_rankOf_14 rfl (lv_at hl 1 rfl) ?_
  refine q_iald hM hG 3 rfl hi (by decide) dX2_rankOf_15 ?_
  refine lv_iadd hx hb dX2_rankOf_16 ?_
  refine lv_bipush (v := 10) hx hb dX2_rankOf_17 (by decide) ?_
  refine lv_imul hx hb dX2_rankOf_19 ?_
  refine lv_iload_n hx hb dX2_rankOf_20 rfl (lv_at hl 1 rfl) ?_
  refine lv_iadd hx hb dX2_rankOf_21 ?_
  exact hRet (((((gr i) * 1001) + (va i)) * 10) + (nI i)) () _ _ _ _ _ _ rfl hG (Nat.le_of_ble_eq_true rfl) (Nat.le_of_ble_eq_true rfl) dX2_rankOf_22

set_option maxHeartbeats 4000000 in
set_option maxRecDepth 100000 in
theorem c_X2_knowOnlyItself (l : Launch) (g : EN) (h : Nat → Nat) (N : Nat) (tk : Int32) (dom : Nat → Int32) (gr : Nat → Int32) (va : Nat → Int32) (dr : Nat → Int32) (off : Nat → Int64) (rt : Nat → Int64) (cnt : Int32) (lk : Nat → Int32) (dl : Nat → Int32) (td : Nat → Int32) (K : KT) (E : KT) (ds : Nat → Int32) (i : Nat) (hi : i < 10)  : Cv l yX2_knowOnlyItself wsX2_knowOnlyItself ({ frames := 1, cells := 0, slots := 0, locals := 22 }) g [.ref (h 0), .int (nI i)] (cNet g h N tk dom gr va dr off rt cnt lk dl td K E ds) (fun (u : KT) => u = kst K i (rk gr va i)) (fun (u : KT) => (cNet g h N tk dom gr va dr off rt cnt lk dl td u E ds)) := by
  refine Cv.of (cc := cX2_knowOnlyItself) (maxL := 2) (by decide) rfl (Nat.le_of_ble_eq_true rfl) ?_
  intro p e s m args below meth c A Q ls hM hG hRet hl
  have hx := hM.1
  have hb := hM.2.1
  have hown := hM.2.2.2.1
  have hts := hM.2.2.2.2
  have wRX2_39 : Cond.fieldLink RX2 39 "TimeNet" "known" "LTimeNet$Knowledge;" ∈ wsX2_knowOnlyItself := by decide +kernel
  have hinX2 : ∀ w ∈ wsX20, w ∈ wsX2_knowOnlyItself := by decide +kernel
  have hl : lv_has ls 2 [(0, .ref (h 0)), (1, .int (nI i))] := hl
  refine lv_aload_n hx hb dX2_knowOnlyItself_0 rfl (lv_at hl 0 rfl) ?_
  refine q_get hM hG (C := RX2) (T := TX2) (n := 12) hinX2 0 rfl rfl 7 (by decide) wRX2_39 rfl (v := .ref (h 12)) rfl dX2_knowOnlyItself_1 ?_
  refine lv_iload_n hx hb dX2_knowOnlyItself_4 rfl (lv_at hl 1 rfl) ?_
  refine lv_aload_n hx hb dX2_knowOnlyItself_5 rfl (lv_at hl 0 rfl) ?_
  refine lv_iload_n hx hb dX2_knowOnlyItself_6 rfl (lv_at hl 1 rfl) ?_
  refine q_calli (n := 1) (As := [.int (nI i)]) (rest := [.int (nI i), .ref (h 12)]) hM hl.1 hG (c_X2_rankOf l g h N tk dom gr va dr off rt cnt lk dl td K E ds i hi) rfl gX2_knowOnlyItself_X2_rankOf (by decide +kernel) ⟨Nat.le_of_ble_eq_true rfl, Nat.le_of_ble_eq_true rfl⟩ 0 rfl rfl rfl rfl rfl (Nat.le_of_ble_eq_true rfl) dX2_knowOnlyItself_7 (c1 := 0) (s1 := 0) rfl rfl ⟨Nat.le_of_ble_eq_true rfl, Nat.le_of_ble_eq_true rfl⟩ (fun r_7 u_7 H locs hp_7 hG => ?_)
  subst hp_7
  refine q_callNv (n := 2) (As := [.int (nI i), .int (rk gr va i)]) (rest := []) hM hl.1 hG (c_X0_start l g h N tk dom gr va dr off rt cnt lk dl td K E ds i (rk gr va i) hi) rfl (host := RX2) gX2_knowOnlyItself_X0_start_n160 (by decide +kernel) (by decide +kernel) (by decide +kernel) (by decide +kernel) (by decide +kernel) ⟨Nat.le_of_ble_eq_true rfl, Nat.le_of_ble_eq_true rfl⟩ 12 rfl rfl rfl rfl rfl (Nat.le_of_ble_eq_true rfl) dX2_knowOnlyItself_10 (c1 := 0) (s1 := 0) rfl rfl ⟨Nat.le_of_ble_eq_true rfl, Nat.le_of_ble_eq_true rfl⟩ (fun u_10 H locs hp_10 hG => ?_)
  exact hRet u_10 _ _ _ _ _ _ hp_10 hG (Nat.le_of_ble_eq_true rfl) (Nat.le_of_ble_eq_true rfl) dX2_knowOnlyItself_13

set_option maxHeartbeats 4000000 in
set_option maxRecDepth 100000 in
theorem c_X2_forgetParent (l : Launch) (g : EN) (h : Nat → Nat) (N : Nat) (tk : Int32) (dom : Nat → Int32) (gr : Nat → Int32) (va : Nat → Int32) (dr : Nat → Int32) (off : Nat → Int64) (rt : Nat → Int64) (cnt : Int32) (lk : Nat → Int32) (dl : Nat → Int32) (td : Nat → Int32) (K : KT) (E : KT) (ds : Nat → Int32) (i j : Nat) (hi : i < 10)  : Cv l yX2_forgetParent wsX2_forgetParent ({ frames := 2, cells := 0, slots := 0, locals := 43 }) g [.ref (h 0), .int (nI i), .int (nI j)] (cNet g h N tk dom gr va dr off rt cnt lk dl td K E ds) (fun (u : KT) => u = kfp gr va K i j) (fun (u : KT) => (cNet g h N tk dom gr va dr off rt cnt lk dl td u E ds)) := by
  refine Cv.of (cc := cX2_forgetParent) (maxL := 3) (by decide) rfl (Nat.le_of_ble_eq_true rfl) ?_
  intro p e s m args below meth c A Q ls hM hG hRet hl
  have hx := hM.1
  have hb := hM.2.1
  have hown := hM.2.2.2.1
  have hts := hM.2.2.2.2
  have wRX2_39 : Cond.fieldLink RX2 39 "TimeNet" "known" "LTimeNet$Knowledge;" ∈ wsX2_forgetParent := by decide +kernel
  have hinX0 : ∀ w ∈ wsX00, w ∈ wsX2_forgetParent := by decide +kernel
  have hinX2 : ∀ w ∈ wsX20, w ∈ wsX2_forgetParent := by decide +kernel
  have hl : lv_has ls 3 [(0, .ref (h 0)), (1, .int (nI i)), (2, .int (nI j))] := hl
  refine lv_aload_n hx hb dX2_forgetParent_0 rfl (lv_at hl 0 rfl) ?_
  refine q_get hM hG (C := RX2) (T := TX2) (n := 12) hinX2 0 rfl rfl 7 (by decide) wRX2_39 rfl (v := .ref (h 12)) rfl dX2_forgetParent_1 ?_
  refine q_getN hM hG (C := RX0) (T := TX0) (n := 4) (host := RX2) hinX0 12 rfl rfl 3 (by decide) (by decide +kernel) rfl (v := .ref (h 16)) rfl dX2_forgetParent_4 ?_
  refine lv_iload_n hx hb dX2_forgetParent_7 rfl (lv_at hl 1 rfl) ?_
  refine q_iald hM hG 16 rfl hi (by decide) dX2_forgetParent_8 ?_
  refine lv_iload_n hx hb dX2_forgetParent_9 rfl (lv_at hl 2 rfl) ?_
  refine lv_icmp_ne (tgt := 18) hx hb dX2_forgetParent_10 (by decide) (fun c_10 => ?_) (fun c_10 => ?_)
  · exact hRet K _ _ _ _ _ _ ((if_neg c_10).symm) hG (Nat.le_of_ble_eq_true rfl) (Nat.le_of_ble_eq_true rfl) dX2_forgetParent_18
  · refine lv_aload_n hx hb dX2_forgetParent_13 rfl (lv_at hl 0 rfl) ?_
    refine lv_iload_n hx hb dX2_forgetParent_14 rfl (lv_at hl 1 rfl) ?_
    refine q_callv (n := 1) (As := [.int (nI i)]) (rest := []) hM hl.1 hG (c_X2_knowOnlyItself l g h N tk dom gr va dr off rt cnt lk dl td K E ds i hi) rfl gX2_forgetParent_X2_knowOnlyItself (by decide +kernel) ⟨Nat.le_of_ble_eq_true rfl, Nat.le_of_ble_eq_true rfl⟩ 0 rfl rfl rfl rfl rfl (Nat.le_of_ble_eq_true rfl) dX2_forgetParent_15 (c1 := 0) (s1 := 0) rfl rfl ⟨Nat.le_of_ble_eq_true rfl, Nat.le_of_ble_eq_true rfl⟩ (fun u_15 H locs hp_15 hG => ?_)
    exact hRet u_15 _ _ _ _ _ _ (hp_15.trans (if_pos c_10).symm) hG (Nat.le_of_ble_eq_true rfl) (Nat.le_of_ble_eq_true rfl) dX2_forgetParent_18

set_option maxHeartbeats 4000000 in
set_option maxRecDepth 100000 in
theorem c_X2_listen (l : Launch) (g : EN) (h : Nat → Nat) (N : Nat) (tk : Int32) (dom : Nat → Int32) (gr : Nat → Int32) (va : Nat → Int32) (dr : Nat → Int32) (off : Nat → Int64) (rt : Nat → Int64) (cnt : Int32) (lk : Nat → Int32) (dl : Nat → Int32) (td : Nat → Int32) (K : KT) (E : KT) (ds : Nat → Int32) (i : Nat) (hi : i < 10) (hN : N ≤ 10) (hlk : b01 lk)  : Cv l yX2_listen wsX2_listen ({ frames := 3, cells := 0, slots := 0, locals := 65 }) g [.ref (h 0), .int (nI i)] (cNet g h N tk dom gr va dr off rt cnt lk dl td K E ds) (fun (u : KT) => u = klis dom lk (rk gr va i) K E i N) (fun (u : KT) => (cNet g h N tk dom gr va dr off rt cnt lk dl td u E ds)) := by
  refine Cv.of (cc := cX2_listen) (maxL := 3) (by decide) rfl (Nat.le_of_ble_eq_true rfl) ?_
  intro p e s m args below meth c A Q ls hM hG hRet hl
  have hx := hM.1
  have hb := hM.2.1
  have hown := hM.2.2.2.1
  have hts := hM.2.2.2.2
  have wRX2_49 : Cond.fieldLink RX2 49 "TimeNet" "nodeCount" "I" ∈ wsX2_listen := by decide +kernel
  have wRX2_43 : Cond.fieldLink RX2 43 "TimeNet" "heard" "LTimeNet$Knowledge;" ∈ wsX2_listen := by decide +kernel
  have wRX2_39 : Cond.fieldLink RX2 39 "TimeNet" "known" "LTimeNet$Knowledge;" ∈ wsX2_listen := by decide +kernel
  have hinX2 : ∀ w ∈ wsX20, w ∈ wsX2_listen := by decide +kernel
  have hl : lv_has ls 3 [(0, .ref (h 0)), (1, .int (nI i))] := hl
  refine lv_aload_n hx hb dX2_listen_0 rfl (lv_at hl 0 rfl) ?_
  refine lv_iload_n hx hb dX2_listen_1 rfl (lv_at hl 1 rfl) ?_
  refine q_callv (n := 1) (As := [.int (nI i)]) (rest := []) hM hl.1 hG (c_X2_knowOnlyItself l g h N tk dom gr va dr off rt cnt lk dl td K E ds i hi) rfl gX2_listen_X2_knowOnlyItself (by decide +kernel) ⟨Nat.le_of_ble_eq_true rfl, Nat.le_of_ble_eq_true rfl⟩ 0 rfl rfl rfl rfl rfl (Nat.le_of_ble_eq_true rfl) dX2_listen_2 (c1 := 0) (s1 := 0) rfl rfl ⟨Nat.le_of_ble_eq_true rfl, Nat.le_of_ble_eq_true rfl⟩ (fun u_2 H locs hp_2 hG => ?_)
  refine lv_iconst (v := 0) hx hb dX2_listen_5 (by decide) ?_
  refine lv_istore_n (lv' := [(2, .int 0), (0, .ref (h 0)), (1, .int (nI i))]) hx hb dX2_listen_6 rfl hl (by decide) rfl (fun ls hl => ?_)
  have loop_7 : ∀ (n9 t : Nat) (K1 : KT), t ≤ N → N < t + n9 → (K1 = klis dom lk (rk gr va i) K E i t) → ∀ (H : Heap) (locs : List Loc), cC g (cNet g h N tk dom gr va dr off rt cnt lk dl td K1 E ds) A s H locs → ∀ (ls : Array Slot), lv_has ls 3 [(2, .int (nI t)), (0, .ref (h 0)), (1, .int (nI i))] → W p l e ({ frames := 3, cells := 0, slots := 0, locals := 65 } : Room) s m args below meth c H locs 0 0 Q (F0 m 7 ls []) := by
    intro n9
    induction n9 with
    | zero => intro t K1 h1 h2; exact absurd h2 (by omega)
    | succ n9 ih_7 =>
      intro t K1 hle_t hlt9 hinv_t H locs hG ls hl
      refine lv_iload_n hx hb dX2_listen_7 rfl (lv_at hl 0 rfl) ?_
      refine lv_aload_n hx hb dX2_listen_8 rfl (lv_at hl 1 rfl) ?_
      refine q_get hM hG (C := RX2) (T := TX2) (n := 12) hinX2 0 rfl rfl 10 (by decide) wRX2_49 rfl (v := .int (nI N)) rfl dX2_listen_9 ?_
      refine lv_icmp_ge (tgt := 55) hx hb dX2_listen_12 (by decide) (fun c_12 => ?_) (fun c_12 => ?_)
      · have ht : t = N := by have h9 := ctr_ge (a := t) (b := N) (by omega) (by omega) c_12; omega
        exact hRet K1 _ _ _ _ _ _ (by rw [← ht]; rw [ht] at hinv_t ⊢; exact hinv_t) hG (Nat.le_of_ble_eq_true rfl) (Nat.le_of_ble_eq_true rfl) dX2_listen_55
      · have ht : t < N := ctr_lt (by omega) (by omega) c_12
        have htx : t < 10 := by omega
        refine lv_aload_n hx hb dX2_listen_15 rfl (lv_at hl 1 rfl) ?_
        refine lv_iload_n hx hb dX2_listen_16 rfl (lv_at hl 2 rfl) ?_
        refine lv_iload_n hx hb dX2_listen_17 rfl (lv_at hl 0 rfl) ?_
        refine q_calli (n := 2) (As := [.int (nI i), .int (nI t)]) (rest := []) hM hl.1 hG (c_X2_areNeighbours l g h N tk dom gr va dr off rt cnt lk dl td K1 E ds i t hi htx hlk) rfl gX2_listen_X2_areNeighbours (by decide +kernel) ⟨Nat.le_of_ble_eq_true rfl, Nat.le_of_ble_eq_true rfl⟩ 0 rfl rfl rfl rfl rfl (Nat.le_of_ble_eq_true rfl) dX2_listen_18 (c1 := 0) (s1 := 0) rfl rfl ⟨Nat.le_of_ble_eq_true rfl, Nat.le_of_ble_eq_true rfl⟩ (fun r_18 u_18 H locs hp_18 hG => ?_)
        rcases hp_18 with ⟨rfl, hp_18⟩ | ⟨rfl, hp_18⟩
        · refine lv_if_eq (tgt := 49) hx hb dX2_listen_21 (by decide) (fun c9 => False.elim (by revert c9; decide)) (fun _ => ?_)
          refine lv_aload_n hx hb dX2_listen_24 rfl (lv_at hl 1 rfl) ?_
          refine q_get hM hG (C := RX2) (T := TX2) (n := 12) hinX2 0 rfl rfl 8 (by decide) wRX2_43 rfl (v := .ref (h 17)) rfl dX2_listen_25 ?_
          refine lv_iload_n hx hb dX2_listen_28 rfl (lv_at hl 0 rfl) ?_
          refine lv_iload_n hx hb dX2_listen_29 rfl (lv_at hl 2 rfl) ?_
          refine q_callNi (n := 2) (As := [.int (nI t), .int (nI i)]) (rest := []) hM hl.1 hG (c_X0_reaches l g h N tk dom gr va dr off rt cnt lk dl td K1 E ds t i htx) rfl (host := RX2) gX2_listen_X0_reaches_n170 (by decide +kernel) (by decide +kernel) (by decide +kernel) (by decide +kernel) (by decide +kernel) ⟨Nat.le_of_ble_eq_true rfl, Nat.le_of_ble_eq_true rfl⟩ 17 rfl rfl rfl rfl rfl (Nat.le_of_ble_eq_true rfl) dX2_listen_30 (c1 := 0) (s1 := 0) rfl rfl ⟨Nat.le_of_ble_eq_true rfl, Nat.le_of_ble_eq_true rfl⟩ (fun r_30 u_30 H locs hp_30 hG => ?_)
          rcases hp_30 with ⟨rfl, hp_30⟩ | ⟨rfl, hp_30⟩
          · refine lv_if_eq (tgt := 49) hx hb dX2_listen_33 (by decide) (fun c9 => False.elim (by revert c9; decide)) (fun _ => ?_)
            refine lv_aload_n hx hb dX2_listen_36 rfl (lv_at hl 1 rfl) ?_
            refine q_get hM hG (C := RX2) (T := TX2) (n := 12) hinX2 0 rfl rfl 7 (by decide) wRX2_39 rfl (v := .ref (h 12)) rfl dX2_listen_37 ?_
            refine lv_iload_n hx hb dX2_listen_40 rfl (lv_at hl 2 rfl) ?_
            refine lv_iload_n hx hb dX2_listen_41 rfl (lv_at hl 0 rfl) ?_
            refine lv_aload_n hx hb dX2_listen_42 rfl (lv_at hl 1 rfl) ?_
            refine q_get hM hG (C := RX2) (T := TX2) (n := 12) hinX2 0 rfl rfl 8 (by decide) wRX2_43 rfl (v := .ref (h 17)) rfl dX2_listen_43 ?_
            refine q_callNv (n := 3) (As := [.int (nI i), .int (nI t), .ref (h 17)]) (rest := []) hM hl.1 hG (c_X0_takeIfBetter l g h N tk dom gr va dr off rt cnt lk dl td K1 E ds i t hi htx) rfl (host := RX2) gX2_listen_X0_takeIfBetter_n173 (by decide +kernel) (by decide +kernel) (by decide +kernel) (by decide +kernel) (by decide +kernel) ⟨Nat.le_of_ble_eq_true rfl, Nat.le_of_ble_eq_true rfl⟩ 12 rfl rfl rfl rfl rfl (Nat.le_of_ble_eq_true rfl) dX2_listen_46 (c1 := 0) (s1 := 0) rfl rfl ⟨Nat.le_of_ble_eq_true rfl, Nat.le_of_ble_eq_true rfl⟩ (fun u_46 H locs hp_46 hG => ?_)
            refine lv_iinc (v := (nI (t + 1))) (lv' := [(2, .int (nI (t + 1))), (0, .ref (h 0)), (1, .int (nI i))]) hx hb dX2_listen_49 hl (k := 0) rfl (nI_1 t) (by decide) rfl (fun ls hl => ?_)
            refine lv_goto (tgt := 7) hx hb dX2_listen_52 (by decide) ?_
            exact ih_7 (t + 1) u_46 (by omega) (by omega) (by rw [hp_46, hinv_t]; exact (klis_t ⟨hp_18, hp_30⟩).symm) _ _ hG _ (lv_sub hl [0, 1, 2] rfl)
          · refine lv_if_eq (tgt := 49) hx hb dX2_listen_33 (by decide) (fun _ => ?_) (fun c9 => False.elim (by revert c9; decide))
            refine lv_iinc (v := (nI (t + 1))) (lv' := [(2, .int (nI (t + 1))), (0, .ref (h 0)), (1, .int (nI i))]) hx hb dX2_listen_49 hl (k := 0) rfl (nI_1 t) (by decide) rfl (fun ls hl => ?_)
            refine lv_goto (tgt := 7) hx hb dX2_listen_52 (by decide) ?_
            exact ih_7 (t + 1) K1 (by omega) (by omega) (hinv_t.trans (klis_f (fun h9 => hp_30 h9.2)).symm) _ _ hG _ (lv_sub hl [0, 1, 2] rfl)
        · refine lv_if_eq (tgt := 49) hx hb dX2_listen_21 (by decide) (fun _ => ?_) (fun c9 => False.elim (by revert c9; decide))
          refine lv_iinc (v := (nI (t + 1))) (lv' := [(2, .int (nI (t + 1))), (0, .ref (h 0)), (1, .int (nI i))]) hx hb dX2_listen_49 hl (k := 0) rfl (nI_1 t) (by decide) rfl (fun ls hl => ?_)
          refine lv_goto (tgt := 7) hx hb dX2_listen_52 (by decide) ?_
          exact ih_7 (t + 1) K1 (by omega) (by omega) (hinv_t.trans (klis_f (fun h9 => hp_18 h9.1)).symm) _ _ hG _ (lv_sub hl [0, 1, 2] rfl)
  exact loop_7 (N + 1) 0 u_2 (by omega) (by omega) hp_2 _ _ hG _ (lv_sub hl [0, 1, 2] rfl)

set_option maxHeartbeats 4000000 in
set_option maxRecDepth 100000 in
theorem c_X2_announce (l : Launch) (g : EN) (h : Nat → Nat) (N : Nat) (tk : Int32) (dom : Nat → Int32) (gr : Nat → Int32) (va : Nat → Int32) (dr : Nat → Int32) (off : Nat → Int64) (rt : Nat → Int64) (cnt : Int32) (lk : Nat → Int32) (dl : Nat → Int32) (td : Nat → Int32) (K : KT) (E : KT) (ds : Nat → Int32) (hN : N ≤ 10) (hlk : b01 lk)  : Cv l yX2_announce wsX2_announce ({ frames := 4, cells := 0, slots := 0, locals := 87 }) g [.ref (h 0)] (cNet g h N tk dom gr va dr off rt cnt lk dl td K E ds) (fun (u : KT × KT) => cpK K u.2 10 ∧ u.1 = kann dom lk gr va N K u.2 N) (fun (u : KT × KT) => (cNet g h N tk dom gr va dr off rt cnt lk dl td u.1 u.2 ds)) := by
  refine Cv.of (cc := cX2_announce) (maxL := 2) (by decide) rfl (Nat.le_of_ble_eq_true rfl) ?_
  intro p e s m args below meth c A Q ls hM hG hRet hl
  have hx := hM.1
  have hb := hM.2.1
  have hown := hM.2.2.2.1
  have hts := hM.2.2.2.2
  have wRX2_43 : Cond.fieldLink RX2 43 "TimeNet" "heard" "LTimeNet$Knowledge;" ∈ wsX2_announce := by decide +kernel
  have wRX2_39 : Cond.fieldLink RX2 39 "TimeNet" "known" "LTimeNet$Knowledge;" ∈ wsX2_announce := by decide +kernel
  have wRX2_49 : Cond.fieldLink RX2 49 "TimeNet" "nodeCount" "I" ∈ wsX2_announce := by decide +kernel
  have hinX2 : ∀ w ∈ wsX20, w ∈ wsX2_announce := by decide +kernel
  have hl : lv_has ls 2 [(0, .ref (h 0))] := hl
  refine lv_aload_n hx hb dX2_announce_0 rfl (lv_at hl 0 rfl) ?_
  refine q_get hM hG (C := RX2) (T := TX2) (n := 12) hinX2 0 rfl rfl 8 (by decide) wRX2_43 rfl (v := .ref (h 17)) rfl dX2_announce_1 ?_
  refine lv_aload_n hx hb dX2_announce_4 rfl (lv_at hl 0 rfl) ?_
  refine q_get hM hG (C := RX2) (T := TX2) (n := 12) hinX2 0 rfl rfl 7 (by decide) wRX2_39 rfl (v := .ref (h 12)) rfl dX2_announce_5 ?_
  refine q_callNv (n := 1) (As := [.ref (h 12)]) (rest := []) hM hl.1 hG (c_X0_copyFrom l g h N tk dom gr va dr off rt cnt lk dl td K E ds ) rfl (host := RX2) gX2_announce_X0_copyFrom_n163 (by decide +kernel) (by decide +kernel) (by decide +kernel) (by decide +kernel) (by decide +kernel) ⟨Nat.le_of_ble_eq_true rfl, Nat.le_of_ble_eq_true rfl⟩ 17 rfl rfl rfl rfl rfl (Nat.le_of_ble_eq_true rfl) dX2_announce_8 (c1 := 0) (s1 := 0) rfl rfl ⟨Nat.le_of_ble_eq_true rfl, Nat.le_of_ble_eq_true rfl⟩ (fun u_8 H locs hp_8 hG => ?_)
  refine lv_iconst (v := 0) hx hb dX2_announce_11 (by decide) ?_
  refine lv_istore_n (lv' := [(1, .int 0), (0, .ref (h 0))]) hx hb dX2_announce_12 rfl hl (by decide) rfl (fun ls hl => ?_)
  have loop_13 : ∀ (n9 i : Nat) (K1 : KT), i ≤ N → N < i + n9 → (K1 = kann dom lk gr va N K u_8 i) → ∀ (H : Heap) (locs : List Loc), cC g (cNet g h N tk dom gr va dr off rt cnt lk dl td K1 u_8 ds) A s H locs → ∀ (ls : Array Slot), lv_has ls 2 [(1, .int (nI i)), (0, .ref (h 0))] → W p l e ({ frames := 4, cells := 0, slots := 0, locals := 87 } : Room) s m args below meth c H locs 0 0 Q (F0 m 13 ls []) := by
    intro n9
    induction n9 with
    | zero => intro i K1 h1 h2; exact absurd h2 (by omega)
    | succ n9 ih_13 =>
      intro i K1 hle_i hlt9 hinv_i H locs hG ls hl
      refine lv_iload_n hx hb dX2_announce_13 rfl (lv_at hl 0 rfl) ?_
      refine lv_aload_n hx hb dX2_announce_14 rfl (lv_at hl 1 rfl) ?_
      refine q_get hM hG (C := RX2) (T := TX2) (n := 12) hinX2 0 rfl rfl 10 (by decide) wRX2_49 rfl (v := .int (nI N)) rfl dX2_announce_15 ?_
      refine lv_icmp_ge (tgt := 32) hx hb dX2_announce_18 (by decide) (fun c_18 => ?_) (fun c_18 => ?_)
      · have hi : i = N := by have h9 := ctr_ge (a := i) (b := N) (by omega) (by omega) c_18; omega
        exact hRet (K1, u_8) _ _ _ _ _ _ (⟨hp_8, by rw [hi] at hinv_i; exact hinv_i⟩) hG (Nat.le_of_ble_eq_true rfl) (Nat.le_of_ble_eq_true rfl) dX2_announce_32
      · have hi : i < N := ctr_lt (by omega) (by omega) c_18
        have hix : i < 10 := by omega
        refine lv_aload_n hx hb dX2_announce_21 rfl (lv_at hl 1 rfl) ?_
        refine lv_iload_n hx hb dX2_announce_22 rfl (lv_at hl 0 rfl) ?_
        refine q_callv (n := 1) (As := [.int (nI i)]) (rest := []) hM hl.1 hG (c_X2_listen l g h N tk dom gr va dr off rt cnt lk dl td K1 u_8 ds i hix hN hlk) rfl gX2_announce_X2_listen (by decide +kernel) ⟨Nat.le_of_ble_eq_true rfl, Nat.le_of_ble_eq_true rfl⟩ 0 rfl rfl rfl rfl rfl (Nat.le_of_ble_eq_true rfl) dX2_announce_23 (c1 := 0) (s1 := 0) rfl rfl ⟨Nat.le_of_ble_eq_true rfl, Nat.le_of_ble_eq_true rfl⟩ (fun u_23 H locs hp_23 hG => ?_)
        refine lv_iinc (v := (nI (i + 1))) (lv' := [(1, .int (nI (i + 1))), (0, .ref (h 0))]) hx hb dX2_announce_26 hl (k := 0) rfl (nI_1 i) (by decide) rfl (fun ls hl => ?_)
        refine lv_goto (tgt := 13) hx hb dX2_announce_29 (by decide) ?_
        exact ih_13 (i + 1) u_23 (by omega) (by omega) (by rw [hp_23, hinv_i]; rfl) _ _ hG _ (lv_sub hl [0, 1] rfl)
  exact loop_13 (N + 1) 0 K (by omega) (by omega) rfl _ _ hG _ (lv_sub hl [0, 1] rfl)

set_option maxHeartbeats 4000000 in
set_option maxRecDepth 100000 in
theorem c_X2_isNearer (l : Launch) (g : EN) (h : Nat → Nat) (N : Nat) (tk : Int32) (dom : Nat → Int32) (gr : Nat → Int32) (va : Nat → Int32) (dr : Nat → Int32) (off : Nat → Int64) (rt : Nat → Int64) (cnt : Int32) (lk : Nat → Int32) (dl : Nat → Int32) (td : Nat → Int32) (K : KT) (E : KT) (ds : Nat → Int32) (i j : Nat) (hi : i < 10) (hj : j < 10)  : Ci l yX2_isNearer wsX2_isNearer ({ frames := 0, cells := 0, slots := 0, locals := 0 }) g [.ref (h 0), .int (nI i), .int (nI j)] (cNet g h N tk dom gr va dr off rt cnt lk dl td K E ds) (fun (r : Int32) (_ : Unit) => bP r (K.2.2.1 i < K.2.2.1 j ∨ K.2.2.1 i = K.2.2.1 j ∧ i < j)) (fun (_ : Unit) => (cNet g h N tk dom gr va dr off rt cnt lk dl td K E ds)) := by
  refine Cz.of (cc := cX2_isNearer) (maxL := 5) (by decide) rfl (Nat.le_of_ble_eq_true rfl) (fun r u h => bP.b h) ?_
  intro p e s m args below meth c A Q ls hM hG hRet hl
  have hx := hM.1
  have hb := hM.2.1
  have hown := hM.2.2.2.1
  have hts := hM.2.2.2.2
  have wRX2_39 : Cond.fieldLink RX2 39 "TimeNet" "known" "LTimeNet$Knowledge;" ∈ wsX2_isNearer := by decide +kernel
  have hinX0 : ∀ w ∈ wsX00, w ∈ wsX2_isNearer := by decide +kernel
  have hinX2 : ∀ w ∈ wsX20, w ∈ wsX2_isNearer := by decide +kernel
  have hl : lv_has ls 5 [(0, .ref (h 0)), (1, .int (nI i)), (2, .int (nI j))] := hl
  refine lv_aload_n hx hb dX2_isNearer_0 rfl (lv_at hl 0 rfl) ?_
  refine q_get hM hG (C := RX2) (T := TX2) (n := 12) hinX2 0 rfl rfl 7 (by decide) wRX2_39 rfl (v := .ref (h 12)) rfl dX2_isNearer_1 ?_
  refine q_getN hM hG (C := RX0) (T := TX0) (n := 4) (host := RX2) hinX0 12 rfl rfl 2 (by decide) (by decide +kernel) rfl (v := .ref (h 15)) rfl dX2_isNearer_4 ?_
  refine lv_iload_n hx hb dX2_isNearer_7 rfl (lv_at hl 1 rfl) ?_
  refine q_iald hM hG 15 rfl hi (by decide) dX2_isNearer_8 ?_
  refine lv_istore_n (lv' := [(3, .int (K.2.2.1 i)), (0, .ref (h 0)), (1, .int (nI i)), (2, .int (nI j))]) hx hb dX2_isNearer_9 rfl hl (by decide) rfl (fun ls hl => ?_)
  refine lv_aload_n hx hb dX2_isNearer_10 rfl (lv_at hl 1 rfl) ?_
  refine q_get hM hG (C := RX2) (T := TX2) (n := 12) hinX2 0 rfl rfl 7 (by decide) wRX2_39 rfl (v := .ref (h 12)) rfl dX2_isNearer_11 ?_
  refine q_getN hM hG (C := RX0) (T := TX0) (n := 4) (host := RX2) hinX0 12 rfl rfl 2 (by decide) (by decide +kernel) rfl (v := .ref (h 15)) rfl dX2_isNearer_14 ?_
  refine lv_iload_n hx hb dX2_isNearer_17 rfl (lv_at hl 3 rfl) ?_
  refine q_iald hM hG 15 rfl hj (by decide) dX2_isNearer_18 ?_
  refine lv_istore (lv' := [(4, .int (K.2.2.1 j)), (3, .int (K.2.2.1 i)), (0, .ref (h 0)), (1, .int (nI i)), (2, .int (nI j))]) hx hb dX2_isNearer_19 hl (by decide) rfl (fun ls hl => ?_)
  refine lv_iload_n hx hb dX2_isNearer_21 rfl (lv_at hl 1 rfl) ?_
  refine lv_iload hx hb dX2_isNearer_22 (lv_at hl 0 rfl) ?_
  refine lv_icmp_lt (tgt := 38) hx hb dX2_isNearer_24 (by decide) (fun c_24 => ?_) (fun c_24 => ?_)
  · refine lv_iconst (v := 1) hx hb dX2_isNearer_38 (by decide) ?_
    refine lv_goto (tgt := 43) hx hb dX2_isNearer_39 (by decide) ?_
    exact hRet 1 () _ _ _ _ _ _ (bP.t (Or.inl c_24)) hG (Nat.le_of_ble_eq_true rfl) (Nat.le_of_ble_eq_true rfl) dX2_isNearer_43
  · refine lv_iload_n hx hb dX2_isNearer_27 rfl (lv_at hl 1 rfl) ?_
    refine lv_iload hx hb dX2_isNearer_28 (lv_at hl 0 rfl) ?_
    refine lv_icmp_ne (tgt := 42) hx hb dX2_isNearer_30 (by decide) (fun c_30 => ?_) (fun c_30 => ?_)
    · refine lv_iconst (v := 0) hx hb dX2_isNearer_42 (by decide) ?_
      exact hRet 0 () _ _ _ _ _ _ (bP.f (fun h9 => h9.elim c_24 (fun h8 => c_30 h8.1))) hG (Nat.le_of_ble_eq_true rfl) (Nat.le_of_ble_eq_true rfl) dX2_isNearer_43
    · refine lv_iload_n hx hb dX2_isNearer_33 rfl (lv_at hl 3 rfl) ?_
      refine lv_iload_n hx hb dX2_isNearer_34 rfl (lv_at hl 4 rfl) ?_
      refine lv_icmp_ge (tgt := 42) hx hb dX2_isNearer_35 (by decide) (fun c_35 => ?_) (fun c_35 => ?_)
      · refine lv_iconst (v := 0) hx hb dX2_isNearer_42 (by decide) ?_
        exact hRet 0 () _ _ _ _ _ _ (bP.f (fun h9 => h9.elim c_24 (fun h8 => absurd (ctr_ge (by omega) (by omega) c_35) (by omega)))) hG (Nat.le_of_ble_eq_true rfl) (Nat.le_of_ble_eq_true rfl) dX2_isNearer_43
      · refine lv_iconst (v := 1) hx hb dX2_isNearer_38 (by decide) ?_
        refine lv_goto (tgt := 43) hx hb dX2_isNearer_39 (by decide) ?_
        exact hRet 1 () _ _ _ _ _ _ (bP.t (Or.inr ⟨c_30, ctr_lt (by omega) (by omega) c_35⟩)) hG (Nat.le_of_ble_eq_true rfl) (Nat.le_of_ble_eq_true rfl) dX2_isNearer_43

set_option maxHeartbeats 4000000 in
set_option maxRecDepth 100000 in
theorem c_X2_reachNeighbours (l : Launch) (g : EN) (h : Nat → Nat) (N : Nat) (tk : Int32) (dom : Nat → Int32) (gr : Nat → Int32) (va : Nat → Int32) (dr : Nat → Int32) (off : Nat → Int64) (rt : Nat → Int64) (cnt : Int32) (lk : Nat → Int32) (dl : Nat → Int32) (td : Nat → Int32) (K : KT) (E : KT) (ds : Nat → Int32) (a D : Nat) (ha : a < 10) (hN : N ≤ 10) (hlk : b01 lk)  : Cv l yX2_reachNeighbours wsX2_reachNeighbours ({ frames := 3, cells := 0, slots := 0, locals := 65 }) g [.ref (h 0), .int (nI a), .int (nI D)] (cNet g h N tk dom gr va dr off rt cnt lk dl td K E ds) (fun (u : Nat → Int32) => isRn N dom lk a D ds N u) (fun (u : Nat → Int32) => (cNet g h N tk dom gr va dr off rt cnt lk dl td K E u)) := by
  refine Cv.of (cc := cX2_reachNeighbours) (maxL := 4) (by decide) rfl (Nat.le_of_ble_eq_true rfl) ?_
  intro p e s m args below meth c A Q ls hM hG hRet hl
  have hx := hM.1
  have hb := hM.2.1
  have hown := hM.2.2.2.1
  have hts := hM.2.2.2.2
  have wRX2_49 : Cond.fieldLink RX2 49 "TimeNet" "nodeCount" "I" ∈ wsX2_reachNeighbours := by decide +kernel
  have wRX2_46 : Cond.fieldLink RX2 46 "TimeNet" "distanceTo" "[I" ∈ wsX2_reachNeighbours := by decide +kernel
  have hinX2 : ∀ w ∈ wsX20, w ∈ wsX2_reachNeighbours := by decide +kernel
  have hl : lv_has ls 4 [(0, .ref (h 0)), (1, .int (nI a)), (2, .int (nI D))] := hl
  refine lv_iconst (v := 0) hx hb dX2_reachNeighbours_0 (by decide) ?_
  refine lv_istore_n (lv' := [(3, .int 0), (0, .ref (h 0)), (1, .int (nI a)), (2, .int (nI D))]) hx hb dX2_reachNeighbours_1 rfl hl (by decide) rfl (fun ls hl => ?_)
  have loop_2 : ∀ (n9 j : Nat) (f : Nat → Int32), j ≤ N → N < j + n9 → (isRn N dom lk a D ds j f) → ∀ (H : Heap) (locs : List Loc), cC g (cNet g h N tk dom gr va dr off rt cnt lk dl td K E f) A s H locs → ∀ (ls : Array Slot), lv_has ls 4 [(3, .int (nI j)), (0, .ref (h 0)), (1, .int (nI a)), (2, .int (nI D))] → W p l e ({ frames := 3, cells := 0, slots := 0, locals := 65 } : Room) s m args below meth c H locs 0 0 Q (F0 m 2 ls []) := by
    intro n9
    induction n9 with
    | zero => intro j f h1 h2; exact absurd h2 (by omega)
    | succ n9 ih_2 =>
      intro j f hle_j hlt9 hinv_j H locs hG ls hl
      refine lv_iload_n hx hb dX2_reachNeighbours_2 rfl (lv_at hl 0 rfl) ?_
      refine lv_aload_n hx hb dX2_reachNeighbours_3 rfl (lv_at hl 1 rfl) ?_
      refine q_get hM hG (C := RX2) (T := TX2) (n := 12) hinX2 0 rfl rfl 10 (by decide) wRX2_49 rfl (v := .int (nI N)) rfl dX2_reachNeighbours_4 ?_
      refine lv_icmp_ge (tgt := 42) hx hb dX2_reachNeighbours_7 (by decide) (fun c_7 => ?_) (fun c_7 => ?_)
      · have hj : j = N := by have h9 := ctr_ge (a := j) (b := N) (by omega) (by omega) c_7; omega
        exact hRet f _ _ _ _ _ _ (by rw [hj] at hinv_j; exact hinv_j) hG (Nat.le_of_ble_eq_true rfl) (Nat.le_of_ble_eq_true rfl) dX2_reachNeighbours_42
      · have hj : j < N := ctr_lt (by omega) (by omega) c_7
        have hjx : j < 10 := by omega
        refine lv_aload_n hx hb dX2_reachNeighbours_10 rfl (lv_at hl 1 rfl) ?_
        refine q_get hM hG (C := RX2) (T := TX2) (n := 12) hinX2 0 rfl rfl 9 (by decide) wRX2_46 rfl (v := .ref (h 7)) rfl dX2_reachNeighbours_11 ?_
        refine lv_iload_n hx hb dX2_reachNeighbours_14 rfl (lv_at hl 0 rfl) ?_
        refine q_iald hM hG 7 rfl hjx (by decide) dX2_reachNeighbours_15 ?_
        refine lv_iconst (v := (-1)) hx hb dX2_reachNeighbours_16 (by decide) ?_
        refine lv_icmp_ne (tgt := 36) hx hb dX2_reachNeighbours_17 (by decide) (fun c_17 => ?_) (fun c_17 => ?_)
        · refine lv_iinc (v := (nI (j + 1))) (lv' := [(3, .int (nI (j + 1))), (0, .ref (h 0)), (1, .int (nI a)), (2, .int (nI D))]) hx hb dX2_reachNeighbours_36 hl (k := 0) rfl (nI_1 j) (by decide) rfl (fun ls hl => ?_)
          refine lv_goto (tgt := 2) hx hb dX2_reachNeighbours_39 (by decide) ?_
          exact ih_2 (j + 1) f (by omega) (by omega) (isRn_skip hinv_j (fun h9 => c_17 ((isRn_at hj hinv_j).trans h9.1))) _ _ hG _ (lv_sub hl [0, 1, 2, 3] rfl)
        · refine lv_aload_n hx hb dX2_reachNeighbours_20 rfl (lv_at hl 1 rfl) ?_
          refine lv_iload_n hx hb dX2_reachNeighbours_21 rfl (lv_at hl 2 rfl) ?_
          refine lv_iload_n hx hb dX2_reachNeighbours_22 rfl (lv_at hl 0 rfl) ?_
          refine q_calli (n := 2) (As := [.int (nI a), .int (nI j)]) (rest := []) hM hl.1 hG (c_X2_areNeighbours l g h N tk dom gr va dr off rt cnt lk dl td K E f a j ha hjx hlk) rfl gX2_reachNeighbours_X2_areNeighbours (by decide +kernel) ⟨Nat.le_of_ble_eq_true rfl, Nat.le_of_ble_eq_true rfl⟩ 0 rfl rfl rfl rfl rfl (Nat.le_of_ble_eq_true rfl) dX2_reachNeighbours_23 (c1 := 0) (s1 := 0) rfl rfl ⟨Nat.le_of_ble_eq_true rfl, Nat.le_of_ble_eq_true rfl⟩ (fun r_23 u_23 H locs hp_23 hG => ?_)
          rcases hp_23 with ⟨rfl, hp_23⟩ | ⟨rfl, hp_23⟩
          · refine lv_if_eq (tgt := 36) hx hb dX2_reachNeighbours_26 (by decide) (fun c9 => False.elim (by revert c9; decide)) (fun _ => ?_)
            refine lv_aload_n hx hb dX2_reachNeighbours_29 rfl (lv_at hl 1 rfl) ?_
            refine q_get hM hG (C := RX2) (T := TX2) (n := 12) hinX2 0 rfl rfl 9 (by decide) wRX2_46 rfl (v := .ref (h 7)) rfl dX2_reachNeighbours_30 ?_
            refine lv_iload_n hx hb dX2_reachNeighbours_33 rfl (lv_at hl 0 rfl) ?_
            refine lv_iload_n hx hb dX2_reachNeighbours_34 rfl (lv_at hl 3 rfl) ?_
            refine q_iast hM hG 7 rfl hjx (by decide) (ws1 := (cNet g h N tk dom gr va dr off rt cnt lk dl td K E (upd f j (nI D)))) rfl dX2_reachNeighbours_35 (fun H locs hG => ?_)
            refine lv_iinc (v := (nI (j + 1))) (lv' := [(3, .int (nI (j + 1))), (0, .ref (h 0)), (1, .int (nI a)), (2, .int (nI D))]) hx hb dX2_reachNeighbours_36 hl (k := 0) rfl (nI_1 j) (by decide) rfl (fun ls hl => ?_)
            refine lv_goto (tgt := 2) hx hb dX2_reachNeighbours_39 (by decide) ?_
            exact ih_2 (j + 1) (upd f j (nI D)) (by omega) (by omega) (isRn_set hinv_j ⟨(isRn_at hj hinv_j).symm.trans c_17, hp_23⟩) _ _ hG _ (lv_sub hl [0, 1, 2, 3] rfl)
          · refine lv_if_eq (tgt := 36) hx hb dX2_reachNeighbours_26 (by decide) (fun _ => ?_) (fun c9 => False.elim (by revert c9; decide))
            refine lv_iinc (v := (nI (j + 1))) (lv' := [(3, .int (nI (j + 1))), (0, .ref (h 0)), (1, .int (nI a)), (2, .int (nI D))]) hx hb dX2_reachNeighbours_36 hl (k := 0) rfl (nI_1 j) (by decide) rfl (fun ls hl => ?_)
            refine lv_goto (tgt := 2) hx hb dX2_reachNeighbours_39 (by decide) ?_
            exact ih_2 (j + 1) f (by omega) (by omega) (isRn_skip hinv_j (fun h9 => hp_23 h9.2)) _ _ hG _ (lv_sub hl [0, 1, 2, 3] rfl)
  exact loop_2 (N + 1) 0 ds (by omega) (by omega) isRn_0 _ _ hG _ (lv_sub hl [0, 1, 2, 3] rfl)

set_option maxHeartbeats 4000000 in
set_option maxRecDepth 100000 in
theorem c_X2_measureDistances (l : Launch) (g : EN) (h : Nat → Nat) (N : Nat) (tk : Int32) (dom : Nat → Int32) (gr : Nat → Int32) (va : Nat → Int32) (dr : Nat → Int32) (off : Nat → Int64) (rt : Nat → Int64) (cnt : Int32) (lk : Nat → Int32) (dl : Nat → Int32) (td : Nat → Int32) (K : KT) (E : KT) (ds : Nat → Int32) (s0 : Nat) (hs : s0 < N) (hN : N ≤ 10) (hlk : b01 lk)  : Cv l yX2_measureDistances wsX2_measureDistances ({ frames := 4, cells := 0, slots := 0, locals := 88 }) g [.ref (h 0), .int (nI s0)] (cNet g h N tk dom gr va dr off rt cnt lk dl td K E ds) (fun (u : Nat → Int32) => isDist N dom lk s0 u) (fun (u : Nat → Int32) => (cNet g h N tk dom gr va dr off rt cnt lk dl td K E u)) := by
  refine Cv.of (cc := cX2_measureDistances) (maxL := 4) (by decide) rfl (Nat.le_of_ble_eq_true rfl) ?_
  intro p e s m args below meth c A Q ls hM hG hRet hl
  have hx := hM.1
  have hb := hM.2.1
  have hown := hM.2.2.2.1
  have hts := hM.2.2.2.2
  have wRX2_49 : Cond.fieldLink RX2 49 "TimeNet" "nodeCount" "I" ∈ wsX2_measureDistances := by decide +kernel
  have wRX2_46 : Cond.fieldLink RX2 46 "TimeNet" "distanceTo" "[I" ∈ wsX2_measureDistances := by decide +kernel
  have hinX2 : ∀ w ∈ wsX20, w ∈ wsX2_measureDistances := by decide +kernel
  have hl : lv_has ls 4 [(0, .ref (h 0)), (1, .int (nI s0))] := hl
  have hsx : s0 < 10 := by omega
  refine lv_iconst (v := 0) hx hb dX2_measureDistances_0 (by decide) ?_
  refine lv_istore_n (lv' := [(2, .int 0), (0, .ref (h 0)), (1, .int (nI s0))]) hx hb dX2_measureDistances_1 rfl hl (by decide) rfl (fun ls hl => ?_)
  have loop_2 : ∀ (n9 k : Nat) (f1 : Nat → Int32), k ≤ N → N < k + n9 → (∀ j, j < k → f1 j = -1) → ∀ (H : Heap) (locs : List Loc), cC g (cNet g h N tk dom gr va dr off rt cnt lk dl td K E f1) A s H locs → ∀ (ls : Array Slot), lv_has ls 4 [(2, .int (nI k)), (0, .ref (h 0)), (1, .int (nI s0))] → W p l e ({ frames := 4, cells := 0, slots := 0, locals := 88 } : Room) s m args below meth c H locs 0 0 Q (F0 m 2 ls []) := by
    intro n9
    induction n9 with
    | zero => intro k f1 h1 h2; exact absurd h2 (by omega)
    | succ n9 ih_2 =>
      intro k f1 hle_k hlt9 hinv_k H locs hG ls hl
      refine lv_iload_n hx hb dX2_measureDistances_2 rfl (lv_at hl 0 rfl) ?_
      refine lv_aload_n hx hb dX2_measureDistances_3 rfl (lv_at hl 1 rfl) ?_
      refine q_get hM hG (C := RX2) (T := TX2) (n := 12) hinX2 0 rfl rfl 10 (by decide) wRX2_49 rfl (v := .int (nI N)) rfl dX2_measureDistances_4 ?_
      refine lv_icmp_ge (tgt := 23) hx hb dX2_measureDistances_7 (by decide) (fun c_7 => ?_) (fun c_7 => ?_)
      · have hk : k = N := by have h9 := ctr_ge (a := k) (b := N) (by omega) (by omega) c_7; omega
        refine lv_aload_n hx hb dX2_measureDistances_23 rfl (lv_at hl 1 rfl) ?_
        refine q_get hM hG (C := RX2) (T := TX2) (n := 12) hinX2 0 rfl rfl 9 (by decide) wRX2_46 rfl (v := .ref (h 7)) rfl dX2_measureDistances_24 ?_
        refine lv_iload_n hx hb dX2_measureDistances_27 rfl (lv_at hl 2 rfl) ?_
        refine lv_iconst (v := 0) hx hb dX2_measureDistances_28 (by decide) ?_
        refine q_iast hM hG 7 rfl hsx (by decide) (ws1 := (cNet g h N tk dom gr va dr off rt cnt lk dl td K E (upd f1 s0 0))) rfl dX2_measureDistances_29 (fun H locs hG => ?_)
        refine lv_iconst (v := 0) hx hb dX2_measureDistances_30 (by decide) ?_
        refine lv_istore_n (lv' := [(2, .int 0), (0, .ref (h 0)), (1, .int (nI s0))]) hx hb dX2_measureDistances_31 rfl hl (by decide) rfl (fun ls hl => ?_)
        have loop_32 : ∀ (n9 d : Nat) (f2 : Nat → Int32), d ≤ N → N < d + n9 → (isLev N dom lk s0 d f2) → ∀ (H : Heap) (locs : List Loc), cC g (cNet g h N tk dom gr va dr off rt cnt lk dl td K E f2) A s H locs → ∀ (ls : Array Slot), lv_has ls 4 [(2, .int (nI d)), (0, .ref (h 0)), (1, .int (nI s0))] → W p l e ({ frames := 4, cells := 0, slots := 0, locals := 88 } : Room) s m args below meth c H locs 0 0 Q (F0 m 32 ls []) := by
          intro n9
          induction n9 with
          | zero => intro d f2 h1 h2; exact absurd h2 (by omega)
          | succ n9 ih_32 =>
            intro d f2 hle_d hlt9 hinv_d H locs hG ls hl
            refine lv_iload_n hx hb dX2_measureDistances_32 rfl (lv_at hl 0 rfl) ?_
            refine lv_aload_n hx hb dX2_measureDistances_33 rfl (lv_at hl 1 rfl) ?_
            refine q_get hM hG (C := RX2) (T := TX2) (n := 12) hinX2 0 rfl rfl 10 (by decide) wRX2_49 rfl (v := .int (nI N)) rfl dX2_measureDistances_34 ?_
            refine lv_icmp_ge (tgt := 80) hx hb dX2_measureDistances_37 (by decide) (fun c_37 => ?_) (fun c_37 => ?_)
            · have hd : d = N := by have h9 := ctr_ge (a := d) (b := N) (by omega) (by omega) c_37; omega
              exact hRet f2 _ _ _ _ _ _ (lev_dist (by omega) hinv_d) hG (Nat.le_of_ble_eq_true rfl) (Nat.le_of_ble_eq_true rfl) dX2_measureDistances_80
            · have hd : d < N := ctr_lt (by omega) (by omega) c_37
              have hdx : d < 10 := by omega
              refine lv_iconst (v := 0) hx hb dX2_measureDistances_40 (by decide) ?_
              refine lv_istore_n (lv' := [(3, .int 0), (2, .int (nI d)), (0, .ref (h 0)), (1, .int (nI s0))]) hx hb dX2_measureDistances_41 rfl hl (by decide) rfl (fun ls hl => ?_)
              have loop_42 : ∀ (n9 a : Nat) (f3 : Nat → Int32), a ≤ N → N < a + n9 → (isPar N dom lk d f2 a f3) → ∀ (H : Heap) (locs : List Loc), cC g (cNet g h N tk dom gr va dr off rt cnt lk dl td K E f3) A s H locs → ∀ (ls : Array Slot), lv_has ls 4 [(3, .int (nI a)), (2, .int (nI d)), (0, .ref (h 0)), (1, .int (nI s0))] → W p l e ({ frames := 4, cells := 0, slots := 0, locals := 88 } : Room) s m args below meth c H locs 0 0 Q (F0 m 42 ls []) := by
                intro n9
                induction n9 with
                | zero => intro a f3 h1 h2; exact absurd h2 (by omega)
                | succ n9 ih_42 =>
                  intro a f3 hle_a hlt9 hinv_a H locs hG ls hl
                  refine lv_iload_n hx hb dX2_measureDistances_42 rfl (lv_at hl 0 rfl) ?_
                  refine lv_aload_n hx hb dX2_measureDistances_43 rfl (lv_at hl 2 rfl) ?_
                  refine q_get hM hG (C := RX2) (T := TX2) (n := 12) hinX2 0 rfl rfl 10 (by decide) wRX2_49 rfl (v := .int (nI N)) rfl dX2_measureDistances_44 ?_
                  refine lv_icmp_ge (tgt := 74) hx hb dX2_measureDistances_47 (by decide) (fun c_47 => ?_) (fun c_47 => ?_)
                  · have ha : a = N := by have h9 := ctr_ge (a := a) (b := N) (by omega) (by omega) c_47; omega
                    refine lv_iinc (v := (nI (d + 1))) (lv' := [(2, .int (nI (d + 1))), (3, .int (nI a)), (0, .ref (h 0)), (1, .int (nI s0))]) hx hb dX2_measureDistances_74 hl (k := 1) rfl (nI_1 d) (by decide) rfl (fun ls hl => ?_)
                    refine lv_goto (tgt := 32) hx hb dX2_measureDistances_77 (by decide) ?_
                    exact ih_32 (d + 1) f3 (by omega) (by omega) (isLev_s (by omega) hinv_d (by rw [ha] at hinv_a; exact hinv_a)) _ _ hG _ (lv_sub hl [0, 2, 3] rfl)
                  · have ha : a < N := ctr_lt (by omega) (by omega) c_47
                    have hax : a < 10 := by omega
                    refine lv_aload_n hx hb dX2_measureDistances_50 rfl (lv_at hl 2 rfl) ?_
                    refine q_get hM hG (C := RX2) (T := TX2) (n := 12) hinX2 0 rfl rfl 9 (by decide) wRX2_46 rfl (v := .ref (h 7)) rfl dX2_measureDistances_51 ?_
                    refine lv_iload_n hx hb dX2_measureDistances_54 rfl (lv_at hl 0 rfl) ?_
                    refine q_iald hM hG 7 rfl hax (by decide) dX2_measureDistances_55 ?_
                    refine lv_iload_n hx hb dX2_measureDistances_56 rfl (lv_at hl 1 rfl) ?_
                    refine lv_icmp_ne (tgt := 68) hx hb dX2_measureDistances_57 (by decide) (fun c_57 => ?_) (fun c_57 => ?_)
                    · refine lv_iinc (v := (nI (a + 1))) (lv' := [(3, .int (nI (a + 1))), (2, .int (nI d)), (0, .ref (h 0)), (1, .int (nI s0))]) hx hb dX2_measureDistances_68 hl (k := 0) rfl (nI_1 a) (by decide) rfl (fun ls hl => ?_)
                      refine lv_goto (tgt := 42) hx hb dX2_measureDistances_71 (by decide) ?_
                      exact ih_42 (a + 1) f3 (by omega) (by omega) (isPar_skip hinv_a (fun h9 => c_57 ((isPar_at (by omega) ha hinv_a).mpr h9))) _ _ hG _ (lv_sub hl [0, 1, 2, 3] rfl)
                    · refine lv_aload_n hx hb dX2_measureDistances_60 rfl (lv_at hl 2 rfl) ?_
                      refine lv_iload_n hx hb dX2_measureDistances_61 rfl (lv_at hl 0 rfl) ?_
                      refine lv_iload_n hx hb dX2_measureDistances_62 rfl (lv_at hl 1 rfl) ?_
                      refine lv_iconst (v := 1) hx hb dX2_measureDistances_63 (by decide) ?_
                      refine lv_iadd hx hb dX2_measureDistances_64 ?_
                      refine q_ren (nI_1 d) ?_
                      refine q_callv (n := 2) (As := [.int (nI a), .int (nI (d + 1))]) (rest := []) hM hl.1 hG (c_X2_reachNeighbours l g h N tk dom gr va dr off rt cnt lk dl td K E f3 a (d + 1) hax hN hlk) rfl gX2_measureDistances_X2_reachNeighbours (by decide +kernel) ⟨Nat.le_of_ble_eq_true rfl, Nat.le_of_ble_eq_true rfl⟩ 0 rfl rfl rfl rfl rfl (Nat.le_of_ble_eq_true rfl) dX2_measureDistances_65 (c1 := 0) (s1 := 0) rfl rfl ⟨Nat.le_of_ble_eq_true rfl, Nat.le_of_ble_eq_true rfl⟩ (fun u_65 H locs hp_65 hG => ?_)
                      refine lv_iinc (v := (nI (a + 1))) (lv' := [(3, .int (nI (a + 1))), (2, .int (nI d)), (0, .ref (h 0)), (1, .int (nI s0))]) hx hb dX2_measureDistances_68 hl (k := 0) rfl (nI_1 a) (by decide) rfl (fun ls hl => ?_)
                      refine lv_goto (tgt := 42) hx hb dX2_measureDistances_71 (by decide) ?_
                      exact ih_42 (a + 1) u_65 (by omega) (by omega) (isPar_set (by omega) hinv_a ((isPar_at (by omega) ha hinv_a).mp c_57) hp_65) _ _ hG _ (lv_sub hl [0, 1, 2, 3] rfl)
              exact loop_42 (N + 1) 0 f2 (by omega) (by omega) isPar_0 _ _ hG _ (lv_sub hl [0, 1, 2, 3] rfl)
        exact loop_32 (N + 1) 0 (upd f1 s0 0) (by omega) (by omega) (isLev_0 (by rw [hk] at hinv_k; exact hinv_k)) _ _ hG _ (lv_sub hl [0, 1, 2] rfl)
      · have hk : k < N := ctr_lt (by omega) (by omega) c_7
        have hkx : k < 10 := by omega
        refine lv_aload_n hx hb dX2_measureDistances_10 rfl (lv_at hl 1 rfl) ?_
        refine q_get hM hG (C := RX2) (T := TX2) (n := 12) hinX2 0 rfl rfl 9 (by decide) wRX2_46 rfl (v := .ref (h 7)) rfl dX2_measureDistances_11 ?_
        refine lv_iload_n hx hb dX2_measureDistances_14 rfl (lv_at hl 0 rfl) ?_
        refine lv_iconst (v := (-1)) hx hb dX2_measureDistances_15 (by decide) ?_
        refine q_iast hM hG 7 rfl hkx (by decide) (ws1 := (cNet g h N tk dom gr va dr off rt cnt lk dl td K E (upd f1 k (-1 : Int32)))) rfl dX2_measureDistances_16 (fun H locs hG => ?_)
        refine lv_iinc (v := (nI (k + 1))) (lv' := [(2, .int (nI (k + 1))), (0, .ref (h 0)), (1, .int (nI s0))]) hx hb dX2_measureDistances_17 hl (k := 0) rfl (nI_1 k) (by decide) rfl (fun ls hl => ?_)
        refine lv_goto (tgt := 2) hx hb dX2_measureDistances_20 (by decide) ?_
        exact ih_2 (k + 1) (upd f1 k (-1 : Int32)) (by omega) (by omega) (fun j h9 => by by_cases e9 : j = k; (subst e9; exact pk_us); exact (pk_un e9).trans (hinv_k j (by omega))) _ _ hG _ (lv_sub hl [0, 1, 2] rfl)
  exact loop_2 (N + 1) 0 ds (by omega) (by omega) (fun j h9 => absurd h9 (Nat.not_lt_zero _)) _ _ hG _ (lv_sub hl [0, 1, 2] rfl)

set_option maxHeartbeats 4000000 in
set_option maxRecDepth 100000 in
theorem c_X2_bestInReach (l : Launch) (g : EN) (h : Nat → Nat) (N : Nat) (tk : Int32) (dom : Nat → Int32) (gr : Nat → Int32) (va : Nat → Int32) (dr : Nat → Int32) (off : Nat → Int64) (rt : Nat → Int64) (cnt : Int32) (lk : Nat → Int32) (dl : Nat → Int32) (td : Nat → Int32) (K : KT) (E : KT) (ds : Nat → Int32) (s0 : Nat) (hs : s0 < N) (hN : N ≤ 10) (hg : rng gr va) (hf : ¬ ds s0 = -1)  : Ci l yX2_bestInReach wsX2_bestInReach ({ frames := 1, cells := 0, slots := 0, locals := 21 }) g [.ref (h 0), .int (nI s0)] (cNet g h N tk dom gr va dr off rt cnt lk dl td K E ds) (fun (r : Int32) (w : Nat) => r = nI w ∧ isBest N gr va ds w) (fun (_ : Nat) => (cNet g h N tk dom gr va dr off rt cnt lk dl td K E ds)) := by
  refine Ci.of (cc := cX2_bestInReach) (maxL := 4) (by decide) rfl (Nat.le_of_ble_eq_true rfl) ?_
  intro p e s m args below meth c A Q ls hM hG hRet hl
  have hx := hM.1
  have hb := hM.2.1
  have hown := hM.2.2.2.1
  have hts := hM.2.2.2.2
  have wRX2_49 : Cond.fieldLink RX2 49 "TimeNet" "nodeCount" "I" ∈ wsX2_bestInReach := by decide +kernel
  have wRX2_46 : Cond.fieldLink RX2 46 "TimeNet" "distanceTo" "[I" ∈ wsX2_bestInReach := by decide +kernel
  have hinX2 : ∀ w ∈ wsX20, w ∈ wsX2_bestInReach := by decide +kernel
  have hl : lv_has ls 4 [(0, .ref (h 0)), (1, .int (nI s0))] := hl
  refine lv_iload_n hx hb dX2_bestInReach_0 rfl (lv_at hl 1 rfl) ?_
  refine lv_istore_n (lv' := [(2, .int (nI s0)), (0, .ref (h 0)), (1, .int (nI s0))]) hx hb dX2_bestInReach_1 rfl hl (by decide) rfl (fun ls hl => ?_)
  refine lv_iconst (v := 0) hx hb dX2_bestInReach_2 (by decide) ?_
  refine lv_istore_n (lv' := [(3, .int 0), (2, .int (nI s0)), (0, .ref (h 0)), (1, .int (nI s0))]) hx hb dX2_bestInReach_3 rfl hl (by decide) rfl (fun ls hl => ?_)
  have loop_4 : ∀ (n9 k : Nat) (w : Nat), k ≤ N → N < k + n9 → (bestTo gr va ds N k w) → ∀ (H : Heap) (locs : List Loc), cC g (cNet g h N tk dom gr va dr off rt cnt lk dl td K E ds) A s H locs → ∀ (ls : Array Slot), lv_has ls 4 [(3, .int (nI k)), (2, .int (nI w)), (0, .ref (h 0)), (1, .int (nI s0))] → W p l e ({ frames := 1, cells := 0, slots := 0, locals := 21 } : Room) s m args below meth c H locs 0 0 Q (F0 m 4 ls []) := by
    intro n9
    induction n9 with
    | zero => intro k w h1 h2; exact absurd h2 (by omega)
    | succ n9 ih_4 =>
      intro k w hle_k hlt9 hinv_k H locs hG ls hl
      refine lv_iload_n hx hb dX2_bestInReach_4 rfl (lv_at hl 0 rfl) ?_
      refine lv_aload_n hx hb dX2_bestInReach_5 rfl (lv_at hl 2 rfl) ?_
      refine q_get hM hG (C := RX2) (T := TX2) (n := 12) hinX2 0 rfl rfl 10 (by decide) wRX2_49 rfl (v := .int (nI N)) rfl dX2_bestInReach_6 ?_
      refine lv_icmp_ge (tgt := 43) hx hb dX2_bestInReach_9 (by decide) (fun c_9 => ?_) (fun c_9 => ?_)
      · have hk : k = N := by have h9 := ctr_ge (a := k) (b := N) (by omega) (by omega) c_9; omega
        refine lv_iload_n hx hb dX2_bestInReach_43 rfl (lv_at hl 1 rfl) ?_
        exact hRet (nI w) w _ _ _ _ _ _ (⟨rfl, by rw [hk] at hinv_k; exact hinv_k⟩) hG (Nat.le_of_ble_eq_true rfl) (Nat.le_of_ble_eq_true rfl) dX2_bestInReach_44
      · have hk : k < N := ctr_lt (by omega) (by omega) c_9
        have hkx : k < 10 := by omega
        refine lv_aload_n hx hb dX2_bestInReach_12 rfl (lv_at hl 2 rfl) ?_
        refine q_get hM hG (C := RX2) (T := TX2) (n := 12) hinX2 0 rfl rfl 9 (by decide) wRX2_46 rfl (v := .ref (h 7)) rfl dX2_bestInReach_13 ?_
        refine lv_iload_n hx hb dX2_bestInReach_16 rfl (lv_at hl 0 rfl) ?_
        refine q_iald hM hG 7 rfl hkx (by decide) dX2_bestInReach_17 ?_
        refine lv_iconst (v := (-1)) hx hb dX2_bestInReach_18 (by decide) ?_
        refine lv_icmp_eq (tgt := 37) hx hb dX2_bestInReach_19 (by decide) (fun c_19 => ?_) (fun c_19 => ?_)
        · refine lv_iinc (v := (nI (k + 1))) (lv' := [(3, .int (nI (k + 1))), (2, .int (nI w)), (0, .ref (h 0)), (1, .int (nI s0))]) hx hb dX2_bestInReach_37 hl (k := 0) rfl (nI_1 k) (by decide) rfl (fun ls hl => ?_)
          refine lv_goto (tgt := 4) hx hb dX2_bestInReach_40 (by decide) ?_
          exact ih_4 (k + 1) w (by omega) (by omega) (bestTo_skip hinv_k (Or.inl c_19)) _ _ hG _ (lv_sub hl [0, 1, 2, 3] rfl)
        · refine lv_aload_n hx hb dX2_bestInReach_22 rfl (lv_at hl 2 rfl) ?_
          refine lv_iload_n hx hb dX2_bestInReach_23 rfl (lv_at hl 0 rfl) ?_
          refine q_calli (n := 1) (As := [.int (nI k)]) (rest := []) hM hl.1 hG (c_X2_rankOf l g h N tk dom gr va dr off rt cnt lk dl td K E ds k hkx) rfl gX2_bestInReach_X2_rankOf (by decide +kernel) ⟨Nat.le_of_ble_eq_true rfl, Nat.le_of_ble_eq_true rfl⟩ 0 rfl rfl rfl rfl rfl (Nat.le_of_ble_eq_true rfl) dX2_bestInReach_24 (c1 := 0) (s1 := 0) rfl rfl ⟨Nat.le_of_ble_eq_true rfl, Nat.le_of_ble_eq_true rfl⟩ (fun r_24 u_24 H locs hp_24 hG => ?_)
          subst hp_24
          refine lv_aload_n hx hb dX2_bestInReach_27 rfl (lv_at hl 2 rfl) ?_
          refine lv_iload_n hx hb dX2_bestInReach_28 rfl (lv_at hl 1 rfl) ?_
          refine q_calli (n := 1) (As := [.int (nI w)]) (rest := [.int (rk gr va k)]) hM hl.1 hG (c_X2_rankOf l g h N tk dom gr va dr off rt cnt lk dl td K E ds w (by have h9 := hinv_k.1; omega)) rfl gX2_bestInReach_X2_rankOf (by decide +kernel) ⟨Nat.le_of_ble_eq_true rfl, Nat.le_of_ble_eq_true rfl⟩ 0 rfl rfl rfl rfl rfl (Nat.le_of_ble_eq_true rfl) dX2_bestInReach_29 (c1 := 0) (s1 := 0) rfl rfl ⟨Nat.le_of_ble_eq_true rfl, Nat.le_of_ble_eq_true rfl⟩ (fun r_29 u_29 H locs hp_29 hG => ?_)
          subst hp_29
          refine lv_icmp_ge (tgt := 37) hx hb dX2_bestInReach_32 (by decide) (fun c_32 => ?_) (fun c_32 => ?_)
          · refine lv_iinc (v := (nI (k + 1))) (lv' := [(3, .int (nI (k + 1))), (2, .int (nI w)), (0, .ref (h 0)), (1, .int (nI s0))]) hx hb dX2_bestInReach_37 hl (k := 0) rfl (nI_1 k) (by decide) rfl (fun ls hl => ?_)
            refine lv_goto (tgt := 4) hx hb dX2_bestInReach_40 (by decide) ?_
            exact ih_4 (k + 1) w (by omega) (by omega) (bestTo_skip hinv_k (Or.inr (fun h9 => nlt ((rk_btr hg hkx (by have h8 := hinv_k.1; omega)).mpr h9) c_32))) _ _ hG _ (lv_sub hl [0, 1, 2, 3] rfl)
          · refine lv_iload_n hx hb dX2_bestInReach_35 rfl (lv_at hl 0 rfl) ?_
            refine lv_istore_n (lv' := [(2, .int (nI k)), (3, .int (nI k)), (0, .ref (h 0)), (1, .int (nI s0))]) hx hb dX2_bestInReach_36 rfl hl (by decide) rfl (fun ls hl => ?_)
            refine lv_iinc (v := (nI (k + 1))) (lv' := [(3, .int (nI (k + 1))), (2, .int (nI k)), (0, .ref (h 0)), (1, .int (nI s0))]) hx hb dX2_bestInReach_37 hl (k := 1) rfl (nI_1 k) (by decide) rfl (fun ls hl => ?_)
            refine lv_goto (tgt := 4) hx hb dX2_bestInReach_40 (by decide) ?_
            exact ih_4 (k + 1) k (by omega) (by omega) (bestTo_take hN hk hg hinv_k c_19 ((rk_btr hg hkx (by have h8 := hinv_k.1; omega)).mp (nle c_32))) _ _ hG _ (lv_sub hl [0, 1, 2, 3] rfl)
  exact loop_4 (N + 1) 0 s0 (by omega) (by omega) (⟨hs, hf, fun j h9 => absurd h9 (Nat.not_lt_zero _)⟩) _ _ hG _ (lv_sub hl [0, 1, 2, 3] rfl)

set_option maxHeartbeats 4000000 in
set_option maxRecDepth 100000 in
theorem c_X2_steer (l : Launch) (g : EN) (h : Nat → Nat) (N : Nat) (tk : Int32) (dom : Nat → Int32) (gr : Nat → Int32) (va : Nat → Int32) (dr : Nat → Int32) (off : Nat → Int64) (rt : Nat → Int64) (cnt : Int32) (lk : Nat → Int32) (dl : Nat → Int32) (td : Nat → Int32) (K : KT) (E : KT) (ds : Nat → Int32) (i : Nat) (hi : i < 10) (hN : N ≤ 10)  : Cv l yX2_steer wsX2_steer ({ frames := 2, cells := 0, slots := 0, locals := 45 }) g [.ref (h 0), .int (nI i)] (cNet g h N tk dom gr va dr off rt cnt lk dl td K E ds) (fun (u : OR) => u = stf N K.2.2.2 dl td (off, rt) i) (fun (u : OR) => (cNet g h N tk dom gr va dr u.1 u.2 cnt lk dl td K E ds)) := by
  refine Cv.of (cc := cX2_steer) (maxL := 5) (by decide) rfl (Nat.le_of_ble_eq_true rfl) ?_
  intro p e s m args below meth c A Q ls hM hG hRet hl
  have hx := hM.1
  have hb := hM.2.1
  have hown := hM.2.2.2.1
  have hts := hM.2.2.2.2
  have wRX2_39 : Cond.fieldLink RX2 39 "TimeNet" "known" "LTimeNet$Knowledge;" ∈ wsX2_steer := by decide +kernel
  have wRX2_22 : Cond.fieldLink RX2 22 "TimeNet" "offsetOf" "[J" ∈ wsX2_steer := by decide +kernel
  have wRX2_32 : Cond.fieldLink RX2 32 "TimeNet" "wires" "LTimeNet$Wires;" ∈ wsX2_steer := by decide +kernel
  have wRX2_26 : Cond.fieldLink RX2 26 "TimeNet" "rateOf" "[J" ∈ wsX2_steer := by decide +kernel
  have hinX0 : ∀ w ∈ wsX00, w ∈ wsX2_steer := by decide +kernel
  have hinX2 : ∀ w ∈ wsX20, w ∈ wsX2_steer := by decide +kernel
  have hl : lv_has ls 5 [(0, .ref (h 0)), (1, .int (nI i))] := hl
  refine lv_aload_n hx hb dX2_steer_0 rfl (lv_at hl 0 rfl) ?_
  refine q_get hM hG (C := RX2) (T := TX2) (n := 12) hinX2 0 rfl rfl 7 (by decide) wRX2_39 rfl (v := .ref (h 12)) rfl dX2_steer_1 ?_
  refine q_getN hM hG (C := RX0) (T := TX0) (n := 4) (host := RX2) hinX0 12 rfl rfl 3 (by decide) (by decide +kernel) rfl (v := .ref (h 16)) rfl dX2_steer_4 ?_
  refine lv_iload_n hx hb dX2_steer_7 rfl (lv_at hl 1 rfl) ?_
  refine q_iald hM hG 16 rfl hi (by decide) dX2_steer_8 ?_
  refine lv_istore_n (lv' := [(2, .int (K.2.2.2 i)), (0, .ref (h 0)), (1, .int (nI i))]) hx hb dX2_steer_9 rfl hl (by decide) rfl (fun ls hl => ?_)
  refine lv_aload_n hx hb dX2_steer_10 rfl (lv_at hl 1 rfl) ?_
  refine lv_iload_n hx hb dX2_steer_11 rfl (lv_at hl 0 rfl) ?_
  refine q_calli (n := 1) (As := [.int (K.2.2.2 i)]) (rest := []) hM hl.1 hG (c_X2_isNode l g h N tk dom gr va dr off rt cnt lk dl td K E ds (K.2.2.2 i) hN) rfl gX2_steer_X2_isNode (by decide +kernel) ⟨Nat.le_of_ble_eq_true rfl, Nat.le_of_ble_eq_true rfl⟩ 0 rfl rfl rfl rfl rfl (Nat.le_of_ble_eq_true rfl) dX2_steer_12 (c1 := 0) (s1 := 0) rfl rfl ⟨Nat.le_of_ble_eq_true rfl, Nat.le_of_ble_eq_true rfl⟩ (fun r_12 u_12 H locs hp_12 hG => ?_)
  rcases hp_12 with ⟨rfl, hp_12⟩ | ⟨rfl, hp_12⟩
  · obtain ⟨q, hq, eq9⟩ := hp_12
    have hqx : q < 10 := by omega
    rw [eq9] at hl
    refine lv_if_ne (tgt := 19) hx hb dX2_steer_15 (by decide) (fun _ => ?_) (fun c9 => False.elim (by revert c9; decide))
    refine lv_aload_n hx hb dX2_steer_19 rfl (lv_at hl 1 rfl) ?_
    refine q_get hM hG (C := RX2) (T := TX2) (n := 12) hinX2 0 rfl rfl 4 (by decide) wRX2_22 rfl (v := .ref (h 5)) rfl dX2_steer_20 ?_
    refine lv_iload_n hx hb dX2_steer_23 rfl (lv_at hl 2 rfl) ?_
    refine q_lald hM hG 5 rfl hi (by decide) dX2_steer_24 ?_
    refine lv_aload_n hx hb dX2_steer_25 rfl (lv_at hl 1 rfl) ?_
    refine q_get hM hG (C := RX2) (T := TX2) (n := 12) hinX2 0 rfl rfl 4 (by decide) wRX2_22 rfl (v := .ref (h 5)) rfl dX2_steer_26 ?_
    refine lv_iload_n hx hb dX2_steer_29 rfl (lv_at hl 0 rfl) ?_
    refine q_lald hM hG 5 rfl hqx (by decide) dX2_steer_30 ?_
    refine lv_lsub hx hb dX2_steer_31 ?_
    refine lv_aload_n hx hb dX2_steer_32 rfl (lv_at hl 1 rfl) ?_
    refine q_get hM hG (C := RX2) (T := TX2) (n := 12) hinX2 0 rfl rfl 6 (by decide) wRX2_32 rfl (v := .ref (h 8)) rfl dX2_steer_33 ?_
    refine lv_iload_n hx hb dX2_steer_36 rfl (lv_at hl 0 rfl) ?_
    refine lv_iload_n hx hb dX2_steer_37 rfl (lv_at hl 2 rfl) ?_
    refine q_callNi (n := 2) (As := [.int (nI q), .int (nI i)]) (rest := [.long ((off i) - (off q))]) hM hl.1 hG (c_X1_errorFrom l g h N tk dom gr va dr off rt cnt lk dl td K E ds q i (by omega) (by omega)) rfl (host := RX2) gX2_steer_X1_errorFrom_n186 (by decide +kernel) (by decide +kernel) (by decide +kernel) (by decide +kernel) (by decide +kernel) ⟨Nat.le_of_ble_eq_true rfl, Nat.le_of_ble_eq_true rfl⟩ 8 rfl rfl rfl rfl rfl (Nat.le_of_ble_eq_true rfl) dX2_steer_38 (c1 := 0) (s1 := 0) rfl rfl ⟨Nat.le_of_ble_eq_true rfl, Nat.le_of_ble_eq_true rfl⟩ (fun r_38 u_38 H locs hp_38 hG => ?_)
    subst hp_38
    refine lv_i2l hx hb dX2_steer_41 rfl ?_
    refine lv_ladd hx hb dX2_steer_42 ?_
    refine lv_lstore_n (lv' := [(3, .long (((off i) - (off q)) + (lerr dl td q i).toInt64)), (2, .int (nI q)), (0, .ref (h 0)), (1, .int (nI i))]) hx hb dX2_steer_43 rfl hl (by decide) rfl (fun ls hl => ?_)
    refine lv_aload_n hx hb dX2_steer_44 rfl (lv_at hl 2 rfl) ?_
    refine q_get hM hG (C := RX2) (T := TX2) (n := 12) hinX2 0 rfl rfl 4 (by decide) wRX2_22 rfl (v := .ref (h 5)) rfl dX2_steer_45 ?_
    refine lv_iload_n hx hb dX2_steer_48 rfl (lv_at hl 3 rfl) ?_
    refine lv_dup2_11 hx hb dX2_steer_49 rfl rfl ?_
    refine q_lald hM hG 5 rfl hi (by decide) dX2_steer_50 ?_
    refine lv_lload_n hx hb dX2_steer_51 rfl (lv_at hl 0 rfl) ?_
    refine lv_ldc2 (v := 2) hx hb hown (hts (.constantLong RX2 190 2) (by decide +kernel)) dX2_steer_52 ?_
    refine lv_ldiv hx hb dX2_steer_55 (by decide) ?_
    refine lv_lsub hx hb dX2_steer_56 ?_
    refine q_last hM hG 5 rfl hi (by decide) (ws1 := (cNet g h N tk dom gr va dr (vp_updL off i ((off i) - ((((off i) - (off q)) + (lerr dl td q i).toInt64) / 2))) rt cnt lk dl td K E ds)) rfl dX2_steer_57 (fun H locs hG => ?_)
    refine lv_aload_n hx hb dX2_steer_58 rfl (lv_at hl 2 rfl) ?_
    refine q_get hM hG (C := RX2) (T := TX2) (n := 12) hinX2 0 rfl rfl 5 (by decide) wRX2_26 rfl (v := .ref (h 6)) rfl dX2_steer_59 ?_
    refine lv_iload_n hx hb dX2_steer_62 rfl (lv_at hl 3 rfl) ?_
    refine lv_dup2_11 hx hb dX2_steer_63 rfl rfl ?_
    refine q_lald hM hG 6 rfl hi (by decide) dX2_steer_64 ?_
    refine lv_lload_n hx hb dX2_steer_65 rfl (lv_at hl 0 rfl) ?_
    refine lv_ldc2 (v := 16) hx hb hown (hts (.constantLong RX2 192 16) (by decide +kernel)) dX2_steer_66 ?_
    refine lv_ldiv hx hb dX2_steer_69 (by decide) ?_
    refine lv_lsub hx hb dX2_steer_70 ?_
    refine q_last hM hG 6 rfl hi (by decide) (ws1 := (cNet g h N tk dom gr va dr (vp_updL off i ((off i) - ((((off i) - (off q)) + (lerr dl td q i).toInt64) / 2))) (vp_updL rt i ((rt i) - ((((off i) - (off q)) + (lerr dl td q i).toInt64) / 16))) cnt lk dl td K E ds)) rfl dX2_steer_71 (fun H locs hG => ?_)
    exact hRet ((vp_updL off i ((off i) - ((((off i) - (off q)) + (lerr dl td q i).toInt64) / 2))), (vp_updL rt i ((rt i) - ((((off i) - (off q)) + (lerr dl td q i).toInt64) / 16)))) _ _ _ _ _ _ (by rw [stf_q hN hq eq9]; simp only [stq, lmea]) hG (Nat.le_of_ble_eq_true rfl) (Nat.le_of_ble_eq_true rfl) dX2_steer_72
  · refine lv_if_ne (tgt := 19) hx hb dX2_steer_15 (by decide) (fun c9 => False.elim (by revert c9; decide)) (fun _ => ?_)
    exact hRet (off, rt) _ _ _ _ _ _ ((stf_n hN hp_12).symm) hG (Nat.le_of_ble_eq_true rfl) (Nat.le_of_ble_eq_true rfl) dX2_steer_18

set_option maxHeartbeats 4000000 in
set_option maxRecDepth 100000 in
theorem c_X2_passOneTick (l : Launch) (g : EN) (h : Nat → Nat) (N : Nat) (tk : Int32) (dom : Nat → Int32) (gr : Nat → Int32) (va : Nat → Int32) (dr : Nat → Int32) (off : Nat → Int64) (rt : Nat → Int64) (cnt : Int32) (lk : Nat → Int32) (dl : Nat → Int32) (td : Nat → Int32) (K : KT) (E : KT) (ds : Nat → Int32) (hN : N ≤ 10) (hlk : b01 lk)  : Cv l yX2_passOneTick wsX2_passOneTick ({ frames := 5, cells := 0, slots := 0, locals := 108 }) g [.ref (h 0)] (cNet g h N tk dom gr va dr off rt cnt lk dl td K E ds) (fun (u : OR × KT × KT) => cpK K u.2.2 10 ∧ u.2.1 = kann dom lk gr va N K u.2.2 N ∧ u.1 = stD N u.2.1.2.2.1 u.2.1.2.2.2 dl td (drf dr rt off N, rt) 9) (fun (u : OR × KT × KT) => (cNet g h N tk dom gr va dr u.1.1 u.1.2 cnt lk dl td u.2.1 u.2.2 ds)) := by
  refine Cv.of (cc := cX2_passOneTick) (maxL := 3) (by decide) rfl (Nat.le_of_ble_eq_true rfl) ?_
  intro p e s m args below meth c A Q ls hM hG hRet hl
  have hx := hM.1
  have hb := hM.2.1
  have hown := hM.2.2.2.1
  have hts := hM.2.2.2.2
  have wRX2_49 : Cond.fieldLink RX2 49 "TimeNet" "nodeCount" "I" ∈ wsX2_passOneTick := by decide +kernel
  have wRX2_39 : Cond.fieldLink RX2 39 "TimeNet" "known" "LTimeNet$Knowledge;" ∈ wsX2_passOneTick := by decide +kernel
  have wRX2_22 : Cond.fieldLink RX2 22 "TimeNet" "offsetOf" "[J" ∈ wsX2_passOneTick := by decide +kernel
  have wRX2_19 : Cond.fieldLink RX2 19 "TimeNet" "driftOf" "[I" ∈ wsX2_passOneTick := by decide +kernel
  have wRX2_26 : Cond.fieldLink RX2 26 "TimeNet" "rateOf" "[J" ∈ wsX2_passOneTick := by decide +kernel
  have hinX0 : ∀ w ∈ wsX00, w ∈ wsX2_passOneTick := by decide +kernel
  have hinX2 : ∀ w ∈ wsX20, w ∈ wsX2_passOneTick := by decide +kernel
  have hl : lv_has ls 3 [(0, .ref (h 0))] := hl
  refine lv_iconst (v := 0) hx hb dX2_passOneTick_0 (by decide) ?_
  refine lv_istore_n (lv' := [(1, .int 0), (0, .ref (h 0))]) hx hb dX2_passOneTick_1 rfl hl (by decide) rfl (fun ls hl => ?_)
  have loop_2 : ∀ (n9 i : Nat) (of1 : Nat → Int64), i ≤ N → N < i + n9 → (of1 = drf dr rt off i) → ∀ (H : Heap) (locs : List Loc), cC g (cNet g h N tk dom gr va dr of1 rt cnt lk dl td K E ds) A s H locs → ∀ (ls : Array Slot), lv_has ls 3 [(1, .int (nI i)), (0, .ref (h 0))] → W p l e ({ frames := 5, cells := 0, slots := 0, locals := 108 } : Room) s m args below meth c H locs 0 0 Q (F0 m 2 ls []) := by
    intro n9
    induction n9 with
    | zero => intro i of1 h1 h2; exact absurd h2 (by omega)
    | succ n9 ih_2 =>
      intro i of1 hle_i hlt9 hinv_i H locs hG ls hl
      refine lv_iload_n hx hb dX2_passOneTick_2 rfl (lv_at hl 0 rfl) ?_
      refine lv_aload_n hx hb dX2_passOneTick_3 rfl (lv_at hl 1 rfl) ?_
      refine q_get hM hG (C := RX2) (T := TX2) (n := 12) hinX2 0 rfl rfl 10 (by decide) wRX2_49 rfl (v := .int (nI N)) rfl dX2_passOneTick_4 ?_
      refine lv_icmp_ge (tgt := 39) hx hb dX2_passOneTick_7 (by decide) (fun c_7 => ?_) (fun c_7 => ?_)
      · have hi : i = N := by have h9 := ctr_ge (a := i) (b := N) (by omega) (by omega) c_7; omega
        refine lv_aload_n hx hb dX2_passOneTick_39 rfl (lv_at hl 1 rfl) ?_
        refine q_callv (n := 0) (As := []) (rest := []) hM hl.1 hG (c_X2_announce l g h N tk dom gr va dr of1 rt cnt lk dl td K E ds hN hlk) rfl gX2_passOneTick_X2_announce (by decide +kernel) ⟨Nat.le_of_ble_eq_true rfl, Nat.le_of_ble_eq_true rfl⟩ 0 rfl rfl rfl rfl rfl (Nat.le_of_ble_eq_true rfl) dX2_passOneTick_40 (c1 := 0) (s1 := 0) rfl rfl ⟨Nat.le_of_ble_eq_true rfl, Nat.le_of_ble_eq_true rfl⟩ (fun u_40 H locs hp_40 hG => ?_)
        refine lv_iconst (v := 1) hx hb dX2_passOneTick_43 (by decide) ?_
        refine lv_istore_n (lv' := [(1, .int 1), (0, .ref (h 0))]) hx hb dX2_passOneTick_44 rfl hl (by decide) rfl (fun ls hl => ?_)
        have loop_45 : ∀ (n9 d : Nat) (of2 : Nat → Int64) (rt2 : Nat → Int64), d ≤ 10 → 10 < d + n9 → (∃ d0, d = d0 + 1 ∧ (of2, rt2) = stD N u_40.1.2.2.1 u_40.1.2.2.2 dl td (drf dr rt off N, rt) d0) → ∀ (H : Heap) (locs : List Loc), cC g (cNet g h N tk dom gr va dr of2 rt2 cnt lk dl td u_40.1 u_40.2 ds) A s H locs → ∀ (ls : Array Slot), lv_has ls 3 [(1, .int (nI d)), (0, .ref (h 0))] → W p l e ({ frames := 5, cells := 0, slots := 0, locals := 108 } : Room) s m args below meth c H locs 0 0 Q (F0 m 45 ls []) := by
          intro n9
          induction n9 with
          | zero => intro d of2 rt2 h1 h2; exact absurd h2 (by omega)
          | succ n9 ih_45 =>
            intro d of2 rt2 hle_d hlt9 hinv_d H locs hG ls hl
            refine lv_iload_n hx hb dX2_passOneTick_45 rfl (lv_at hl 0 rfl) ?_
            refine lv_bipush (v := 9) hx hb dX2_passOneTick_46 (by decide) ?_
            refine lv_icmp_gt (tgt := 91) hx hb dX2_passOneTick_48 (by decide) (fun c_48 => ?_) (fun c_48 => ?_)
            · have hd : d = 10 := by have h9 : ¬ nI d ≤ nI 9 := nlt c_48; have h8 : ¬ d ≤ 9 := fun h7 => h9 ((nI_leI (by omega) (by omega)).mpr h7); omega
              exact hRet ((of2, rt2), u_40.1, u_40.2) _ _ _ _ _ _ (⟨hp_40.1, hp_40.2, (by obtain ⟨d0, e0, h0⟩ := hinv_d; have e1 : d0 = 9 := (by omega); subst e1; exact h0)⟩) hG (Nat.le_of_ble_eq_true rfl) (Nat.le_of_ble_eq_true rfl) dX2_passOneTick_91
            · have hd : d < 10 := by have h9 : nI d ≤ nI 9 := Int32.not_lt.mp c_48; have h8 := (nI_leI (by omega) (by omega)).mp h9; omega
              refine lv_iconst (v := 0) hx hb dX2_passOneTick_51 (by decide) ?_
              refine lv_istore_n (lv' := [(2, .int 0), (1, .int (nI d)), (0, .ref (h 0))]) hx hb dX2_passOneTick_52 rfl hl (by decide) rfl (fun ls hl => ?_)
              have loop_53 : ∀ (n9 z : Nat) (of3 : Nat → Int64) (rt3 : Nat → Int64), z ≤ N → N < z + n9 → ((of3, rt3) = stN N u_40.1.2.2.1 u_40.1.2.2.2 dl td d (of2, rt2) z) → ∀ (H : Heap) (locs : List Loc), cC g (cNet g h N tk dom gr va dr of3 rt3 cnt lk dl td u_40.1 u_40.2 ds) A s H locs → ∀ (ls : Array Slot), lv_has ls 3 [(2, .int (nI z)), (1, .int (nI d)), (0, .ref (h 0))] → W p l e ({ frames := 5, cells := 0, slots := 0, locals := 108 } : Room) s m args below meth c H locs 0 0 Q (F0 m 53 ls []) := by
                intro n9
                induction n9 with
                | zero => intro z of3 rt3 h1 h2; exact absurd h2 (by omega)
                | succ n9 ih_53 =>
                  intro z of3 rt3 hle_z hlt9 hinv_z H locs hG ls hl
                  refine lv_iload_n hx hb dX2_passOneTick_53 rfl (lv_at hl 0 rfl) ?_
                  refine lv_aload_n hx hb dX2_passOneTick_54 rfl (lv_at hl 2 rfl) ?_
                  refine q_get hM hG (C := RX2) (T := TX2) (n := 12) hinX2 0 rfl rfl 10 (by decide) wRX2_49 rfl (v := .int (nI N)) rfl dX2_passOneTick_55 ?_
                  refine lv_icmp_ge (tgt := 85) hx hb dX2_passOneTick_58 (by decide) (fun c_58 => ?_) (fun c_58 => ?_)
                  · have hz : z = N := by have h9 := ctr_ge (a := z) (b := N) (by omega) (by omega) c_58; omega
                    refine lv_iinc (v := (nI (d + 1))) (lv' := [(1, .int (nI (d + 1))), (2, .int (nI z)), (0, .ref (h 0))]) hx hb dX2_passOneTick_85 hl (k := 1) rfl (nI_1 d) (by decide) rfl (fun ls hl => ?_)
                    refine lv_goto (tgt := 45) hx hb dX2_passOneTick_88 (by decide) ?_
                    exact ih_45 (d + 1) of3 rt3 (by omega) (by omega) (by obtain ⟨d0, e0, h0⟩ := hinv_d; subst e0; rw [hz] at hinv_z; exact ⟨d0 + 1, rfl, hinv_z.trans (by rw [h0]; rfl)⟩) _ _ hG _ (lv_sub hl [0, 2] rfl)
                  · have hz : z < N := ctr_lt (by omega) (by omega) c_58
                    have hzx : z < 10 := by omega
                    refine lv_aload_n hx hb dX2_passOneTick_61 rfl (lv_at hl 2 rfl) ?_
                    refine q_get hM hG (C := RX2) (T := TX2) (n := 12) hinX2 0 rfl rfl 7 (by decide) wRX2_39 rfl (v := .ref (h 12)) rfl dX2_passOneTick_62 ?_
                    refine q_getN hM hG (C := RX0) (T := TX0) (n := 4) (host := RX2) hinX0 12 rfl rfl 2 (by decide) (by decide +kernel) rfl (v := .ref (h 15)) rfl dX2_passOneTick_65 ?_
                    refine lv_iload_n hx hb dX2_passOneTick_68 rfl (lv_at hl 0 rfl) ?_
                    refine q_iald hM hG 15 rfl hzx (by decide) dX2_passOneTick_69 ?_
                    refine lv_iload_n hx hb dX2_passOneTick_70 rfl (lv_at hl 1 rfl) ?_
                    refine lv_icmp_ne (tgt := 79) hx hb dX2_passOneTick_71 (by decide) (fun c_71 => ?_) (fun c_71 => ?_)
                    · refine lv_iinc (v := (nI (z + 1))) (lv' := [(2, .int (nI (z + 1))), (1, .int (nI d)), (0, .ref (h 0))]) hx hb dX2_passOneTick_79 hl (k := 0) rfl (nI_1 z) (by decide) rfl (fun ls hl => ?_)
                      refine lv_goto (tgt := 53) hx hb dX2_passOneTick_82 (by decide) ?_
                      exact ih_53 (z + 1) of3 rt3 (by omega) (by omega) (hinv_z.trans (if_neg c_71).symm) _ _ hG _ (lv_sub hl [0, 1, 2] rfl)
                    · refine lv_aload_n hx hb dX2_passOneTick_74 rfl (lv_at hl 2 rfl) ?_
                      refine lv_iload_n hx hb dX2_passOneTick_75 rfl (lv_at hl 0 rfl) ?_
                      refine q_callv (n := 1) (As := [.int (nI z)]) (rest := []) hM hl.1 hG (c_X2_steer l g h N tk dom gr va dr of3 rt3 cnt lk dl td u_40.1 u_40.2 ds z hzx hN) rfl gX2_passOneTick_X2_steer (by decide +kernel) ⟨Nat.le_of_ble_eq_true rfl, Nat.le_of_ble_eq_true rfl⟩ 0 rfl rfl rfl rfl rfl (Nat.le_of_ble_eq_true rfl) dX2_passOneTick_76 (c1 := 0) (s1 := 0) rfl rfl ⟨Nat.le_of_ble_eq_true rfl, Nat.le_of_ble_eq_true rfl⟩ (fun u_76 H locs hp_76 hG => ?_)
                      refine lv_iinc (v := (nI (z + 1))) (lv' := [(2, .int (nI (z + 1))), (1, .int (nI d)), (0, .ref (h 0))]) hx hb dX2_passOneTick_79 hl (k := 0) rfl (nI_1 z) (by decide) rfl (fun ls hl => ?_)
                      refine lv_goto (tgt := 53) hx hb dX2_passOneTick_82 (by decide) ?_
                      exact ih_53 (z + 1) u_76.1 u_76.2 (by omega) (by omega) (by show u_76 = _; rw [hp_76, hinv_z]; exact (if_pos c_71).symm) _ _ hG _ (lv_sub hl [0, 1, 2] rfl)
              exact loop_53 (N + 1) 0 of2 rt2 (by omega) (by omega) rfl _ _ hG _ (lv_sub hl [0, 1, 2] rfl)
        exact loop_45 (10 + 1) 1 of1 rt (by omega) (by omega) (⟨0, rfl, by rw [hi] at hinv_i; rw [hinv_i]; rfl⟩) _ _ hG _ (lv_sub hl [0, 1] rfl)
      · have hi : i < N := ctr_lt (by omega) (by omega) c_7
        have hix : i < 10 := by omega
        refine lv_aload_n hx hb dX2_passOneTick_10 rfl (lv_at hl 1 rfl) ?_
        refine q_get hM hG (C := RX2) (T := TX2) (n := 12) hinX2 0 rfl rfl 4 (by decide) wRX2_22 rfl (v := .ref (h 5)) rfl dX2_passOneTick_11 ?_
        refine lv_iload_n hx hb dX2_passOneTick_14 rfl (lv_at hl 0 rfl) ?_
        refine lv_dup2_11 hx hb dX2_passOneTick_15 rfl rfl ?_
        refine q_lald hM hG 5 rfl hix (by decide) dX2_passOneTick_16 ?_
        refine lv_aload_n hx hb dX2_passOneTick_17 rfl (lv_at hl 1 rfl) ?_
        refine q_get hM hG (C := RX2) (T := TX2) (n := 12) hinX2 0 rfl rfl 3 (by decide) wRX2_19 rfl (v := .ref (h 4)) rfl dX2_passOneTick_18 ?_
        refine lv_iload_n hx hb dX2_passOneTick_21 rfl (lv_at hl 0 rfl) ?_
        refine q_iald hM hG 4 rfl hix (by decide) dX2_passOneTick_22 ?_
        refine lv_i2l hx hb dX2_passOneTick_23 rfl ?_
        refine lv_aload_n hx hb dX2_passOneTick_24 rfl (lv_at hl 1 rfl) ?_
        refine q_get hM hG (C := RX2) (T := TX2) (n := 12) hinX2 0 rfl rfl 5 (by decide) wRX2_26 rfl (v := .ref (h 6)) rfl dX2_passOneTick_25 ?_
        refine lv_iload_n hx hb dX2_passOneTick_28 rfl (lv_at hl 0 rfl) ?_
        refine q_lald hM hG 6 rfl hix (by decide) dX2_passOneTick_29 ?_
        refine lv_ladd hx hb dX2_passOneTick_30 ?_
        refine lv_ladd hx hb dX2_passOneTick_31 ?_
        refine q_last hM hG 5 rfl hix (by decide) (ws1 := (cNet g h N tk dom gr va dr (vp_updL of1 i ((of1 i) + ((dr i).toInt64 + (rt i)))) rt cnt lk dl td K E ds)) rfl dX2_passOneTick_32 (fun H locs hG => ?_)
        refine lv_iinc (v := (nI (i + 1))) (lv' := [(1, .int (nI (i + 1))), (0, .ref (h 0))]) hx hb dX2_passOneTick_33 hl (k := 0) rfl (nI_1 i) (by decide) rfl (fun ls hl => ?_)
        refine lv_goto (tgt := 2) hx hb dX2_passOneTick_36 (by decide) ?_
        exact ih_2 (i + 1) (vp_updL of1 i ((of1 i) + ((dr i).toInt64 + (rt i)))) (by omega) (by omega) (by rw [hinv_i]; rfl) _ _ hG _ (lv_sub hl [0, 1] rfl)
  exact loop_2 (N + 1) 0 off (by omega) (by omega) rfl _ _ hG _ (lv_sub hl [0, 1] rfl)
