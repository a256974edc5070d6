set_option maxHeartbeats 4000000 in
set_option maxRecDepth 100000 in
theorem c_X2_add (l : Launch) (hl0 : l.stackTraces = false) (g : EN) (h : Nat → Nat) (N : Nat) (tk : Int32) (dom : Nat → Int32) (gr : Nat → Int32) (va : Nat → Int32) (dr : Nat → Int32) (off : Nat → Int64) (rt : Nat → Int64) (cnt : Int32) (lk : Nat → Int32) (dl : Nat → Int32) (td : Nat → Int32) (K : KT) (E : KT) (ds : Nat → Int32) (p0 p1 p2 p3 : Int32) (hN : N ≤ 10)  : Xi l yX2_add wsX2_add ({ frames := 7, cells := 1, slots := 6, locals := 104 }) g [.ref (h 0), .int p0, .int p1, .int p2, .int p3] (cNet g h N tk dom gr va dr off rt cnt lk dl td K E ds) (fun E => ex2 E "java/lang/IllegalArgumentException" "java/lang/IllegalStateException" (inR 0 p0 1 ∧ inR 0 p1 255 ∧ inR 0 p2 1000 ∧ inR (-100) p3 100) (N < 10)) (fun (r : Int32) (u : KT) => (inR 0 p0 1 ∧ inR 0 p1 255 ∧ inR 0 p2 1000 ∧ inR (-100) p3 100) ∧ N < 10 ∧ r = nI N ∧ u = kst K N (rk (upd gr N p1) (upd va N p2) N)) (fun (u : KT) => (cNet g h (N + 1) tk (upd dom N p0) (upd gr N p1) (upd va N p2) (upd dr N p3) off rt cnt lk dl td u E ds)) := by
  refine Xi.of (cc := cX2_add) (maxL := 6) hl0 (by decide) rfl (Nat.le_of_ble_eq_true rfl) ?_
  intro p e s m args below meth c A Q ls hM hG hRet hThr hNew hl
  have hx := hM.1
  have hb := hM.2.1
  have hown := hM.2.2.2.1
  have hts := hM.2.2.2.2
  have wRX2_49 : Cond.fieldLink RX2 49 "TimeNet" "nodeCount" "I" ∈ wsX2_add := by decide +kernel
  have wRX2_9 : Cond.fieldLink RX2 9 "TimeNet" "domainOf" "[I" ∈ wsX2_add := by decide +kernel
  have wRX2_13 : Cond.fieldLink RX2 13 "TimeNet" "gradeOf" "[I" ∈ wsX2_add := by decide +kernel
  have wRX2_16 : Cond.fieldLink RX2 16 "TimeNet" "varianceOf" "[I" ∈ wsX2_add := by decide +kernel
  have wRX2_19 : Cond.fieldLink RX2 19 "TimeNet" "driftOf" "[I" ∈ wsX2_add := by decide +kernel
  have hinX2 : ∀ w ∈ wsX20, w ∈ wsX2_add := by decide +kernel
  have hl : lv_has ls 6 [(0, .ref (h 0)), (1, .int p0), (2, .int p1), (3, .int p2), (4, .int p3)] := hl
  refine lv_iload_n hx hb dX2_add_0 rfl (lv_at hl 1 rfl) ?_
  refine lv_iconst (v := 0) hx hb dX2_add_1 (by decide) ?_
  refine lv_iconst (v := 1) hx hb dX2_add_2 (by decide) ?_
  by_cases hp_3 : inR 0 p0 1
  · refine q_callSv (n := 3) (As := [.int p0, .int 0, .int 1]) (rest := []) hM hl.1 hG (c_X2_requireWithin l g h N tk dom gr va dr off rt cnt lk dl td K E ds p0 0 1  hp_3) rfl gX2_add_X2_requireWithin (by decide +kernel) ⟨Nat.le_of_ble_eq_true rfl, Nat.le_of_ble_eq_true rfl⟩ rfl rfl (Nat.le_of_ble_eq_true rfl) dX2_add_3 (c1 := 0) (s1 := 0) rfl rfl ⟨Nat.le_of_ble_eq_true rfl, Nat.le_of_ble_eq_true rfl⟩ (fun u_3 H locs h9 hG => ?_)
    refine lv_iload_n hx hb dX2_add_6 rfl (lv_at hl 2 rfl) ?_
    refine lv_iconst (v := 0) hx hb dX2_add_7 (by decide) ?_
    refine lv_sipush (v := 255) hx hb dX2_add_8 (by decide) ?_
    by_cases hp_11 : inR 0 p1 255
    · refine q_callSv (n := 3) (As := [.int p1, .int 0, .int 255]) (rest := []) hM hl.1 hG (c_X2_requireWithin l g h N tk dom gr va dr off rt cnt lk dl td K E ds p1 0 255  hp_11) rfl gX2_add_X2_requireWithin (by decide +kernel) ⟨Nat.le_of_ble_eq_true rfl, Nat.le_of_ble_eq_true rfl⟩ rfl rfl (Nat.le_of_ble_eq_true rfl) dX2_add_11 (c1 := 0) (s1 := 0) rfl rfl ⟨Nat.le_of_ble_eq_true rfl, Nat.le_of_ble_eq_true rfl⟩ (fun u_11 H locs h9 hG => ?_)
      refine lv_iload_n hx hb dX2_add_14 rfl (lv_at hl 3 rfl) ?_
      refine lv_iconst (v := 0) hx hb dX2_add_15 (by decide) ?_
      refine lv_sipush (v := 1000) hx hb dX2_add_16 (by decide) ?_
      by_cases hp_19 : inR 0 p2 1000
      · refine q_callSv (n := 3) (As := [.int p2, .int 0, .int 1000]) (rest := []) hM hl.1 hG (c_X2_requireWithin l g h N tk dom gr va dr off rt cnt lk dl td K E ds p2 0 1000  hp_19) rfl gX2_add_X2_requireWithin (by decide +kernel) ⟨Nat.le_of_ble_eq_true rfl, Nat.le_of_ble_eq_true rfl⟩ rfl rfl (Nat.le_of_ble_eq_true rfl) dX2_add_19 (c1 := 0) (s1 := 0) rfl rfl ⟨Nat.le_of_ble_eq_true rfl, Nat.le_of_ble_eq_true rfl⟩ (fun u_19 H locs h9 hG => ?_)
        refine lv_iload hx hb dX2_add_22 (lv_at hl 4 rfl) ?_
        refine lv_bipush (v := (-100)) hx hb dX2_add_24 (by decide) ?_
        refine lv_bipush (v := 100) hx hb dX2_add_26 (by decide) ?_
        by_cases hp_28 : inR (-100 : Int32) p3 100
        · refine q_callSv (n := 3) (As := [.int p3, .int (-100 : Int32), .int 100]) (rest := []) hM hl.1 hG (c_X2_requireWithin l g h N tk dom gr va dr off rt cnt lk dl td K E ds p3 (-100 : Int32) 100  hp_28) rfl gX2_add_X2_requireWithin (by decide +kernel) ⟨Nat.le_of_ble_eq_true rfl, Nat.le_of_ble_eq_true rfl⟩ rfl rfl (Nat.le_of_ble_eq_true rfl) dX2_add_28 (c1 := 0) (s1 := 0) rfl rfl ⟨Nat.le_of_ble_eq_true rfl, Nat.le_of_ble_eq_true rfl⟩ (fun u_28 H locs h9 hG => ?_)
          refine lv_aload_n hx hb dX2_add_31 rfl (lv_at hl 0 rfl) ?_
          refine q_get hM hG (C := RX2) (T := TX2) (n := 12) hinX2 0 rfl rfl 10 (by decide) wRX2_49 rfl (v := .int (nI N)) rfl dX2_add_32 ?_
          refine lv_bipush (v := 10) hx hb dX2_add_35 (by decide) ?_
          refine lv_icmp_lt (tgt := 50) hx hb dX2_add_37 (by decide) (fun c_37 => ?_) (fun c_37 => ?_)
          · have hNx : N < 10 := (nI_ltI (b := 10) (by omega) (by decide)).mp c_37
            refine lv_aload_n hx hb dX2_add_50 rfl (lv_at hl 0 rfl) ?_
            refine q_get hM hG (C := RX2) (T := TX2) (n := 12) hinX2 0 rfl rfl 10 (by decide) wRX2_49 rfl (v := .int (nI N)) rfl dX2_add_51 ?_
            refine lv_istore (lv' := [(5, .int (nI N)), (0, .ref (h 0)), (1, .int p0), (2, .int p1), (3, .int p2), (4, .int p3)]) hx hb dX2_add_54 hl (by decide) rfl (fun ls hl => ?_)
            refine lv_aload_n hx hb dX2_add_56 rfl (lv_at hl 1 rfl) ?_
            refine lv_dup hx hb dX2_add_57 rfl ?_
            refine q_get hM hG (C := RX2) (T := TX2) (n := 12) hinX2 0 rfl rfl 10 (by decide) wRX2_49 rfl (v := .int (nI N)) rfl dX2_add_58 ?_
            refine lv_iconst (v := 1) hx hb dX2_add_61 (by decide) ?_
            refine lv_iadd hx hb dX2_add_62 ?_
            refine q_ren (nI_1 N) ?_
            refine q_put hM hG (C := RX2) (T := TX2) (n := 12) hinX2 tyX2 tyX2_ok nmX2 0 rfl rfl 10 (by decide) wRX2_49 rfl rfl rfl (Nat.le_of_ble_eq_true rfl) (ws1 := (cNet g h (N + 1) tk dom gr va dr off rt cnt lk dl td K E ds)) rfl dX2_add_63 (fun H locs hG => ?_)
            refine lv_aload_n hx hb dX2_add_66 rfl (lv_at hl 1 rfl) ?_
            refine q_get hM hG (C := RX2) (T := TX2) (n := 12) hinX2 0 rfl rfl 0 (by decide) wRX2_9 rfl (v := .ref (h 1)) rfl dX2_add_67 ?_
            refine lv_iload hx hb dX2_add_70 (lv_at hl 0 rfl) ?_
            refine lv_iload_n hx hb dX2_add_72 rfl (lv_at hl 2 rfl) ?_
            refine q_iast hM hG 1 rfl hNx (by decide) (ws1 := (cNet g h (N + 1) tk (upd dom N p0) gr va dr off rt cnt lk dl td K E ds)) rfl dX2_add_73 (fun H locs hG => ?_)
            refine lv_aload_n hx hb dX2_add_74 rfl (lv_at hl 1 rfl) ?_
            refine q_get hM hG (C := RX2) (T := TX2) (n := 12) hinX2 0 rfl rfl 1 (by decide) wRX2_13 rfl (v := .ref (h 2)) rfl dX2_add_75 ?_
            refine lv_iload hx hb dX2_add_78 (lv_at hl 0 rfl) ?_
            refine lv_iload_n hx hb dX2_add_80 rfl (lv_at hl 3 rfl) ?_
            refine q_iast hM hG 2 rfl hNx (by decide) (ws1 := (cNet g h (N + 1) tk (upd dom N p0) (upd gr N p1) va dr off rt cnt lk dl td K E ds)) rfl dX2_add_81 (fun H locs hG => ?_)
            refine lv_aload_n hx hb dX2_add_82 rfl (lv_at hl 1 rfl) ?_
            refine q_get hM hG (C := RX2) (T := TX2) (n := 12) hinX2 0 rfl rfl 2 (by decide) wRX2_16 rfl (v := .ref (h 3)) rfl dX2_add_83 ?_
            refine lv_iload hx hb dX2_add_86 (lv_at hl 0 rfl) ?_
            refine lv_iload_n hx hb dX2_add_88 rfl (lv_at hl 4 rfl) ?_
            refine q_iast hM hG 3 rfl hNx (by decide) (ws1 := (cNet g h (N + 1) tk (upd dom N p0) (upd gr N p1) (upd va N p2) dr off rt cnt lk dl td K E ds)) rfl dX2_add_89 (fun H locs hG => ?_)
            refine lv_aload_n hx hb dX2_add_90 rfl (lv_at hl 1 rfl) ?_
            refine q_get hM hG (C := RX2) (T := TX2) (n := 12) hinX2 0 rfl rfl 3 (by decide) wRX2_19 rfl (v := .ref (h 4)) rfl dX2_add_91 ?_
            refine lv_iload hx hb dX2_add_94 (lv_at hl 0 rfl) ?_
            refine lv_iload hx hb dX2_add_96 (lv_at hl 5 rfl) ?_
            refine q_iast hM hG 4 rfl hNx (by decide) (ws1 := (cNet g h (N + 1) tk (upd dom N p0) (upd gr N p1) (upd va N p2) (upd dr N p3) off rt cnt lk dl td K E ds)) rfl dX2_add_98 (fun H locs hG => ?_)
            refine lv_aload_n hx hb dX2_add_99 rfl (lv_at hl 1 rfl) ?_
            refine lv_iload hx hb dX2_add_100 (lv_at hl 0 rfl) ?_
            refine q_callv (n := 1) (As := [.int (nI N)]) (rest := []) hM hl.1 hG (c_X2_knowOnlyItself l g h (N + 1) tk (upd dom N p0) (upd gr N p1) (upd va N p2) (upd dr N p3) off rt cnt lk dl td K E ds N hNx) rfl gX2_add_X2_knowOnlyItself (by decide +kernel) ⟨Nat.le_of_ble_eq_true rfl, Nat.le_of_ble_eq_true rfl⟩ 0 rfl rfl rfl rfl rfl (Nat.le_of_ble_eq_true rfl) dX2_add_102 (c1 := 0) (s1 := 0) rfl rfl ⟨Nat.le_of_ble_eq_true rfl, Nat.le_of_ble_eq_true rfl⟩ (fun u_102 H locs hp_102 hG => ?_)
            refine lv_iload hx hb dX2_add_105 (lv_at hl 0 rfl) ?_
            exact hRet (nI N) u_102 _ _ _ _ _ _ (⟨⟨hp_3, hp_11, hp_19, hp_28⟩, hNx, rfl, hp_102⟩) hG (Nat.le_of_ble_eq_true rfl) (Nat.le_of_ble_eq_true rfl) dX2_add_107
          · obtain ⟨sa9, hsa9⟩ := hG.2.2.2.2.1.2.2.2.1
            refine hNew RX2 "java/lang/IllegalStateException" "there are 10 nodes" ["java/lang/RuntimeException", "java/lang/Exception"] 60 62 64 sa9 _ _ _ _ _ _ hown (by decide +kernel) (by decide +kernel) (hts (.classLink RX2 60 "java/lang/IllegalStateException") (by decide +kernel)) (hts (.initialized "java/lang/IllegalStateException") (by decide +kernel)) hsa9 ?_ (by decide +kernel) hG hl.1 dX2_add_40 dX2_add_43 dX2_add_44 dX2_add_46 dX2_add_49 (by decide) (by decide) (by decide) (by decide) (Or.inr ⟨rfl, ⟨hp_3, hp_11, hp_19, hp_28⟩, fun h9 => c_37 (nI_lt h9 (by decide))⟩)
            exact q_at hM hG (by decide +kernel) (by decide +kernel)
        · refine q_xcallSv (n := 3) (As := [.int p3, .int (-100 : Int32), .int 100]) (rest := []) hM hl.1 hG (c_X2_requireWithin_x l hl0 g h N tk dom gr va dr off rt cnt lk dl td K E ds p3 (-100 : Int32) 100  hp_28) rfl gX2_add_X2_requireWithin (by decide +kernel) ⟨Nat.le_of_ble_eq_true rfl, Nat.le_of_ble_eq_true rfl⟩ rfl rfl (Nat.le_of_ble_eq_true rfl) dX2_add_28 (c1 := 1) (s1 := 6) rfl rfl ⟨Nat.le_of_ble_eq_true rfl, Nat.le_of_ble_eq_true rfl⟩ (fun E ce q9 H locs hE hG h1 h2 h3 => hThr E ce q9 _ _ _ _ _ _ _ (Or.inl ⟨hE.1, fun h9 => hE.2 h9.2.2.2⟩) hG h1 h2 h3 (Nat.le_of_ble_eq_true rfl) (Nat.le_of_ble_eq_true rfl)) (fun u_28 H locs h9 hG => absurd h9 id)
      · refine q_xcallSv (n := 3) (As := [.int p2, .int 0, .int 1000]) (rest := []) hM hl.1 hG (c_X2_requireWithin_x l hl0 g h N tk dom gr va dr off rt cnt lk dl td K E ds p2 0 1000  hp_19) rfl gX2_add_X2_requireWithin (by decide +kernel) ⟨Nat.le_of_ble_eq_true rfl, Nat.le_of_ble_eq_true rfl⟩ rfl rfl (Nat.le_of_ble_eq_true rfl) dX2_add_19 (c1 := 1) (s1 := 6) rfl rfl ⟨Nat.le_of_ble_eq_true rfl, Nat.le_of_ble_eq_true rfl⟩ (fun E ce q9 H locs hE hG h1 h2 h3 => hThr E ce q9 _ _ _ _ _ _ _ (Or.inl ⟨hE.1, fun h9 => hE.2 h9.2.2.1⟩) hG h1 h2 h3 (Nat.le_of_ble_eq_true rfl) (Nat.le_of_ble_eq_true rfl)) (fun u_19 H locs h9 hG => absurd h9 id)
    · refine q_xcallSv (n := 3) (As := [.int p1, .int 0, .int 255]) (rest := []) hM hl.1 hG (c_X2_requireWithin_x l hl0 g h N tk dom gr va dr off rt cnt lk dl td K E ds p1 0 255  hp_11) rfl gX2_add_X2_requireWithin (by decide +kernel) ⟨Nat.le_of_ble_eq_true rfl, Nat.le_of_ble_eq_true rfl⟩ rfl rfl (Nat.le_of_ble_eq_true rfl) dX2_add_11 (c1 := 1) (s1 := 6) rfl rfl ⟨Nat.le_of_ble_eq_true rfl, Nat.le_of_ble_eq_true rfl⟩ (fun E ce q9 H locs hE hG h1 h2 h3 => hThr E ce q9 _ _ _ _ _ _ _ (Or.inl ⟨hE.1, fun h9 => hE.2 h9.2.1⟩) hG h1 h2 h3 (Nat.le_of_ble_eq_true rfl) (Nat.le_of_ble_eq_true rfl)) (fun u_11 H locs h9 hG => absurd h9 id)
  · refine q_xcallSv (n := 3) (As := [.int p0, .int 0, .int 1]) (rest := []) hM hl.1 hG (c_X2_requireWithin_x l hl0 g h N tk dom gr va dr off rt cnt lk dl td K E ds p0 0 1  hp_3) rfl gX2_add_X2_requireWithin (by decide +kernel) ⟨Nat.le_of_ble_eq_true rfl, Nat.le_of_ble_eq_true rfl⟩ rfl rfl (Nat.le_of_ble_eq_true rfl) dX2_add_3 (c1 := 1) (s1 := 6) rfl rfl ⟨Nat.le_of_ble_eq_true rfl, Nat.le_of_ble_eq_true rfl⟩ (fun E ce q9 H locs hE hG h1 h2 h3 => hThr E ce q9 _ _ _ _ _ _ _ (Or.inl ⟨hE.1, fun h9 => hE.2 h9.1⟩) hG h1 h2 h3 (Nat.le_of_ble_eq_true rfl) (Nat.le_of_ble_eq_true rfl)) (fun u_3 H locs h9 hG => absurd h9 id)

set_option maxHeartbeats 4000000 in
set_option maxRecDepth 100000 in
theorem c_X2_setClock (l : Launch) (hl0 : l.stackTraces = false) (g : EN) (h : Nat → Nat) (N : Nat) (tk : Int32) (dom : Nat → Int32) (gr : Nat → Int32) (va : Nat → Int32) (dr : Nat → Int32) (off : Nat → Int64) (rt : Nat → Int64) (cnt : Int32) (lk : Nat → Int32) (dl : Nat → Int32) (td : Nat → Int32) (K : KT) (E : KT) (ds : Nat → Int32) (x a b : Int32) (hN : N ≤ 10)  : Xi l yX2_setClock wsX2_setClock ({ frames := 7, cells := 1, slots := 6, locals := 104 }) g [.ref (h 0), .int x, .int a, .int b] (cNet g h N tk dom gr va dr off rt cnt lk dl td K E ds) (fun E => ex2 E "java/lang/IndexOutOfBoundsException" "java/lang/IllegalArgumentException" (okN N x) (inR 0 a 255 ∧ inR 0 b 1000)) (fun (r : Int32) (u : (Nat → Int32) × (Nat → Int32)) => ∃ i, i < N ∧ x = nI i ∧ (inR 0 a 255 ∧ inR 0 b 1000) ∧ r = gr i ∧ u.1 = upd gr i a ∧ u.2 = upd va i b) (fun (u : (Nat → Int32) × (Nat → Int32)) => (cNet g h N tk dom u.1 u.2 dr off rt cnt lk dl td K E ds)) := by
  refine Xi.of (cc := cX2_setClock) (maxL := 5) hl0 (by decide) rfl (Nat.le_of_ble_eq_true rfl) ?_
  intro p e s m args below meth c A Q ls hM hG hRet hThr hNew hl
  have hx := hM.1
  have hb := hM.2.1
  have hown := hM.2.2.2.1
  have hts := hM.2.2.2.2
  have wRX2_13 : Cond.fieldLink RX2 13 "TimeNet" "gradeOf" "[I" ∈ wsX2_setClock := by decide +kernel
  have wRX2_16 : Cond.fieldLink RX2 16 "TimeNet" "varianceOf" "[I" ∈ wsX2_setClock := by decide +kernel
  have hinX2 : ∀ w ∈ wsX20, w ∈ wsX2_setClock := by decide +kernel
  have hl : lv_has ls 5 [(0, .ref (h 0)), (1, .int x), (2, .int a), (3, .int b)] := hl
  refine lv_aload_n hx hb dX2_setClock_0 rfl (lv_at hl 0 rfl) ?_
  refine lv_iload_n hx hb dX2_setClock_1 rfl (lv_at hl 1 rfl) ?_
  by_cases hp_2 : okN N x
  · refine q_callv (n := 1) (As := [.int x]) (rest := []) hM hl.1 hG (c_X2_requireNode l g h N tk dom gr va dr off rt cnt lk dl td K E ds x hN hp_2) rfl gX2_setClock_X2_requireNode (by decide +kernel) ⟨Nat.le_of_ble_eq_true rfl, Nat.le_of_ble_eq_true rfl⟩ 0 rfl rfl rfl rfl rfl (Nat.le_of_ble_eq_true rfl) dX2_setClock_2 (c1 := 0) (s1 := 0) rfl rfl ⟨Nat.le_of_ble_eq_true rfl, Nat.le_of_ble_eq_true rfl⟩ (fun u_2 H locs h9 hG => ?_)
    obtain ⟨i, hi, rfl⟩ := hp_2
    have hix : i < 10 := by omega
    refine lv_iload_n hx hb dX2_setClock_5 rfl (lv_at hl 2 rfl) ?_
    refine lv_iconst (v := 0) hx hb dX2_setClock_6 (by decide) ?_
    refine lv_sipush (v := 255) hx hb dX2_setClock_7 (by decide) ?_
    by_cases hp_10 : inR 0 a 255
    · refine q_callSv (n := 3) (As := [.int a, .int 0, .int 255]) (rest := []) hM hl.1 hG (c_X2_requireWithin l g h N tk dom gr va dr off rt cnt lk dl td K E ds a 0 255  hp_10) rfl gX2_setClock_X2_requireWithin (by decide +kernel) ⟨Nat.le_of_ble_eq_true rfl, Nat.le_of_ble_eq_true rfl⟩ rfl rfl (Nat.le_of_ble_eq_true rfl) dX2_setClock_10 (c1 := 0) (s1 := 0) rfl rfl ⟨Nat.le_of_ble_eq_true rfl, Nat.le_of_ble_eq_true rfl⟩ (fun u_10 H locs h9 hG => ?_)
      refine lv_iload_n hx hb dX2_setClock_13 rfl (lv_at hl 3 rfl) ?_
      refine lv_iconst (v := 0) hx hb dX2_setClock_14 (by decide) ?_
      refine lv_sipush (v := 1000) hx hb dX2_setClock_15 (by decide) ?_
      by_cases hp_18 : inR 0 b 1000
      · refine q_callSv (n := 3) (As := [.int b, .int 0, .int 1000]) (rest := []) hM hl.1 hG (c_X2_requireWithin l g h N tk dom gr va dr off rt cnt lk dl td K E ds b 0 1000  hp_18) rfl gX2_setClock_X2_requireWithin (by decide +kernel) ⟨Nat.le_of_ble_eq_true rfl, Nat.le_of_ble_eq_true rfl⟩ rfl rfl (Nat.le_of_ble_eq_true rfl) dX2_setClock_18 (c1 := 0) (s1 := 0) rfl rfl ⟨Nat.le_of_ble_eq_true rfl, Nat.le_of_ble_eq_true rfl⟩ (fun u_18 H locs h9 hG => ?_)
        refine lv_aload_n hx hb dX2_setClock_21 rfl (lv_at hl 0 rfl) ?_
        refine q_get hM hG (C := RX2) (T := TX2) (n := 12) hinX2 0 rfl rfl 1 (by decide) wRX2_13 rfl (v := .ref (h 2)) rfl dX2_setClock_22 ?_
        refine lv_iload_n hx hb dX2_setClock_25 rfl (lv_at hl 1 rfl) ?_
        refine q_iald hM hG 2 rfl hix (by decide) dX2_setClock_26 ?_
        refine lv_istore (lv' := [(4, .int (gr i)), (0, .ref (h 0)), (1, .int (nI i)), (2, .int a), (3, .int b)]) hx hb dX2_setClock_27 hl (by decide) rfl (fun ls hl => ?_)
        refine lv_aload_n hx hb dX2_setClock_29 rfl (lv_at hl 1 rfl) ?_
        refine q_get hM hG (C := RX2) (T := TX2) (n := 12) hinX2 0 rfl rfl 1 (by decide) wRX2_13 rfl (v := .ref (h 2)) rfl dX2_setClock_30 ?_
        refine lv_iload_n hx hb dX2_setClock_33 rfl (lv_at hl 2 rfl) ?_
        refine lv_iload_n hx hb dX2_setClock_34 rfl (lv_at hl 3 rfl) ?_
        refine q_iast hM hG 2 rfl hix (by decide) (ws1 := (cNet g h N tk dom (upd gr i a) va dr off rt cnt lk dl td K E ds)) rfl dX2_setClock_35 (fun H locs hG => ?_)
        refine lv_aload_n hx hb dX2_setClock_36 rfl (lv_at hl 1 rfl) ?_
        refine q_get hM hG (C := RX2) (T := TX2) (n := 12) hinX2 0 rfl rfl 2 (by decide) wRX2_16 rfl (v := .ref (h 3)) rfl dX2_setClock_37 ?_
        refine lv_iload_n hx hb dX2_setClock_40 rfl (lv_at hl 2 rfl) ?_
        refine lv_iload_n hx hb dX2_setClock_41 rfl (lv_at hl 4 rfl) ?_
        refine q_iast hM hG 3 rfl hix (by decide) (ws1 := (cNet g h N tk dom (upd gr i a) (upd va i b) dr off rt cnt lk dl td K E ds)) rfl dX2_setClock_42 (fun H locs hG => ?_)
        refine lv_iload hx hb dX2_setClock_43 (lv_at hl 0 rfl) ?_
        exact hRet (gr i) ((upd gr i a), (upd va i b)) _ _ _ _ _ _ (⟨i, hi, rfl, ⟨hp_10, hp_18⟩, rfl, rfl, rfl⟩) hG (Nat.le_of_ble_eq_true rfl) (Nat.le_of_ble_eq_true rfl) dX2_setClock_45
      · refine q_xcallSv (n := 3) (As := [.int b, .int 0, .int 1000]) (rest := []) hM hl.1 hG (c_X2_requireWithin_x l hl0 g h N tk dom gr va dr off rt cnt lk dl td K E ds b 0 1000  hp_18) rfl gX2_setClock_X2_requireWithin (by decide +kernel) ⟨Nat.le_of_ble_eq_true rfl, Nat.le_of_ble_eq_true rfl⟩ rfl rfl (Nat.le_of_ble_eq_true rfl) dX2_setClock_18 (c1 := 1) (s1 := 6) rfl rfl ⟨Nat.le_of_ble_eq_true rfl, Nat.le_of_ble_eq_true rfl⟩ (fun E ce q9 H locs hE hG h1 h2 h3 => hThr E ce q9 _ _ _ _ _ _ _ (Or.inr ⟨hE.1, ⟨i, hi, rfl⟩, fun h9 => hE.2 h9.2⟩) hG h1 h2 h3 (Nat.le_of_ble_eq_true rfl) (Nat.le_of_ble_eq_true rfl)) (fun u_18 H locs h9 hG => absurd h9 id)
    · refine q_xcallSv (n := 3) (As := [.int a, .int 0, .int 255]) (rest := []) hM hl.1 hG (c_X2_requireWithin_x l hl0 g h N tk dom gr va dr off rt cnt lk dl td K E ds a 0 255  hp_10) rfl gX2_setClock_X2_requireWithin (by decide +kernel) ⟨Nat.le_of_ble_eq_true rfl, Nat.le_of_ble_eq_true rfl⟩ rfl rfl (Nat.le_of_ble_eq_true rfl) dX2_setClock_10 (c1 := 1) (s1 := 6) rfl rfl ⟨Nat.le_of_ble_eq_true rfl, Nat.le_of_ble_eq_true rfl⟩ (fun E ce q9 H locs hE hG h1 h2 h3 => hThr E ce q9 _ _ _ _ _ _ _ (Or.inr ⟨hE.1, ⟨i, hi, rfl⟩, fun h9 => hE.2 h9.1⟩) hG h1 h2 h3 (Nat.le_of_ble_eq_true rfl) (Nat.le_of_ble_eq_true rfl)) (fun u_10 H locs h9 hG => absurd h9 id)
  · refine q_xcallv (n := 1) (As := [.int x]) (rest := []) hM hl.1 hG (c_X2_requireNode_x l hl0 g h N tk dom gr va dr off rt cnt lk dl td K E ds x hN hp_2) rfl gX2_setClock_X2_requireNode (by decide +kernel) ⟨Nat.le_of_ble_eq_true rfl, Nat.le_of_ble_eq_true rfl⟩ 0 rfl rfl rfl rfl rfl (Nat.le_of_ble_eq_true rfl) dX2_setClock_2 (c1 := 1) (s1 := 6) rfl rfl ⟨Nat.le_of_ble_eq_true rfl, Nat.le_of_ble_eq_true rfl⟩ (fun E ce q9 H locs hE hG h1 h2 h3 => hThr E ce q9 _ _ _ _ _ _ _ (Or.inl hE) hG h1 h2 h3 (Nat.le_of_ble_eq_true rfl) (Nat.le_of_ble_eq_true rfl)) (fun u_2 H locs h9 hG => absurd h9 id)

set_option maxHeartbeats 4000000 in
set_option maxRecDepth 100000 in
theorem c_X2_setDrift (l : Launch) (hl0 : l.stackTraces = false) (g : EN) (h : Nat → Nat) (N : Nat) (tk : Int32) (dom : Nat → Int32) (gr : Nat → Int32) (va : Nat → Int32) (dr : Nat → Int32) (off : Nat → Int64) (rt : Nat → Int64) (cnt : Int32) (lk : Nat → Int32) (dl : Nat → Int32) (td : Nat → Int32) (K : KT) (E : KT) (ds : Nat → Int32) (x a : Int32) (hN : N ≤ 10)  : Xi l yX2_setDrift wsX2_setDrift ({ frames := 7, cells := 1, slots := 6, locals := 104 }) g [.ref (h 0), .int x, .int a] (cNet g h N tk dom gr va dr off rt cnt lk dl td K E ds) (fun E => ex2 E "java/lang/IndexOutOfBoundsException" "java/lang/IllegalArgumentException" (okN N x) (inR (-100) a 100)) (fun (r : Int32) (u : Nat → Int32) => ∃ i, i < N ∧ x = nI i ∧ inR (-100) a 100 ∧ r = dr i ∧ u = upd dr i a) (fun (u : Nat → Int32) => (cNet g h N tk dom gr va u off rt cnt lk dl td K E ds)) := by
  refine Xi.of (cc := cX2_setDrift) (maxL := 4) hl0 (by decide) rfl (Nat.le_of_ble_eq_true rfl) ?_
  intro p e s m args below meth c A Q ls hM hG hRet hThr hNew hl
  have hx := hM.1
  have hb := hM.2.1
  have hown := hM.2.2.2.1
  have hts := hM.2.2.2.2
  have wRX2_19 : Cond.fieldLink RX2 19 "TimeNet" "driftOf" "[I" ∈ wsX2_setDrift := by decide +kernel
  have hinX2 : ∀ w ∈ wsX20, w ∈ wsX2_setDrift := by decide +kernel
  have hl : lv_has ls 4 [(0, .ref (h 0)), (1, .int x), (2, .int a)] := hl
  refine lv_aload_n hx hb dX2_setDrift_0 rfl (lv_at hl 0 rfl) ?_
  refine lv_iload_n hx hb dX2_setDrift_1 rfl (lv_at hl 1 rfl) ?_
  by_cases hp_2 : okN N x
  · refine q_callv (n := 1) (As := [.int x]) (rest := []) hM hl.1 hG (c_X2_requireNode l g h N tk dom gr va dr off rt cnt lk dl td K E ds x hN hp_2) rfl gX2_setDrift_X2_requireNode (by decide +kernel) ⟨Nat.le_of_ble_eq_true rfl, Nat.le_of_ble_eq_true rfl⟩ 0 rfl rfl rfl rfl rfl (Nat.le_of_ble_eq_true rfl) dX2_setDrift_2 (c1 := 0) (s1 := 0) rfl rfl ⟨Nat.le_of_ble_eq_true rfl, Nat.le_of_ble_eq_true rfl⟩ (fun u_2 H locs h9 hG => ?_)
    obtain ⟨i, hi, rfl⟩ := hp_2
    have hix : i < 10 := by omega
    refine lv_iload_n hx hb dX2_setDrift_5 rfl (lv_at hl 2 rfl) ?_
    refine lv_bipush (v := (-100)) hx hb dX2_setDrift_6 (by decide) ?_
    refine lv_bipush (v := 100) hx hb dX2_setDrift_8 (by decide) ?_
    by_cases hp_10 : inR (-100 : Int32) a 100
    · refine q_callSv (n := 3) (As := [.int a, .int (-100 : Int32), .int 100]) (rest := []) hM hl.1 hG (c_X2_requireWithin l g h N tk dom gr va dr off rt cnt lk dl td K E ds a (-100 : Int32) 100  hp_10) rfl gX2_setDrift_X2_requireWithin (by decide +kernel) ⟨Nat.le_of_ble_eq_true rfl, Nat.le_of_ble_eq_true rfl⟩ rfl rfl (Nat.le_of_ble_eq_true rfl) dX2_setDrift_10 (c1 := 0) (s1 := 0) rfl rfl ⟨Nat.le_of_ble_eq_true rfl, Nat.le_of_ble_eq_true rfl⟩ (fun u_10 H locs h9 hG => ?_)
      refine lv_aload_n hx hb dX2_setDrift_13 rfl (lv_at hl 0 rfl) ?_
      refine q_get hM hG (C := RX2) (T := TX2) (n := 12) hinX2 0 rfl rfl 3 (by decide) wRX2_19 rfl (v := .ref (h 4)) rfl dX2_setDrift_14 ?_
      refine lv_iload_n hx hb dX2_setDrift_17 rfl (lv_at hl 1 rfl) ?_
      refine q_iald hM hG 4 rfl hix (by decide) dX2_setDrift_18 ?_
      refine lv_istore_n (lv' := [(3, .int (dr i)), (0, .ref (h 0)), (1, .int (nI i)), (2, .int a)]) hx hb dX2_setDrift_19 rfl hl (by decide) rfl (fun ls hl => ?_)
      refine lv_aload_n hx hb dX2_setDrift_20 rfl (lv_at hl 1 rfl) ?_
      refine q_get hM hG (C := RX2) (T := TX2) (n := 12) hinX2 0 rfl rfl 3 (by decide) wRX2_19 rfl (v := .ref (h 4)) rfl dX2_setDrift_21 ?_
      refine lv_iload_n hx hb dX2_setDrift_24 rfl (lv_at hl 2 rfl) ?_
      refine lv_iload_n hx hb dX2_setDrift_25 rfl (lv_at hl 3 rfl) ?_
      refine q_iast hM hG 4 rfl hix (by decide) (ws1 := (cNet g h N tk dom gr va (upd dr i a) off rt cnt lk dl td K E ds)) rfl dX2_setDrift_26 (fun H locs hG => ?_)
      refine lv_iload_n hx hb dX2_setDrift_27 rfl (lv_at hl 0 rfl) ?_
      exact hRet (dr i) (upd dr i a) _ _ _ _ _ _ (⟨i, hi, rfl, hp_10, rfl, rfl⟩) hG (Nat.le_of_ble_eq_true rfl) (Nat.le_of_ble_eq_true rfl) dX2_setDrift_28
    · refine q_xcallSv (n := 3) (As := [.int a, .int (-100 : Int32), .int 100]) (rest := []) hM hl.1 hG (c_X2_requireWithin_x l hl0 g h N tk dom gr va dr off rt cnt lk dl td K E ds a (-100 : Int32) 100  hp_10) rfl gX2_setDrift_X2_requireWithin (by decide +kernel) ⟨Nat.le_of_ble_eq_true rfl, Nat.le_of_ble_eq_true rfl⟩ rfl rfl (Nat.le_of_ble_eq_true rfl) dX2_setDrift_10 (c1 := 1) (s1 := 6) rfl rfl ⟨Nat.le_of_ble_eq_true rfl, Nat.le_of_ble_eq_true rfl⟩ (fun E ce q9 H locs hE hG h1 h2 h3 => hThr E ce q9 _ _ _ _ _ _ _ (Or.inr ⟨hE.1, ⟨i, hi, rfl⟩, hE.2⟩) hG h1 h2 h3 (Nat.le_of_ble_eq_true rfl) (Nat.le_of_ble_eq_true rfl)) (fun u_10 H locs h9 hG => absurd h9 id)
  · refine q_xcallv (n := 1) (As := [.int x]) (rest := []) hM hl.1 hG (c_X2_requireNode_x l hl0 g h N tk dom gr va dr off rt cnt lk dl td K E ds x hN hp_2) rfl gX2_setDrift_X2_requireNode (by decide +kernel) ⟨Nat.le_of_ble_eq_true rfl, Nat.le_of_ble_eq_true rfl⟩ 0 rfl rfl rfl rfl rfl (Nat.le_of_ble_eq_true rfl) dX2_setDrift_2 (c1 := 1) (s1 := 6) rfl rfl ⟨Nat.le_of_ble_eq_true rfl, Nat.le_of_ble_eq_true rfl⟩ (fun E ce q9 H locs hE hG h1 h2 h3 => hThr E ce q9 _ _ _ _ _ _ _ (Or.inl hE) hG h1 h2 h3 (Nat.le_of_ble_eq_true rfl) (Nat.le_of_ble_eq_true rfl)) (fun u_2 H locs h9 hG => absurd h9 id)

set_option maxHeartbeats 4000000 in
set_option maxRecDepth 100000 in
theorem c_X2_setOffset (l : Launch) (hl0 : l.stackTraces = false) (g : EN) (h : Nat → Nat) (N : Nat) (tk : Int32) (dom : Nat → Int32) (gr : Nat → Int32) (va : Nat → Int32) (dr : Nat → Int32) (off : Nat → Int64) (rt : Nat → Int64) (cnt : Int32) (lk : Nat → Int32) (dl : Nat → Int32) (td : Nat → Int32) (K : KT) (E : KT) (ds : Nat → Int32) (x a : Int32) (hN : N ≤ 10)  : Xl l yX2_setOffset wsX2_setOffset ({ frames := 7, cells := 1, slots := 6, locals := 104 }) g [.ref (h 0), .int x, .int a] (cNet g h N tk dom gr va dr off rt cnt lk dl td K E ds) (fun E => ex2 E "java/lang/IndexOutOfBoundsException" "java/lang/IllegalArgumentException" (okN N x) (inR (-1000000) a 1000000)) (fun (r : Int64) (u : Nat → Int64) => ∃ i, i < N ∧ x = nI i ∧ inR (-1000000) a 1000000 ∧ r = off i ∧ u = vp_updL off i a.toInt64) (fun (u : Nat → Int64) => (cNet g h N tk dom gr va dr u rt cnt lk dl td K E ds)) := by
  refine Xl.of (cc := cX2_setOffset) (maxL := 5) hl0 (by decide) rfl (Nat.le_of_ble_eq_true rfl) ?_
  intro p e s m args below meth c A Q ls hM hG hRet hThr hNew hl
  have hx := hM.1
  have hb := hM.2.1
  have hown := hM.2.2.2.1
  have hts := hM.2.2.2.2
  have wRX2_22 : Cond.fieldLink RX2 22 "TimeNet" "offsetOf" "[J" ∈ wsX2_setOffset := by decide +kernel
  have hinX2 : ∀ w ∈ wsX20, w ∈ wsX2_setOffset := by decide +kernel
  have hl : lv_has ls 5 [(0, .ref (h 0)), (1, .int x), (2, .int a)] := hl
  refine lv_aload_n hx hb dX2_setOffset_0 rfl (lv_at hl 0 rfl) ?_
  refine lv_iload_n hx hb dX2_setOffset_1 rfl (lv_at hl 1 rfl) ?_
  by_cases hp_2 : okN N x
  · refine q_callv (n := 1) (As := [.int x]) (rest := []) hM hl.1 hG (c_X2_requireNode l g h N tk dom gr va dr off rt cnt lk dl td K E ds x hN hp_2) rfl gX2_setOffset_X2_requireNode (by decide +kernel) ⟨Nat.le_of_ble_eq_true rfl, Nat.le_of_ble_eq_true rfl⟩ 0 rfl rfl rfl rfl rfl (Nat.le_of_ble_eq_true rfl) dX2_setOffset_2 (c1 := 0) (s1 := 0) rfl rfl ⟨Nat.le_of_ble_eq_true rfl, Nat.le_of_ble_eq_true rfl⟩ (fun u_2 H locs h9 hG => ?_)
    obtain ⟨i, hi, rfl⟩ := hp_2
    have hix : i < 10 := by omega
    refine lv_iload_n hx hb dX2_setOffset_5 rfl (lv_at hl 2 rfl) ?_
    refine lv_ldc (v := (-1000000)) hx hb hown (hts (.constant RX2 74 (-1000000)) (by decide +kernel)) dX2_setOffset_6 ?_
    refine lv_ldc (v := 1000000) hx hb hown (hts (.constant RX2 75 1000000) (by decide +kernel)) dX2_setOffset_8 ?_
    by_cases hp_10 : inR (-1000000) a 1000000
    · refine q_callSv (n := 3) (As := [.int a, .int (-1000000), .int 1000000]) (rest := []) hM hl.1 hG (c_X2_requireWithin l g h N tk dom gr va dr off rt cnt lk dl td K E ds a (-1000000) 1000000  hp_10) rfl gX2_setOffset_X2_requireWithin (by decide +kernel) ⟨Nat.le_of_ble_eq_true rfl, Nat.le_of_ble_eq_true rfl⟩ rfl rfl (Nat.le_of_ble_eq_true rfl) dX2_setOffset_10 (c1 := 0) (s1 := 0) rfl rfl ⟨Nat.le_of_ble_eq_true rfl, Nat.le_of_ble_eq_true rfl⟩ (fun u_10 H locs h9 hG => ?_)
      refine lv_aload_n hx hb dX2_setOffset_13 rfl (lv_at hl 0 rfl) ?_
      refine q_get hM hG (C := RX2) (T := TX2) (n := 12) hinX2 0 rfl rfl 4 (by decide) wRX2_22 rfl (v := .ref (h 5)) rfl dX2_setOffset_14 ?_
      refine lv_iload_n hx hb dX2_setOffset_17 rfl (lv_at hl 1 rfl) ?_
      refine q_lald hM hG 5 rfl hix (by decide) dX2_setOffset_18 ?_
      refine lv_lstore_n (lv' := [(3, .long (off i)), (0, .ref (h 0)), (1, .int (nI i)), (2, .int a)]) hx hb dX2_setOffset_19 rfl hl (by decide) rfl (fun ls hl => ?_)
      refine lv_aload_n hx hb dX2_setOffset_20 rfl (lv_at hl 1 rfl) ?_
      refine q_get hM hG (C := RX2) (T := TX2) (n := 12) hinX2 0 rfl rfl 4 (by decide) wRX2_22 rfl (v := .ref (h 5)) rfl dX2_setOffset_21 ?_
      refine lv_iload_n hx hb dX2_setOffset_24 rfl (lv_at hl 2 rfl) ?_
      refine lv_iload_n hx hb dX2_setOffset_25 rfl (lv_at hl 3 rfl) ?_
      refine lv_i2l hx hb dX2_setOffset_26 rfl ?_
      refine q_last hM hG 5 rfl hix (by decide) (ws1 := (cNet g h N tk dom gr va dr (vp_updL off i a.toInt64) rt cnt lk dl td K E ds)) rfl dX2_setOffset_27 (fun H locs hG => ?_)
      refine lv_lload_n hx hb dX2_setOffset_28 rfl (lv_at hl 0 rfl) ?_
      exact hRet (off i) (vp_updL off i a.toInt64) _ _ _ _ _ _ (⟨i, hi, rfl, hp_10, rfl, rfl⟩) hG (Nat.le_of_ble_eq_true rfl) (Nat.le_of_ble_eq_true rfl) dX2_setOffset_29
    · refine q_xcallSv (n := 3) (As := [.int a, .int (-1000000), .int 1000000]) (rest := []) hM hl.1 hG (c_X2_requireWithin_x l hl0 g h N tk dom gr va dr off rt cnt lk dl td K E ds a (-1000000) 1000000  hp_10) rfl gX2_setOffset_X2_requireWithin (by decide +kernel) ⟨Nat.le_of_ble_eq_true rfl, Nat.le_of_ble_eq_true rfl⟩ rfl rfl (Nat.le_of_ble_eq_true rfl) dX2_setOffset_10 (c1 := 1) (s1 := 6) rfl rfl ⟨Nat.le_of_ble_eq_true rfl, Nat.le_of_ble_eq_true rfl⟩ (fun E ce q9 H locs hE hG h1 h2 h3 => hThr E ce q9 _ _ _ _ _ _ _ (Or.inr ⟨hE.1, ⟨i, hi, rfl⟩, hE.2⟩) hG h1 h2 h3 (Nat.le_of_ble_eq_true rfl) (Nat.le_of_ble_eq_true rfl)) (fun u_10 H locs h9 hG => absurd h9 id)
  · refine q_xcallv (n := 1) (As := [.int x]) (rest := []) hM hl.1 hG (c_X2_requireNode_x l hl0 g h N tk dom gr va dr off rt cnt lk dl td K E ds x hN hp_2) rfl gX2_setOffset_X2_requireNode (by decide +kernel) ⟨Nat.le_of_ble_eq_true rfl, Nat.le_of_ble_eq_true rfl⟩ 0 rfl rfl rfl rfl rfl (Nat.le_of_ble_eq_true rfl) dX2_setOffset_2 (c1 := 1) (s1 := 6) rfl rfl ⟨Nat.le_of_ble_eq_true rfl, Nat.le_of_ble_eq_true rfl⟩ (fun E ce q9 H locs hE hG h1 h2 h3 => hThr E ce q9 _ _ _ _ _ _ _ (Or.inl hE) hG h1 h2 h3 (Nat.le_of_ble_eq_true rfl) (Nat.le_of_ble_eq_true rfl)) (fun u_2 H locs h9 hG => absurd h9 id)

set_option maxHeartbeats 4000000 in
set_option maxRecDepth 100000 in
theorem c_X2_link (l : Launch) (hl0 : l.stackTraces = false) (g : EN) (h : Nat → Nat) (N : Nat) (tk : Int32) (dom : Nat → Int32) (gr : Nat → Int32) (va : Nat → Int32) (dr : Nat → Int32) (off : Nat → Int64) (rt : Nat → Int64) (cnt : Int32) (lk : Nat → Int32) (dl : Nat → Int32) (td : Nat → Int32) (K : KT) (E : KT) (ds : Nat → Int32) (x y a b : Int32) (hN : N ≤ 10) (hlk : b01 lk)  : Xi l yX2_link wsX2_link ({ frames := 7, cells := 1, slots := 6, locals := 104 }) g [.ref (h 0), .int x, .int y, .int a, .int b] (cNet g h N tk dom gr va dr off rt cnt lk dl td K E ds) (fun E => ex3 E "java/lang/IndexOutOfBoundsException" "java/lang/IllegalArgumentException" "java/lang/IllegalStateException" (okN N x ∧ okN N y) (¬ x = y ∧ inR 0 a 100000 ∧ inR 0 b 100000) (¬ lkd lk x y)) (fun (r : Int32) (u : (Nat → Int32) × (Nat → Int32) × (Nat → Int32) × Int32) => ∃ i j, i < N ∧ j < N ∧ x = nI i ∧ y = nI j ∧ (¬ x = y ∧ inR 0 a 100000 ∧ inR 0 b 100000) ∧ ¬ lkd lk x y ∧ u.1 = upd (upd lk (i * 10 + j) 1) (j * 10 + i) 1 ∧ u.2.1 = upd (upd dl (i * 10 + j) a) (j * 10 + i) b ∧ u.2.2.1 = upd (upd td (i * 10 + j) 0) (j * 10 + i) 0 ∧ u.2.2.2 = cnt + 1 ∧ r = cnt + 1) (fun (u : (Nat → Int32) × (Nat → Int32) × (Nat → Int32) × Int32) => (cNet g h N tk dom gr va dr off rt u.2.2.2 u.1 u.2.1 u.2.2.1 K E ds)) := by
  refine Xi.of (cc := cX2_link) (maxL := 5) hl0 (by decide) rfl (Nat.le_of_ble_eq_true rfl) ?_
  intro p e s m args below meth c A Q ls hM hG hRet hThr hNew hl
  have hx := hM.1
  have hb := hM.2.1
  have hown := hM.2.2.2.1
  have hts := hM.2.2.2.2
  have wRX2_32 : Cond.fieldLink RX2 32 "TimeNet" "wires" "LTimeNet$Wires;" ∈ wsX2_link := by decide +kernel
  have hinX1 : ∀ w ∈ wsX10, w ∈ wsX2_link := by decide +kernel
  have hinX2 : ∀ w ∈ wsX20, w ∈ wsX2_link := by decide +kernel
  have hl : lv_has ls 5 [(0, .ref (h 0)), (1, .int x), (2, .int y), (3, .int a), (4, .int b)] := hl
  refine lv_aload_n hx hb dX2_link_0 rfl (lv_at hl 0 rfl) ?_
  refine lv_iload_n hx hb dX2_link_1 rfl (lv_at hl 1 rfl) ?_
  by_cases hp_2 : okN N x
  · refine q_callv (n := 1) (As := [.int x]) (rest := []) hM hl.1 hG (c_X2_requireNode l g h N tk dom gr va dr off rt cnt lk dl td K E ds x hN hp_2) rfl gX2_link_X2_requireNode (by decide +kernel) ⟨Nat.le_of_ble_eq_true rfl, Nat.le_of_ble_eq_true rfl⟩ 0 rfl rfl rfl rfl rfl (Nat.le_of_ble_eq_true rfl) dX2_link_2 (c1 := 0) (s1 := 0) rfl rfl ⟨Nat.le_of_ble_eq_true rfl, Nat.le_of_ble_eq_true rfl⟩ (fun u_2 H locs h9 hG => ?_)
    obtain ⟨i, hi, rfl⟩ := hp_2
    have hix : i < 10 := by omega
    refine lv_aload_n hx hb dX2_link_5 rfl (lv_at hl 0 rfl) ?_
    refine lv_iload_n hx hb dX2_link_6 rfl (lv_at hl 2 rfl) ?_
    by_cases hp_7 : okN N y
    · refine q_callv (n := 1) (As := [.int y]) (rest := []) hM hl.1 hG (c_X2_requireNode l g h N tk dom gr va dr off rt cnt lk dl td K E ds y hN hp_7) rfl gX2_link_X2_requireNode (by decide +kernel) ⟨Nat.le_of_ble_eq_true rfl, Nat.le_of_ble_eq_true rfl⟩ 0 rfl rfl rfl rfl rfl (Nat.le_of_ble_eq_true rfl) dX2_link_7 (c1 := 0) (s1 := 0) rfl rfl ⟨Nat.le_of_ble_eq_true rfl, Nat.le_of_ble_eq_true rfl⟩ (fun u_7 H locs h9 hG => ?_)
      obtain ⟨j, hj, rfl⟩ := hp_7
      have hjx : j < 10 := by omega
      refine lv_iload_n hx hb dX2_link_10 rfl (lv_at hl 1 rfl) ?_
      refine lv_iload_n hx hb dX2_link_11 rfl (lv_at hl 2 rfl) ?_
      refine lv_icmp_ne (tgt := 25) hx hb dX2_link_12 (by decide) (fun c_12 => ?_) (fun c_12 => ?_)
      · refine lv_iload_n hx hb dX2_link_25 rfl (lv_at hl 3 rfl) ?_
        refine lv_iconst (v := 0) hx hb dX2_link_26 (by decide) ?_
        refine lv_ldc (v := 100000) hx hb hown (hts (.constant RX2 81 100000) (by decide +kernel)) dX2_link_27 ?_
        by_cases hp_29 : inR 0 a 100000
        · refine q_callSv (n := 3) (As := [.int a, .int 0, .int 100000]) (rest := []) hM hl.1 hG (c_X2_requireWithin l g h N tk dom gr va dr off rt cnt lk dl td K E ds a 0 100000  hp_29) rfl gX2_link_X2_requireWithin (by decide +kernel) ⟨Nat.le_of_ble_eq_true rfl, Nat.le_of_ble_eq_true rfl⟩ rfl rfl (Nat.le_of_ble_eq_true rfl) dX2_link_29 (c1 := 0) (s1 := 0) rfl rfl ⟨Nat.le_of_ble_eq_true rfl, Nat.le_of_ble_eq_true rfl⟩ (fun u_29 H locs h9 hG => ?_)
          refine lv_iload hx hb dX2_link_32 (lv_at hl 4 rfl) ?_
          refine lv_iconst (v := 0) hx hb dX2_link_34 (by decide) ?_
          refine lv_ldc (v := 100000) hx hb hown (hts (.constant RX2 81 100000) (by decide +kernel)) dX2_link_35 ?_
          by_cases hp_37 : inR 0 b 100000
          · refine q_callSv (n := 3) (As := [.int b, .int 0, .int 100000]) (rest := []) hM hl.1 hG (c_X2_requireWithin l g h N tk dom gr va dr off rt cnt lk dl td K E ds b 0 100000  hp_37) rfl gX2_link_X2_requireWithin (by decide +kernel) ⟨Nat.le_of_ble_eq_true rfl, Nat.le_of_ble_eq_true rfl⟩ rfl rfl (Nat.le_of_ble_eq_true rfl) dX2_link_37 (c1 := 0) (s1 := 0) rfl rfl ⟨Nat.le_of_ble_eq_true rfl, Nat.le_of_ble_eq_true rfl⟩ (fun u_37 H locs h9 hG => ?_)
            refine lv_aload_n hx hb dX2_link_40 rfl (lv_at hl 0 rfl) ?_
            refine q_get hM hG (C := RX2) (T := TX2) (n := 12) hinX2 0 rfl rfl 6 (by decide) wRX2_32 rfl (v := .ref (h 8)) rfl dX2_link_41 ?_
            refine lv_iload_n hx hb dX2_link_44 rfl (lv_at hl 1 rfl) ?_
            refine lv_iload_n hx hb dX2_link_45 rfl (lv_at hl 2 rfl) ?_
            refine q_callNi (n := 2) (As := [.int (nI i), .int (nI j)]) (rest := []) hM hl.1 hG (c_X1_areLinked l g h N tk dom gr va dr off rt cnt lk dl td K E ds i j (by omega) hlk) rfl (host := RX2) gX2_link_X1_areLinked_n82 (by decide +kernel) (by decide +kernel) (by decide +kernel) (by decide +kernel) (by decide +kernel) ⟨Nat.le_of_ble_eq_true rfl, Nat.le_of_ble_eq_true rfl⟩ 8 rfl rfl rfl rfl rfl (Nat.le_of_ble_eq_true rfl) dX2_link_46 (c1 := 0) (s1 := 0) rfl rfl ⟨Nat.le_of_ble_eq_true rfl, Nat.le_of_ble_eq_true rfl⟩ (fun r_46 u_46 H locs hp_46 hG => ?_)
            rcases hp_46 with ⟨rfl, hp_46⟩ | ⟨rfl, hp_46⟩
            · refine lv_if_eq (tgt := 62) hx hb dX2_link_49 (by decide) (fun c9 => False.elim (by revert c9; decide)) (fun _ => ?_)
              obtain ⟨sa9, hsa9⟩ := hG.2.2.2.2.1.2.2.2.2.2.1
              refine hNew RX2 "java/lang/IllegalStateException" "they are linked" ["java/lang/RuntimeException", "java/lang/Exception"] 60 86 64 sa9 _ _ _ _ _ _ hown (by decide +kernel) (by decide +kernel) (hts (.classLink RX2 60 "java/lang/IllegalStateException") (by decide +kernel)) (hts (.initialized "java/lang/IllegalStateException") (by decide +kernel)) hsa9 ?_ (by decide +kernel) hG hl.1 dX2_link_52 dX2_link_55 dX2_link_56 dX2_link_58 dX2_link_61 (by decide) (by decide) (by decide) (by decide) (Or.inr (Or.inr ⟨rfl, ⟨⟨i, hi, rfl⟩, ⟨j, hj, rfl⟩⟩, ⟨c_12, hp_29, hp_37⟩, fun h9 => h9 ((lkd_n hix hjx).mpr hp_46)⟩))
              exact q_at hM hG (by decide +kernel) (by decide +kernel)
            · refine lv_if_eq (tgt := 62) hx hb dX2_link_49 (by decide) (fun _ => ?_) (fun c9 => False.elim (by revert c9; decide))
              refine lv_aload_n hx hb dX2_link_62 rfl (lv_at hl 0 rfl) ?_
              refine q_get hM hG (C := RX2) (T := TX2) (n := 12) hinX2 0 rfl rfl 6 (by decide) wRX2_32 rfl (v := .ref (h 8)) rfl dX2_link_63 ?_
              refine lv_iload_n hx hb dX2_link_66 rfl (lv_at hl 1 rfl) ?_
              refine lv_iload_n hx hb dX2_link_67 rfl (lv_at hl 2 rfl) ?_
              refine lv_iload_n hx hb dX2_link_68 rfl (lv_at hl 3 rfl) ?_
              refine lv_iload hx hb dX2_link_69 (lv_at hl 4 rfl) ?_
              refine q_callNv (n := 4) (As := [.int (nI i), .int (nI j), .int a, .int b]) (rest := []) hM hl.1 hG (c_X1_lay l g h N tk dom gr va dr off rt cnt lk dl td K E ds i j a b (by omega) (by omega)) rfl (host := RX2) gX2_link_X1_lay_n88 (by decide +kernel) (by decide +kernel) (by decide +kernel) (by decide +kernel) (by decide +kernel) ⟨Nat.le_of_ble_eq_true rfl, Nat.le_of_ble_eq_true rfl⟩ 8 rfl rfl rfl rfl rfl (Nat.le_of_ble_eq_true rfl) dX2_link_71 (c1 := 0) (s1 := 0) rfl rfl ⟨Nat.le_of_ble_eq_true rfl, Nat.le_of_ble_eq_true rfl⟩ (fun u_71 H locs hp_71 hG => ?_)
              refine lv_aload_n hx hb dX2_link_74 rfl (lv_at hl 0 rfl) ?_
              refine q_get hM hG (C := RX2) (T := TX2) (n := 12) hinX2 0 rfl rfl 6 (by decide) wRX2_32 rfl (v := .ref (h 8)) rfl dX2_link_75 ?_
              refine q_getN hM hG (C := RX1) (T := TX1) (n := 4) (host := RX2) hinX1 8 rfl rfl 3 (by decide) (by decide +kernel) rfl (v := .int u_71.2.2.2) rfl dX2_link_78 ?_
              exact hRet u_71.2.2.2 u_71 _ _ _ _ _ _ (⟨i, j, hi, hj, rfl, rfl, ⟨c_12, hp_29, hp_37⟩, fun h9 => hp_46 ((lkd_n hix hjx).mp h9), hp_71.1, hp_71.2.1, hp_71.2.2.1, hp_71.2.2.2, hp_71.2.2.2⟩) hG (Nat.le_of_ble_eq_true rfl) (Nat.le_of_ble_eq_true rfl) dX2_link_81
          · refine q_xcallSv (n := 3) (As := [.int b, .int 0, .int 100000]) (rest := []) hM hl.1 hG (c_X2_requireWithin_x l hl0 g h N tk dom gr va dr off rt cnt lk dl td K E ds b 0 100000  hp_37) rfl gX2_link_X2_requireWithin (by decide +kernel) ⟨Nat.le_of_ble_eq_true rfl, Nat.le_of_ble_eq_true rfl⟩ rfl rfl (Nat.le_of_ble_eq_true rfl) dX2_link_37 (c1 := 1) (s1 := 6) rfl rfl ⟨Nat.le_of_ble_eq_true rfl, Nat.le_of_ble_eq_true rfl⟩ (fun E ce q9 H locs hE hG h1 h2 h3 => hThr E ce q9 _ _ _ _ _ _ _ (Or.inr (Or.inl ⟨hE.1, ⟨⟨i, hi, rfl⟩, ⟨j, hj, rfl⟩⟩, fun h9 => hE.2 h9.2.2⟩)) hG h1 h2 h3 (Nat.le_of_ble_eq_true rfl) (Nat.le_of_ble_eq_true rfl)) (fun u_37 H locs h9 hG => absurd h9 id)
        · refine q_xcallSv (n := 3) (As := [.int a, .int 0, .int 100000]) (rest := []) hM hl.1 hG (c_X2_requireWithin_x l hl0 g h N tk dom gr va dr off rt cnt lk dl td K E ds a 0 100000  hp_29) rfl gX2_link_X2_requireWithin (by decide +kernel) ⟨Nat.le_of_ble_eq_true rfl, Nat.le_of_ble_eq_true rfl⟩ rfl rfl (Nat.le_of_ble_eq_true rfl) dX2_link_29 (c1 := 1) (s1 := 6) rfl rfl ⟨Nat.le_of_ble_eq_true rfl, Nat.le_of_ble_eq_true rfl⟩ (fun E ce q9 H locs hE hG h1 h2 h3 => hThr E ce q9 _ _ _ _ _ _ _ (Or.inr (Or.inl ⟨hE.1, ⟨⟨i, hi, rfl⟩, ⟨j, hj, rfl⟩⟩, fun h9 => hE.2 h9.2.1⟩)) hG h1 h2 h3 (Nat.le_of_ble_eq_true rfl) (Nat.le_of_ble_eq_true rfl)) (fun u_29 H locs h9 hG => absurd h9 id)
      · obtain ⟨sa9, hsa9⟩ := hG.2.2.2.2.1.2.2.2.2.1
        refine hNew RX2 "java/lang/IllegalArgumentException" "a node is not linked with itself" ["java/lang/RuntimeException", "java/lang/Exception"] 76 78 80 sa9 _ _ _ _ _ _ hown (by decide +kernel) (by decide +kernel) (hts (.classLink RX2 76 "java/lang/IllegalArgumentException") (by decide +kernel)) (hts (.initialized "java/lang/IllegalArgumentException") (by decide +kernel)) hsa9 ?_ (by decide +kernel) hG hl.1 dX2_link_15 dX2_link_18 dX2_link_19 dX2_link_21 dX2_link_24 (by decide) (by decide) (by decide) (by decide) (Or.inr (Or.inl ⟨rfl, ⟨⟨i, hi, rfl⟩, ⟨j, hj, rfl⟩⟩, fun h9 => h9.1 c_12⟩))
        exact q_at hM hG (by decide +kernel) (by decide +kernel)
    · refine q_xcallv (n := 1) (As := [.int y]) (rest := []) hM hl.1 hG (c_X2_requireNode_x l hl0 g h N tk dom gr va dr off rt cnt lk dl td K E ds y hN hp_7) rfl gX2_link_X2_requireNode (by decide +kernel) ⟨Nat.le_of_ble_eq_true rfl, Nat.le_of_ble_eq_true rfl⟩ 0 rfl rfl rfl rfl rfl (Nat.le_of_ble_eq_true rfl) dX2_link_7 (c1 := 1) (s1 := 6) rfl rfl ⟨Nat.le_of_ble_eq_true rfl, Nat.le_of_ble_eq_true rfl⟩ (fun E ce q9 H locs hE hG h1 h2 h3 => hThr E ce q9 _ _ _ _ _ _ _ (Or.inl ⟨hE.1, fun h9 => hE.2 h9.2⟩) hG h1 h2 h3 (Nat.le_of_ble_eq_true rfl) (Nat.le_of_ble_eq_true rfl)) (fun u_7 H locs h9 hG => absurd h9 id)
  · refine q_xcallv (n := 1) (As := [.int x]) (rest := []) hM hl.1 hG (c_X2_requireNode_x l hl0 g h N tk dom gr va dr off rt cnt lk dl td K E ds x hN hp_2) rfl gX2_link_X2_requireNode (by decide +kernel) ⟨Nat.le_of_ble_eq_true rfl, Nat.le_of_ble_eq_true rfl⟩ 0 rfl rfl rfl rfl rfl (Nat.le_of_ble_eq_true rfl) dX2_link_2 (c1 := 1) (s1 := 6) rfl rfl ⟨Nat.le_of_ble_eq_true rfl, Nat.le_of_ble_eq_true rfl⟩ (fun E ce q9 H locs hE hG h1 h2 h3 => hThr E ce q9 _ _ _ _ _ _ _ (Or.inl ⟨hE.1, fun h9 => hE.2 h9.1⟩) hG h1 h2 h3 (Nat.le_of_ble_eq_true rfl) (Nat.le_of_ble_eq_true rfl)) (fun u_2 H locs h9 hG => absurd h9 id)

set_option maxHeartbeats 4000000 in
set_option maxRecDepth 100000 in
theorem c_X2_cut (l : Launch) (hl0 : l.stackTraces = false) (g : EN) (h : Nat → Nat) (N : Nat) (tk : Int32) (dom : Nat → Int32) (gr : Nat → Int32) (va : Nat → Int32) (dr : Nat → Int32) (off : Nat → Int64) (rt : Nat → Int64) (cnt : Int32) (lk : Nat → Int32) (dl : Nat → Int32) (td : Nat → Int32) (K : KT) (E : KT) (ds : Nat → Int32) (x y : Int32) (hN : N ≤ 10) (hlk : b01 lk)  : Xi l yX2_cut wsX2_cut ({ frames := 7, cells := 1, slots := 6, locals := 104 }) g [.ref (h 0), .int x, .int y] (cNet g h N tk dom gr va dr off rt cnt lk dl td K E ds) (fun E => ex2 E "java/lang/IndexOutOfBoundsException" "java/lang/IllegalStateException" (okN N x ∧ okN N y) (lkd lk x y)) (fun (r : Int32) (u : (Nat → Int32) × Int32 × KT) => ∃ i j, i < N ∧ j < N ∧ x = nI i ∧ y = nI j ∧ lkd lk x y ∧ u.1 = upd (upd lk (i * 10 + j) 0) (j * 10 + i) 0 ∧ u.2.1 = cnt - 1 ∧ u.2.2 = kfp gr va (kfp gr va K i j) j i ∧ r = cnt - 1) (fun (u : (Nat → Int32) × Int32 × KT) => (cNet g h N tk dom gr va dr off rt u.2.1 u.1 dl td u.2.2 E ds)) := by
  refine Xi.of (cc := cX2_cut) (maxL := 3) hl0 (by decide) rfl (Nat.le_of_ble_eq_true rfl) ?_
  intro p e s m args below meth c A Q ls hM hG hRet hThr hNew hl
  have hx := hM.1
  have hb := hM.2.1
  have hown := hM.2.2.2.1
  have hts := hM.2.2.2.2
  have wRX2_32 : Cond.fieldLink RX2 32 "TimeNet" "wires" "LTimeNet$Wires;" ∈ wsX2_cut := by decide +kernel
  have hinX1 : ∀ w ∈ wsX10, w ∈ wsX2_cut := by decide +kernel
  have hinX2 : ∀ w ∈ wsX20, w ∈ wsX2_cut := by decide +kernel
  have hl : lv_has ls 3 [(0, .ref (h 0)), (1, .int x), (2, .int y)] := hl
  refine lv_aload_n hx hb dX2_cut_0 rfl (lv_at hl 0 rfl) ?_
  refine lv_iload_n hx hb dX2_cut_1 rfl (lv_at hl 1 rfl) ?_
  by_cases hp_2 : okN N x
  · refine q_callv (n := 1) (As := [.int x]) (rest := []) hM hl.1 hG (c_X2_requireNode l g h N tk dom gr va dr off rt cnt lk dl td K E ds x hN hp_2) rfl gX2_cut_X2_requireNode (by decide +kernel) ⟨Nat.le_of_ble_eq_true rfl, Nat.le_of_ble_eq_true rfl⟩ 0 rfl rfl rfl rfl rfl (Nat.le_of_ble_eq_true rfl) dX2_cut_2 (c1 := 0) (s1 := 0) rfl rfl ⟨Nat.le_of_ble_eq_true rfl, Nat.le_of_ble_eq_true rfl⟩ (fun u_2 H locs h9 hG => ?_)
    obtain ⟨i, hi, rfl⟩ := hp_2
    have hix : i < 10 := by omega
    refine lv_aload_n hx hb dX2_cut_5 rfl (lv_at hl 0 rfl) ?_
    refine lv_iload_n hx hb dX2_cut_6 rfl (lv_at hl 2 rfl) ?_
    by_cases hp_7 : okN N y
    · refine q_callv (n := 1) (As := [.int y]) (rest := []) hM hl.1 hG (c_X2_requireNode l g h N tk dom gr va dr off rt cnt lk dl td K E ds y hN hp_7) rfl gX2_cut_X2_requireNode (by decide +kernel) ⟨Nat.le_of_ble_eq_true rfl, Nat.le_of_ble_eq_true rfl⟩ 0 rfl rfl rfl rfl rfl (Nat.le_of_ble_eq_true rfl) dX2_cut_7 (c1 := 0) (s1 := 0) rfl rfl ⟨Nat.le_of_ble_eq_true rfl, Nat.le_of_ble_eq_true rfl⟩ (fun u_7 H locs h9 hG => ?_)
      obtain ⟨j, hj, rfl⟩ := hp_7
      have hjx : j < 10 := by omega
      refine lv_aload_n hx hb dX2_cut_10 rfl (lv_at hl 0 rfl) ?_
      refine lv_iload_n hx hb dX2_cut_11 rfl (lv_at hl 1 rfl) ?_
      refine lv_iload_n hx hb dX2_cut_12 rfl (lv_at hl 2 rfl) ?_
      by_cases hp_13 : lk (i * 10 + j) = 1
      · refine q_callv (n := 2) (As := [.int (nI i), .int (nI j)]) (rest := []) hM hl.1 hG (c_X2_requireLinked l g h N tk dom gr va dr off rt cnt lk dl td K E ds i j (by omega) hlk hp_13) rfl gX2_cut_X2_requireLinked (by decide +kernel) ⟨Nat.le_of_ble_eq_true rfl, Nat.le_of_ble_eq_true rfl⟩ 0 rfl rfl rfl rfl rfl (Nat.le_of_ble_eq_true rfl) dX2_cut_13 (c1 := 0) (s1 := 0) rfl rfl ⟨Nat.le_of_ble_eq_true rfl, Nat.le_of_ble_eq_true rfl⟩ (fun u_13 H locs h9 hG => ?_)
        refine lv_aload_n hx hb dX2_cut_16 rfl (lv_at hl 0 rfl) ?_
        refine q_get hM hG (C := RX2) (T := TX2) (n := 12) hinX2 0 rfl rfl 6 (by decide) wRX2_32 rfl (v := .ref (h 8)) rfl dX2_cut_17 ?_
        refine lv_iload_n hx hb dX2_cut_20 rfl (lv_at hl 1 rfl) ?_
        refine lv_iload_n hx hb dX2_cut_21 rfl (lv_at hl 2 rfl) ?_
        refine q_callNv (n := 2) (As := [.int (nI i), .int (nI j)]) (rest := []) hM hl.1 hG (c_X1_remove l g h N tk dom gr va dr off rt cnt lk dl td K E ds i j (by omega) (by omega)) rfl (host := RX2) gX2_cut_X1_remove_n99 (by decide +kernel) (by decide +kernel) (by decide +kernel) (by decide +kernel) (by decide +kernel) ⟨Nat.le_of_ble_eq_true rfl, Nat.le_of_ble_eq_true rfl⟩ 8 rfl rfl rfl rfl rfl (Nat.le_of_ble_eq_true rfl) dX2_cut_22 (c1 := 0) (s1 := 0) rfl rfl ⟨Nat.le_of_ble_eq_true rfl, Nat.le_of_ble_eq_true rfl⟩ (fun u_22 H locs hp_22 hG => ?_)
        refine lv_aload_n hx hb dX2_cut_25 rfl (lv_at hl 0 rfl) ?_
        refine lv_iload_n hx hb dX2_cut_26 rfl (lv_at hl 1 rfl) ?_
        refine lv_iload_n hx hb dX2_cut_27 rfl (lv_at hl 2 rfl) ?_
        refine q_callv (n := 2) (As := [.int (nI i), .int (nI j)]) (rest := []) hM hl.1 hG (c_X2_forgetParent l g h N tk dom gr va dr off rt u_22.2 u_22.1 dl td K E ds i j hix) rfl gX2_cut_X2_forgetParent (by decide +kernel) ⟨Nat.le_of_ble_eq_true rfl, Nat.le_of_ble_eq_true rfl⟩ 0 rfl rfl rfl rfl rfl (Nat.le_of_ble_eq_true rfl) dX2_cut_28 (c1 := 0) (s1 := 0) rfl rfl ⟨Nat.le_of_ble_eq_true rfl, Nat.le_of_ble_eq_true rfl⟩ (fun u_28 H locs hp_28 hG => ?_)
        refine lv_aload_n hx hb dX2_cut_31 rfl (lv_at hl 0 rfl) ?_
        refine lv_iload_n hx hb dX2_cut_32 rfl (lv_at hl 2 rfl) ?_
        refine lv_iload_n hx hb dX2_cut_33 rfl (lv_at hl 1 rfl) ?_
        refine q_callv (n := 2) (As := [.int (nI j), .int (nI i)]) (rest := []) hM hl.1 hG (c_X2_forgetParent l g h N tk dom gr va dr off rt u_22.2 u_22.1 dl td u_28 E ds j i hjx) rfl gX2_cut_X2_forgetParent (by decide +kernel) ⟨Nat.le_of_ble_eq_true rfl, Nat.le_of_ble_eq_true rfl⟩ 0 rfl rfl rfl rfl rfl (Nat.le_of_ble_eq_true rfl) dX2_cut_34 (c1 := 0) (s1 := 0) rfl rfl ⟨Nat.le_of_ble_eq_true rfl, Nat.le_of_ble_eq_true rfl⟩ (fun u_34 H locs hp_34 hG => ?_)
        refine lv_aload_n hx hb dX2_cut_37 rfl (lv_at hl 0 rfl) ?_
        refine q_get hM hG (C := RX2) (T := TX2) (n := 12) hinX2 0 rfl rfl 6 (by decide) wRX2_32 rfl (v := .ref (h 8)) rfl dX2_cut_38 ?_
        refine q_getN hM hG (C := RX1) (T := TX1) (n := 4) (host := RX2) hinX1 8 rfl rfl 3 (by decide) (by decide +kernel) rfl (v := .int u_22.2) rfl dX2_cut_41 ?_
        exact hRet u_22.2 (u_22.1, u_22.2, u_34) _ _ _ _ _ _ (⟨i, j, hi, hj, rfl, rfl, (lkd_n hix hjx).mpr hp_13, hp_22.1, hp_22.2, by rw [hp_34, hp_28], hp_22.2⟩) hG (Nat.le_of_ble_eq_true rfl) (Nat.le_of_ble_eq_true rfl) dX2_cut_44
      · refine q_xcallv (n := 2) (As := [.int (nI i), .int (nI j)]) (rest := []) hM hl.1 hG (c_X2_requireLinked_x l hl0 g h N tk dom gr va dr off rt cnt lk dl td K E ds i j (by omega) hlk hp_13) rfl gX2_cut_X2_requireLinked (by decide +kernel) ⟨Nat.le_of_ble_eq_true rfl, Nat.le_of_ble_eq_true rfl⟩ 0 rfl rfl rfl rfl rfl (Nat.le_of_ble_eq_true rfl) dX2_cut_13 (c1 := 1) (s1 := 6) rfl rfl ⟨Nat.le_of_ble_eq_true rfl, Nat.le_of_ble_eq_true rfl⟩ (fun E ce q9 H locs hE hG h1 h2 h3 => hThr E ce q9 _ _ _ _ _ _ _ (Or.inr ⟨hE.1, ⟨⟨i, hi, rfl⟩, ⟨j, hj, rfl⟩⟩, fun h9 => hE.2 ((lkd_n hix hjx).mp h9)⟩) hG h1 h2 h3 (Nat.le_of_ble_eq_true rfl) (Nat.le_of_ble_eq_true rfl)) (fun u_13 H locs h9 hG => absurd h9 id)
    · refine q_xcallv (n := 1) (As := [.int y]) (rest := []) hM hl.1 hG (c_X2_requireNode_x l hl0 g h N tk dom gr va dr off rt cnt lk dl td K E ds y hN hp_7) rfl gX2_cut_X2_requireNode (by decide +kernel) ⟨Nat.le_of_ble_eq_true rfl, Nat.le_of_ble_eq_true rfl⟩ 0 rfl rfl rfl rfl rfl (Nat.le_of_ble_eq_true rfl) dX2_cut_7 (c1 := 1) (s1 := 6) rfl rfl ⟨Nat.le_of_ble_eq_true rfl, Nat.le_of_ble_eq_true rfl⟩ (fun E ce q9 H locs hE hG h1 h2 h3 => hThr E ce q9 _ _ _ _ _ _ _ (Or.inl ⟨hE.1, fun h9 => hE.2 h9.2⟩) hG h1 h2 h3 (Nat.le_of_ble_eq_true rfl) (Nat.le_of_ble_eq_true rfl)) (fun u_7 H locs h9 hG => absurd h9 id)
  · refine q_xcallv (n := 1) (As := [.int x]) (rest := []) hM hl.1 hG (c_X2_requireNode_x l hl0 g h N tk dom gr va dr off rt cnt lk dl td K E ds x hN hp_2) rfl gX2_cut_X2_requireNode (by decide +kernel) ⟨Nat.le_of_ble_eq_true rfl, Nat.le_of_ble_eq_true rfl⟩ 0 rfl rfl rfl rfl rfl (Nat.le_of_ble_eq_true rfl) dX2_cut_2 (c1 := 1) (s1 := 6) rfl rfl ⟨Nat.le_of_ble_eq_true rfl, Nat.le_of_ble_eq_true rfl⟩ (fun E ce q9 H locs hE hG h1 h2 h3 => hThr E ce q9 _ _ _ _ _ _ _ (Or.inl ⟨hE.1, fun h9 => hE.2 h9.1⟩) hG h1 h2 h3 (Nat.le_of_ble_eq_true rfl) (Nat.le_of_ble_eq_true rfl)) (fun u_2 H locs h9 hG => absurd h9 id)

set_option maxHeartbeats 4000000 in
set_option maxRecDepth 100000 in
theorem c_X2_tell (l : Launch) (hl0 : l.stackTraces = false) (g : EN) (h : Nat → Nat) (N : Nat) (tk : Int32) (dom : Nat → Int32) (gr : Nat → Int32) (va : Nat → Int32) (dr : Nat → Int32) (off : Nat → Int64) (rt : Nat → Int64) (cnt : Int32) (lk : Nat → Int32) (dl : Nat → Int32) (td : Nat → Int32) (K : KT) (E : KT) (ds : Nat → Int32) (x y a : Int32) (hN : N ≤ 10) (hlk : b01 lk)  : Xi l yX2_tell wsX2_tell ({ frames := 7, cells := 1, slots := 6, locals := 104 }) g [.ref (h 0), .int x, .int y, .int a] (cNet g h N tk dom gr va dr off rt cnt lk dl td K E ds) (fun E => ex3 E "java/lang/IndexOutOfBoundsException" "java/lang/IllegalArgumentException" "java/lang/IllegalStateException" (okN N x ∧ okN N y) (inR (-100000) a 100000) (lkd lk x y)) (fun (r : Int32) (u : Nat → Int32) => ∃ i j, i < N ∧ j < N ∧ x = nI i ∧ y = nI j ∧ inR (-100000) a 100000 ∧ lkd lk x y ∧ r = td (i * 10 + j) ∧ u = upd (upd td (i * 10 + j) a) (j * 10 + i) (-a)) (fun (u : Nat → Int32) => (cNet g h N tk dom gr va dr off rt cnt lk dl u K E ds)) := by
  refine Xi.of (cc := cX2_tell) (maxL := 4) hl0 (by decide) rfl (Nat.le_of_ble_eq_true rfl) ?_
  intro p e s m args below meth c A Q ls hM hG hRet hThr hNew hl
  have hx := hM.1
  have hb := hM.2.1
  have hown := hM.2.2.2.1
  have hts := hM.2.2.2.2
  have wRX2_32 : Cond.fieldLink RX2 32 "TimeNet" "wires" "LTimeNet$Wires;" ∈ wsX2_tell := by decide +kernel
  have hinX2 : ∀ w ∈ wsX20, w ∈ wsX2_tell := by decide +kernel
  have hl : lv_has ls 4 [(0, .ref (h 0)), (1, .int x), (2, .int y), (3, .int a)] := hl
  refine lv_aload_n hx hb dX2_tell_0 rfl (lv_at hl 0 rfl) ?_
  refine lv_iload_n hx hb dX2_tell_1 rfl (lv_at hl 1 rfl) ?_
  by_cases hp_2 : okN N x
  · refine q_callv (n := 1) (As := [.int x]) (rest := []) hM hl.1 hG (c_X2_requireNode l g h N tk dom gr va dr off rt cnt lk dl td K E ds x hN hp_2) rfl gX2_tell_X2_requireNode (by decide +kernel) ⟨Nat.le_of_ble_eq_true rfl, Nat.le_of_ble_eq_true rfl⟩ 0 rfl rfl rfl rfl rfl (Nat.le_of_ble_eq_true rfl) dX2_tell_2 (c1 := 0) (s1 := 0) rfl rfl ⟨Nat.le_of_ble_eq_true rfl, Nat.le_of_ble_eq_true rfl⟩ (fun u_2 H locs h9 hG => ?_)
    obtain ⟨i, hi, rfl⟩ := hp_2
    have hix : i < 10 := by omega
    refine lv_aload_n hx hb dX2_tell_5 rfl (lv_at hl 0 rfl) ?_
    refine lv_iload_n hx hb dX2_tell_6 rfl (lv_at hl 2 rfl) ?_
    by_cases hp_7 : okN N y
    · refine q_callv (n := 1) (As := [.int y]) (rest := []) hM hl.1 hG (c_X2_requireNode l g h N tk dom gr va dr off rt cnt lk dl td K E ds y hN hp_7) rfl gX2_tell_X2_requireNode (by decide +kernel) ⟨Nat.le_of_ble_eq_true rfl, Nat.le_of_ble_eq_true rfl⟩ 0 rfl rfl rfl rfl rfl (Nat.le_of_ble_eq_true rfl) dX2_tell_7 (c1 := 0) (s1 := 0) rfl rfl ⟨Nat.le_of_ble_eq_true rfl, Nat.le_of_ble_eq_true rfl⟩ (fun u_7 H locs h9 hG => ?_)
      obtain ⟨j, hj, rfl⟩ := hp_7
      have hjx : j < 10 := by omega
      refine lv_iload_n hx hb dX2_tell_10 rfl (lv_at hl 3 rfl) ?_
      refine lv_ldc (v := (-100000)) hx hb hown (hts (.constant RX2 105 (-100000)) (by decide +kernel)) dX2_tell_11 ?_
      refine lv_ldc (v := 100000) hx hb hown (hts (.constant RX2 81 100000) (by decide +kernel)) dX2_tell_13 ?_
      by_cases hp_15 : inR (-100000) a 100000
      · refine q_callSv (n := 3) (As := [.int a, .int (-100000), .int 100000]) (rest := []) hM hl.1 hG (c_X2_requireWithin l g h N tk dom gr va dr off rt cnt lk dl td K E ds a (-100000) 100000  hp_15) rfl gX2_tell_X2_requireWithin (by decide +kernel) ⟨Nat.le_of_ble_eq_true rfl, Nat.le_of_ble_eq_true rfl⟩ rfl rfl (Nat.le_of_ble_eq_true rfl) dX2_tell_15 (c1 := 0) (s1 := 0) rfl rfl ⟨Nat.le_of_ble_eq_true rfl, Nat.le_of_ble_eq_true rfl⟩ (fun u_15 H locs h9 hG => ?_)
        refine lv_aload_n hx hb dX2_tell_18 rfl (lv_at hl 0 rfl) ?_
        refine lv_iload_n hx hb dX2_tell_19 rfl (lv_at hl 1 rfl) ?_
        refine lv_iload_n hx hb dX2_tell_20 rfl (lv_at hl 2 rfl) ?_
        by_cases hp_21 : lk (i * 10 + j) = 1
        · refine q_callv (n := 2) (As := [.int (nI i), .int (nI j)]) (rest := []) hM hl.1 hG (c_X2_requireLinked l g h N tk dom gr va dr off rt cnt lk dl td K E ds i j (by omega) hlk hp_21) rfl gX2_tell_X2_requireLinked (by decide +kernel) ⟨Nat.le_of_ble_eq_true rfl, Nat.le_of_ble_eq_true rfl⟩ 0 rfl rfl rfl rfl rfl (Nat.le_of_ble_eq_true rfl) dX2_tell_21 (c1 := 0) (s1 := 0) rfl rfl ⟨Nat.le_of_ble_eq_true rfl, Nat.le_of_ble_eq_true rfl⟩ (fun u_21 H locs h9 hG => ?_)
          refine lv_aload_n hx hb dX2_tell_24 rfl (lv_at hl 0 rfl) ?_
          refine q_get hM hG (C := RX2) (T := TX2) (n := 12) hinX2 0 rfl rfl 6 (by decide) wRX2_32 rfl (v := .ref (h 8)) rfl dX2_tell_25 ?_
          refine lv_iload_n hx hb dX2_tell_28 rfl (lv_at hl 1 rfl) ?_
          refine lv_iload_n hx hb dX2_tell_29 rfl (lv_at hl 2 rfl) ?_
          refine lv_iload_n hx hb dX2_tell_30 rfl (lv_at hl 3 rfl) ?_
          refine q_callNi (n := 3) (As := [.int (nI i), .int (nI j), .int a]) (rest := []) hM hl.1 hG (c_X1_noteDifference l g h N tk dom gr va dr off rt cnt lk dl td K E ds i j a (by omega) (by omega)) rfl (host := RX2) gX2_tell_X1_noteDifference_n106 (by decide +kernel) (by decide +kernel) (by decide +kernel) (by decide +kernel) (by decide +kernel) ⟨Nat.le_of_ble_eq_true rfl, Nat.le_of_ble_eq_true rfl⟩ 8 rfl rfl rfl rfl rfl (Nat.le_of_ble_eq_true rfl) dX2_tell_31 (c1 := 0) (s1 := 0) rfl rfl ⟨Nat.le_of_ble_eq_true rfl, Nat.le_of_ble_eq_true rfl⟩ (fun r_31 u_31 H locs hp_31 hG => ?_)
          exact hRet r_31 u_31 _ _ _ _ _ _ (⟨i, j, hi, hj, rfl, rfl, hp_15, (lkd_n hix hjx).mpr hp_21, hp_31.1, hp_31.2⟩) hG (Nat.le_of_ble_eq_true rfl) (Nat.le_of_ble_eq_true rfl) dX2_tell_34
        · refine q_xcallv (n := 2) (As := [.int (nI i), .int (nI j)]) (rest := []) hM hl.1 hG (c_X2_requireLinked_x l hl0 g h N tk dom gr va dr off rt cnt lk dl td K E ds i j (by omega) hlk hp_21) rfl gX2_tell_X2_requireLinked (by decide +kernel) ⟨Nat.le_of_ble_eq_true rfl, Nat.le_of_ble_eq_true rfl⟩ 0 rfl rfl rfl rfl rfl (Nat.le_of_ble_eq_true rfl) dX2_tell_21 (c1 := 1) (s1 := 6) rfl rfl ⟨Nat.le_of_ble_eq_true rfl, Nat.le_of_ble_eq_true rfl⟩ (fun E ce q9 H locs hE hG h1 h2 h3 => hThr E ce q9 _ _ _ _ _ _ _ (Or.inr (Or.inr ⟨hE.1, ⟨⟨i, hi, rfl⟩, ⟨j, hj, rfl⟩⟩, hp_15, fun h9 => hE.2 ((lkd_n hix hjx).mp h9)⟩)) hG h1 h2 h3 (Nat.le_of_ble_eq_true rfl) (Nat.le_of_ble_eq_true rfl)) (fun u_21 H locs h9 hG => absurd h9 id)
      · refine q_xcallSv (n := 3) (As := [.int a, .int (-100000), .int 100000]) (rest := []) hM hl.1 hG (c_X2_requireWithin_x l hl0 g h N tk dom gr va dr off rt cnt lk dl td K E ds a (-100000) 100000  hp_15) rfl gX2_tell_X2_requireWithin (by decide +kernel) ⟨Nat.le_of_ble_eq_true rfl, Nat.le_of_ble_eq_true rfl⟩ rfl rfl (Nat.le_of_ble_eq_true rfl) dX2_tell_15 (c1 := 1) (s1 := 6) rfl rfl ⟨Nat.le_of_ble_eq_true rfl, Nat.le_of_ble_eq_true rfl⟩ (fun E ce q9 H locs hE hG h1 h2 h3 => hThr E ce q9 _ _ _ _ _ _ _ (Or.inr (Or.inl ⟨hE.1, ⟨⟨i, hi, rfl⟩, ⟨j, hj, rfl⟩⟩, hE.2⟩)) hG h1 h2 h3 (Nat.le_of_ble_eq_true rfl) (Nat.le_of_ble_eq_true rfl)) (fun u_15 H locs h9 hG => absurd h9 id)
    · refine q_xcallv (n := 1) (As := [.int y]) (rest := []) hM hl.1 hG (c_X2_requireNode_x l hl0 g h N tk dom gr va dr off rt cnt lk dl td K E ds y hN hp_7) rfl gX2_tell_X2_requireNode (by decide +kernel) ⟨Nat.le_of_ble_eq_true rfl, Nat.le_of_ble_eq_true rfl⟩ 0 rfl rfl rfl rfl rfl (Nat.le_of_ble_eq_true rfl) dX2_tell_7 (c1 := 1) (s1 := 6) rfl rfl ⟨Nat.le_of_ble_eq_true rfl, Nat.le_of_ble_eq_true rfl⟩ (fun E ce q9 H locs hE hG h1 h2 h3 => hThr E ce q9 _ _ _ _ _ _ _ (Or.inl ⟨hE.1, fun h9 => hE.2 h9.2⟩) hG h1 h2 h3 (Nat.le_of_ble_eq_true rfl) (Nat.le_of_ble_eq_true rfl)) (fun u_7 H locs h9 hG => absurd h9 id)
  · refine q_xcallv (n := 1) (As := [.int x]) (rest := []) hM hl.1 hG (c_X2_requireNode_x l hl0 g h N tk dom gr va dr off rt cnt lk dl td K E ds x hN hp_2) rfl gX2_tell_X2_requireNode (by decide +kernel) ⟨Nat.le_of_ble_eq_true rfl, Nat.le_of_ble_eq_true rfl⟩ 0 rfl rfl rfl rfl rfl (Nat.le_of_ble_eq_true rfl) dX2_tell_2 (c1 := 1) (s1 := 6) rfl rfl ⟨Nat.le_of_ble_eq_true rfl, Nat.le_of_ble_eq_true rfl⟩ (fun E ce q9 H locs hE hG h1 h2 h3 => hThr E ce q9 _ _ _ _ _ _ _ (Or.inl ⟨hE.1, fun h9 => hE.2 h9.1⟩) hG h1 h2 h3 (Nat.le_of_ble_eq_true rfl) (Nat.le_of_ble_eq_true rfl)) (fun u_2 H locs h9 hG => absurd h9 id)

set_option maxHeartbeats 4000000 in
set_option maxRecDepth 100000 in
theorem c_X2_tick (l : Launch) (hl0 : l.stackTraces = false) (g : EN) (h : Nat → Nat) (N : Nat) (tk : Int32) (dom : Nat → Int32) (gr : Nat → Int32) (va : Nat → Int32) (dr : Nat → Int32) (off : Nat → Int64) (rt : Nat → Int64) (cnt : Int32) (lk : Nat → Int32) (dl : Nat → Int32) (td : Nat → Int32) (K : KT) (E : KT) (ds : Nat → Int32) (t : Int32) (hN : N ≤ 10) (hlk : b01 lk)  : Xi l yX2_tick wsX2_tick ({ frames := 7, cells := 1, slots := 6, locals := 130 }) g [.ref (h 0), .int t] (cNet g h N tk dom gr va dr off rt cnt lk dl td K E ds) (fun E => ex1 E "java/lang/IllegalArgumentException" (inR 1 t 50)) (fun (r : Int32) (u : (OR × KT) × KT) => ∃ T, T ≤ 50 ∧ inR 1 t 50 ∧ t = nI T ∧ u.1 = tkN dom lk gr va dr dl td N ((off, rt), K) T ∧ r = tk + t) (fun (u : (OR × KT) × KT) => (cNet g h N (tk + t) dom gr va dr u.1.1.1 u.1.1.2 cnt lk dl td u.1.2 u.2 ds)) := by
  refine Xi.of (cc := cX2_tick) (maxL := 3) hl0 (by decide) rfl (Nat.le_of_ble_eq_true rfl) ?_
  intro p e s m args below meth c A Q ls hM hG hRet hThr hNew hl
  have hx := hM.1
  have hb := hM.2.1
  have hown := hM.2.2.2.1
  have hts := hM.2.2.2.2
  have wRX2_53 : Cond.fieldLink RX2 53 "TimeNet" "tickCount" "I" ∈ wsX2_tick := by decide +kernel
  have hinX2 : ∀ w ∈ wsX20, w ∈ wsX2_tick := by decide +kernel
  have hl : lv_has ls 3 [(0, .ref (h 0)), (1, .int t)] := hl
  refine lv_iload_n hx hb dX2_tick_0 rfl (lv_at hl 1 rfl) ?_
  refine lv_iconst (v := 1) hx hb dX2_tick_1 (by decide) ?_
  refine lv_bipush (v := 50) hx hb dX2_tick_2 (by decide) ?_
  by_cases hp_4 : inR 1 t 50
  · refine q_callSv (n := 3) (As := [.int t, .int 1, .int 50]) (rest := []) hM hl.1 hG (c_X2_requireWithin l g h N tk dom gr va dr off rt cnt lk dl td K E ds t 1 50  hp_4) rfl gX2_tick_X2_requireWithin (by decide +kernel) ⟨Nat.le_of_ble_eq_true rfl, Nat.le_of_ble_eq_true rfl⟩ rfl rfl (Nat.le_of_ble_eq_true rfl) dX2_tick_4 (c1 := 0) (s1 := 0) rfl rfl ⟨Nat.le_of_ble_eq_true rfl, Nat.le_of_ble_eq_true rfl⟩ (fun u_4 H locs h9 hG => ?_)
    obtain ⟨T, hT1, hT5, rfl⟩ := tick_of hp_4
    refine lv_iconst (v := 0) hx hb dX2_tick_7 (by decide) ?_
    refine lv_istore_n (lv' := [(2, .int 0), (0, .ref (h 0)), (1, .int (nI T))]) hx hb dX2_tick_8 rfl hl (by decide) rfl (fun ls hl => ?_)
    have loop_9 : ∀ (n9 k : Nat) (of1 : Nat → Int64) (rt1 : Nat → Int64) (K1 : KT) (E1 : KT), k ≤ T → T < k + n9 → (((of1, rt1), K1) = tkN dom lk gr va dr dl td N ((off, rt), K) k) → ∀ (H : Heap) (locs : List Loc), cC g (cNet g h N tk dom gr va dr of1 rt1 cnt lk dl td K1 E1 ds) A s H locs → ∀ (ls : Array Slot), lv_has ls 3 [(2, .int (nI k)), (0, .ref (h 0)), (1, .int (nI T))] → W p l e ({ frames := 7, cells := 1, slots := 6, locals := 130 } : Room) s m args below meth c H locs 0 0 Q (F0 m 9 ls []) := by
      intro n9
      induction n9 with
      | zero => intro k of1 rt1 K1 E1 h1 h2; exact absurd h2 (by omega)
      | succ n9 ih_9 =>
        intro k of1 rt1 K1 E1 hle_k hlt9 hinv_k H locs hG ls hl
        refine lv_iload_n hx hb dX2_tick_9 rfl (lv_at hl 0 rfl) ?_
        refine lv_iload_n hx hb dX2_tick_10 rfl (lv_at hl 2 rfl) ?_
        refine lv_icmp_ge (tgt := 24) hx hb dX2_tick_11 (by decide) (fun c_11 => ?_) (fun c_11 => ?_)
        · have hk : k = T := by have h9 := ctr_ge (a := k) (b := T) (by omega) (by omega) c_11; omega
          refine lv_aload_n hx hb dX2_tick_24 rfl (lv_at hl 1 rfl) ?_
          refine lv_dup hx hb dX2_tick_25 rfl ?_
          refine q_get hM hG (C := RX2) (T := TX2) (n := 12) hinX2 0 rfl rfl 11 (by decide) wRX2_53 rfl (v := .int tk) rfl dX2_tick_26 ?_
          refine lv_iload_n hx hb dX2_tick_29 rfl (lv_at hl 2 rfl) ?_
          refine lv_iadd hx hb dX2_tick_30 ?_
          refine q_put hM hG (C := RX2) (T := TX2) (n := 12) hinX2 tyX2 tyX2_ok nmX2 0 rfl rfl 11 (by decide) wRX2_53 rfl rfl rfl (Nat.le_of_ble_eq_true rfl) (ws1 := (cNet g h N (tk + (nI T)) dom gr va dr of1 rt1 cnt lk dl td K1 E1 ds)) rfl dX2_tick_31 (fun H locs hG => ?_)
          refine lv_aload_n hx hb dX2_tick_34 rfl (lv_at hl 1 rfl) ?_
          refine q_get hM hG (C := RX2) (T := TX2) (n := 12) hinX2 0 rfl rfl 11 (by decide) wRX2_53 rfl (v := .int (tk + (nI T))) rfl dX2_tick_35 ?_
          exact hRet (tk + (nI T)) (((of1, rt1), K1), E1) _ _ _ _ _ _ (⟨T, hT5, hp_4, rfl, by rw [hk] at hinv_k; exact hinv_k, rfl⟩) hG (Nat.le_of_ble_eq_true rfl) (Nat.le_of_ble_eq_true rfl) dX2_tick_38
        · have hk : k < T := ctr_lt (by omega) (by omega) c_11
          refine lv_aload_n hx hb dX2_tick_14 rfl (lv_at hl 1 rfl) ?_
          refine q_callv (n := 0) (As := []) (rest := []) hM hl.1 hG (c_X2_passOneTick l g h N tk dom gr va dr of1 rt1 cnt lk dl td K1 E1 ds hN hlk) rfl gX2_tick_X2_passOneTick (by decide +kernel) ⟨Nat.le_of_ble_eq_true rfl, Nat.le_of_ble_eq_true rfl⟩ 0 rfl rfl rfl rfl rfl (Nat.le_of_ble_eq_true rfl) dX2_tick_15 (c1 := 0) (s1 := 0) rfl rfl ⟨Nat.le_of_ble_eq_true rfl, Nat.le_of_ble_eq_true rfl⟩ (fun u_15 H locs hp_15 hG => ?_)
          refine lv_iinc (v := (nI (k + 1))) (lv' := [(2, .int (nI (k + 1))), (0, .ref (h 0)), (1, .int (nI T))]) hx hb dX2_tick_18 hl (k := 0) rfl (nI_1 k) (by decide) rfl (fun ls hl => ?_)
          refine lv_goto (tgt := 9) hx hb dX2_tick_21 (by decide) ?_
          exact ih_9 (k + 1) u_15.1.1 u_15.1.2 u_15.2.1 u_15.2.2 (by omega) (by omega) (tkN_s hN hinv_k hp_15) _ _ hG _ (lv_sub hl [0, 1, 2] rfl)
    exact loop_9 (T + 1) 0 off rt K E (by omega) (by omega) rfl _ _ hG _ (lv_sub hl [0, 1, 2] rfl)
  · refine q_xcallSv (n := 3) (As := [.int t, .int 1, .int 50]) (rest := []) hM hl.1 hG (c_X2_requireWithin_x l hl0 g h N tk dom gr va dr off rt cnt lk dl td K E ds t 1 50  hp_4) rfl gX2_tick_X2_requireWithin (by decide +kernel) ⟨Nat.le_of_ble_eq_true rfl, Nat.le_of_ble_eq_true rfl⟩ rfl rfl (Nat.le_of_ble_eq_true rfl) dX2_tick_4 (c1 := 1) (s1 := 6) rfl rfl ⟨Nat.le_of_ble_eq_true rfl, Nat.le_of_ble_eq_true rfl⟩ (fun E ce q9 H locs hE hG h1 h2 h3 => hThr E ce q9 _ _ _ _ _ _ _ (hE) hG h1 h2 h3 (Nat.le_of_ble_eq_true rfl) (Nat.le_of_ble_eq_true rfl)) (fun u_4 H locs h9 hG => absurd h9 id)

set_option maxHeartbeats 4000000 in
set_option maxRecDepth 100000 in
theorem c_X2_nodes (l : Launch) (g : EN) (h : Nat → Nat) (N : Nat) (tk : Int32) (dom : Nat → Int32) (gr : Nat → Int32) (va : Nat → Int32) (dr : Nat → Int32) (off : Nat → Int64) (rt : Nat → Int64) (cnt : Int32) (lk : Nat → Int32) (dl : Nat → Int32) (td : Nat → Int32) (K : KT) (E : KT) (ds : Nat → Int32)   : Ci l yX2_nodes wsX2_nodes ({ frames := 0, cells := 0, slots := 0, locals := 0 }) g [.ref (h 0)] (cNet g h N tk dom gr va dr off rt cnt lk dl td K E ds) (fun (r : Int32) (_ : Unit) => r = nI N) (fun (_ : Unit) => (cNet g h N tk dom gr va dr off rt cnt lk dl td K E ds)) := by
  refine Ci.of (cc := cX2_nodes) (maxL := 1) (by decide) rfl (Nat.le_of_ble_eq_true rfl) ?_
  intro p e s m args below meth c A Q ls hM hG hRet hl
  have hx := hM.1
  have hb := hM.2.1
  have hown := hM.2.2.2.1
  have hts := hM.2.2.2.2
  have wRX2_49 : Cond.fieldLink RX2 49 "TimeNet" "nodeCount" "I" ∈ wsX2_nodes := by decide +kernel
  have hinX2 : ∀ w ∈ wsX20, w ∈ wsX2_nodes := by decide +kernel
  have hl : lv_has ls 1 [(0, .ref (h 0))] := hl
  refine lv_aload_n hx hb dX2_nodes_0 rfl (lv_at hl 0 rfl) ?_
  refine q_get hM hG (C := RX2) (T := TX2) (n := 12) hinX2 0 rfl rfl 10 (by decide) wRX2_49 rfl (v := .int (nI N)) rfl dX2_nodes_1 ?_
  exact hRet (nI N) () _ _ _ _ _ _ rfl hG (Nat.le_of_ble_eq_true rfl) (Nat.le_of_ble_eq_true rfl) dX2_nodes_4

set_option maxHeartbeats 4000000 in
set_option maxRecDepth 100000 in
theorem c_X2_links (l : Launch) (g : EN) (h : Nat → Nat) (N : Nat) (tk : Int32) (dom : Nat → Int32) (gr : Nat → Int32) (va : Nat → Int32) (dr : Nat → Int32) (off : Nat → Int64) (rt : Nat → Int64) (cnt : Int32) (lk : Nat → Int32) (dl : Nat → Int32) (td : Nat → Int32) (K : KT) (E : KT) (ds : Nat → Int32)   : Ci l yX2_links wsX2_links ({ frames := 0, cells := 0, slots := 0, locals := 0 }) g [.ref (h 0)] (cNet g h N tk dom gr va dr off rt cnt lk dl td K E ds) (fun (r : Int32) (_ : Unit) => r = cnt) (fun (_ : Unit) => (cNet g h N tk dom gr va dr off rt cnt lk dl td K E ds)) := by
  refine Ci.of (cc := cX2_links) (maxL := 1) (by decide) rfl (Nat.le_of_ble_eq_true rfl) ?_
  intro p e s m args below meth c A Q ls hM hG hRet hl
  have hx := hM.1
  have hb := hM.2.1
  have hown := hM.2.2.2.1
  have hts := hM.2.2.2.2
  have wRX2_32 : Cond.fieldLink RX2 32 "TimeNet" "wires" "LTimeNet$Wires;" ∈ wsX2_links := by decide +kernel
  have hinX1 : ∀ w ∈ wsX10, w ∈ wsX2_links := by decide +kernel
  have hinX2 : ∀ w ∈ wsX20, w ∈ wsX2_links := by decide +kernel
  have hl : lv_has ls 1 [(0, .ref (h 0))] := hl
  refine lv_aload_n hx hb dX2_links_0 rfl (lv_at hl 0 rfl) ?_
  refine q_get hM hG (C := RX2) (T := TX2) (n := 12) hinX2 0 rfl rfl 6 (by decide) wRX2_32 rfl (v := .ref (h 8)) rfl dX2_links_1 ?_
  refine q_getN hM hG (C := RX1) (T := TX1) (n := 4) (host := RX2) hinX1 8 rfl rfl 3 (by decide) (by decide +kernel) rfl (v := .int cnt) rfl dX2_links_4 ?_
  exact hRet cnt () _ _ _ _ _ _ rfl hG (Nat.le_of_ble_eq_true rfl) (Nat.le_of_ble_eq_true rfl) dX2_links_7

set_option maxHeartbeats 4000000 in
set_option maxRecDepth 100000 in
theorem c_X2_best (l : Launch) (hl0 : l.stackTraces = false) (g : EN) (h : Nat → Nat) (N : Nat) (tk : Int32) (dom : Nat → Int32) (gr : Nat → Int32) (va : Nat → Int32) (dr : Nat → Int32) (off : Nat → Int64) (rt : Nat → Int64) (cnt : Int32) (lk : Nat → Int32) (dl : Nat → Int32) (td : Nat → Int32) (K : KT) (E : KT) (ds : Nat → Int32) (x : Int32) (hN : N ≤ 10)  : Xi l yX2_best wsX2_best ({ frames := 7, cells := 1, slots := 6, locals := 103 }) g [.ref (h 0), .int x] (cNet g h N tk dom gr va dr off rt cnt lk dl td K E ds) (fun E => ex1 E "java/lang/IndexOutOfBoundsException" (okN N x)) (fun (r : Int32) (_ : Unit) => ∃ i, i < N ∧ x = nI i ∧ r = K.1 i) (fun (_ : Unit) => (cNet g h N tk dom gr va dr off rt cnt lk dl td K E ds)) := by
  refine Xi.of (cc := cX2_best) (maxL := 2) hl0 (by decide) rfl (Nat.le_of_ble_eq_true rfl) ?_
  intro p e s m args below meth c A Q ls hM hG hRet hThr hNew hl
  have hx := hM.1
  have hb := hM.2.1
  have hown := hM.2.2.2.1
  have hts := hM.2.2.2.2
  have wRX2_39 : Cond.fieldLink RX2 39 "TimeNet" "known" "LTimeNet$Knowledge;" ∈ wsX2_best := by decide +kernel
  have hinX0 : ∀ w ∈ wsX00, w ∈ wsX2_best := by decide +kernel
  have hinX2 : ∀ w ∈ wsX20, w ∈ wsX2_best := by decide +kernel
  have hl : lv_has ls 2 [(0, .ref (h 0)), (1, .int x)] := hl
  refine lv_aload_n hx hb dX2_best_0 rfl (lv_at hl 0 rfl) ?_
  refine lv_iload_n hx hb dX2_best_1 rfl (lv_at hl 1 rfl) ?_
  by_cases hp_2 : okN N x
  · refine q_callv (n := 1) (As := [.int x]) (rest := []) hM hl.1 hG (c_X2_requireNode l g h N tk dom gr va dr off rt cnt lk dl td K E ds x hN hp_2) rfl gX2_best_X2_requireNode (by decide +kernel) ⟨Nat.le_of_ble_eq_true rfl, Nat.le_of_ble_eq_true rfl⟩ 0 rfl rfl rfl rfl rfl (Nat.le_of_ble_eq_true rfl) dX2_best_2 (c1 := 0) (s1 := 0) rfl rfl ⟨Nat.le_of_ble_eq_true rfl, Nat.le_of_ble_eq_true rfl⟩ (fun u_2 H locs h9 hG => ?_)
    obtain ⟨i, hi, rfl⟩ := hp_2
    have hix : i < 10 := by omega
    refine lv_aload_n hx hb dX2_best_5 rfl (lv_at hl 0 rfl) ?_
    refine q_get hM hG (C := RX2) (T := TX2) (n := 12) hinX2 0 rfl rfl 7 (by decide) wRX2_39 rfl (v := .ref (h 12)) rfl dX2_best_6 ?_
    refine q_getN hM hG (C := RX0) (T := TX0) (n := 4) (host := RX2) hinX0 12 rfl rfl 0 (by decide) (by decide +kernel) rfl (v := .ref (h 13)) rfl dX2_best_9 ?_
    refine lv_iload_n hx hb dX2_best_12 rfl (lv_at hl 1 rfl) ?_
    refine q_iald hM hG 13 rfl hix (by decide) dX2_best_13 ?_
    exact hRet (K.1 i) () _ _ _ _ _ _ (⟨i, hi, rfl, rfl⟩) hG (Nat.le_of_ble_eq_true rfl) (Nat.le_of_ble_eq_true rfl) dX2_best_14
  · refine q_xcallv (n := 1) (As := [.int x]) (rest := []) hM hl.1 hG (c_X2_requireNode_x l hl0 g h N tk dom gr va dr off rt cnt lk dl td K E ds x hN hp_2) rfl gX2_best_X2_requireNode (by decide +kernel) ⟨Nat.le_of_ble_eq_true rfl, Nat.le_of_ble_eq_true rfl⟩ 0 rfl rfl rfl rfl rfl (Nat.le_of_ble_eq_true rfl) dX2_best_2 (c1 := 1) (s1 := 6) rfl rfl ⟨Nat.le_of_ble_eq_true rfl, Nat.le_of_ble_eq_true rfl⟩ (fun E ce q9 H locs hE hG h1 h2 h3 => hThr E ce q9 _ _ _ _ _ _ _ (hE) hG h1 h2 h3 (Nat.le_of_ble_eq_true rfl) (Nat.le_of_ble_eq_true rfl)) (fun u_2 H locs h9 hG => absurd h9 id)

set_option maxHeartbeats 4000000 in
set_option maxRecDepth 100000 in
theorem c_X2_steps (l : Launch) (hl0 : l.stackTraces = false) (g : EN) (h : Nat → Nat) (N : Nat) (tk : Int32) (dom : Nat → Int32) (gr : Nat → Int32) (va : Nat → Int32) (dr : Nat → Int32) (off : Nat → Int64) (rt : Nat → Int64) (cnt : Int32) (lk : Nat → Int32) (dl : Nat → Int32) (td : Nat → Int32) (K : KT) (E : KT) (ds : Nat → Int32) (x : Int32) (hN : N ≤ 10)  : Xi l yX2_steps wsX2_steps ({ frames := 7, cells := 1, slots := 6, locals := 103 }) g [.ref (h 0), .int x] (cNet g h N tk dom gr va dr off rt cnt lk dl td K E ds) (fun E => ex1 E "java/lang/IndexOutOfBoundsException" (okN N x)) (fun (r : Int32) (_ : Unit) => ∃ i, i < N ∧ x = nI i ∧ r = K.2.2.1 i) (fun (_ : Unit) => (cNet g h N tk dom gr va dr off rt cnt lk dl td K E ds)) := by
  refine Xi.of (cc := cX2_steps) (maxL := 2) hl0 (by decide) rfl (Nat.le_of_ble_eq_true rfl) ?_
  intro p e s m args below meth c A Q ls hM hG hRet hThr hNew hl
  have hx := hM.1
  have hb := hM.2.1
  have hown := hM.2.2.2.1
  have hts := hM.2.2.2.2
  have wRX2_39 : Cond.fieldLink RX2 39 "TimeNet" "known" "LTimeNet$Knowledge;" ∈ wsX2_steps := by decide +kernel
  have hinX0 : ∀ w ∈ wsX00, w ∈ wsX2_steps := by decide +kernel
  have hinX2 : ∀ w ∈ wsX20, w ∈ wsX2_steps := by decide +kernel
  have hl : lv_has ls 2 [(0, .ref (h 0)), (1, .int x)] := hl
  refine lv_aload_n hx hb dX2_steps_0 rfl (lv_at hl 0 rfl) ?_
  refine lv_iload_n hx hb dX2_steps_1 rfl (lv_at hl 1 rfl) ?_
  by_cases hp_2 : okN N x
  · refine q_callv (n := 1) (As := [.int x]) (rest := []) hM hl.1 hG (c_X2_requireNode l g h N tk dom gr va dr off rt cnt lk dl td K E ds x hN hp_2) rfl gX2_steps_X2_requireNode (by decide +kernel) ⟨Nat.le_of_ble_eq_true rfl, Nat.le_of_ble_eq_true rfl⟩ 0 rfl rfl rfl rfl rfl (Nat.le_of_ble_eq_true rfl) dX2_steps_2 (c1 := 0) (s1 := 0) rfl rfl ⟨Nat.le_of_ble_eq_true rfl, Nat.le_of_ble_eq_true rfl⟩ (fun u_2 H locs h9 hG => ?_)
    obtain ⟨i, hi, rfl⟩ := hp_2
    have hix : i < 10 := by omega
    refine lv_aload_n hx hb dX2_steps_5 rfl (lv_at hl 0 rfl) ?_
    refine q_get hM hG (C := RX2) (T := TX2) (n := 12) hinX2 0 rfl rfl 7 (by decide) wRX2_39 rfl (v := .ref (h 12)) rfl dX2_steps_6 ?_
    refine q_getN hM hG (C := RX0) (T := TX0) (n := 4) (host := RX2) hinX0 12 rfl rfl 2 (by decide) (by decide +kernel) rfl (v := .ref (h 15)) rfl dX2_steps_9 ?_
    refine lv_iload_n hx hb dX2_steps_12 rfl (lv_at hl 1 rfl) ?_
    refine q_iald hM hG 15 rfl hix (by decide) dX2_steps_13 ?_
    exact hRet (K.2.2.1 i) () _ _ _ _ _ _ (⟨i, hi, rfl, rfl⟩) hG (Nat.le_of_ble_eq_true rfl) (Nat.le_of_ble_eq_true rfl) dX2_steps_14
  · refine q_xcallv (n := 1) (As := [.int x]) (rest := []) hM hl.1 hG (c_X2_requireNode_x l hl0 g h N tk dom gr va dr off rt cnt lk dl td K E ds x hN hp_2) rfl gX2_steps_X2_requireNode (by decide +kernel) ⟨Nat.le_of_ble_eq_true rfl, Nat.le_of_ble_eq_true rfl⟩ 0 rfl rfl rfl rfl rfl (Nat.le_of_ble_eq_true rfl) dX2_steps_2 (c1 := 1) (s1 := 6) rfl rfl ⟨Nat.le_of_ble_eq_true rfl, Nat.le_of_ble_eq_true rfl⟩ (fun E ce q9 H locs hE hG h1 h2 h3 => hThr E ce q9 _ _ _ _ _ _ _ (hE) hG h1 h2 h3 (Nat.le_of_ble_eq_true rfl) (Nat.le_of_ble_eq_true rfl)) (fun u_2 H locs h9 hG => absurd h9 id)

set_option maxHeartbeats 4000000 in
set_option maxRecDepth 100000 in
theorem c_X2_parent (l : Launch) (hl0 : l.stackTraces = false) (g : EN) (h : Nat → Nat) (N : Nat) (tk : Int32) (dom : Nat → Int32) (gr : Nat → Int32) (va : Nat → Int32) (dr : Nat → Int32) (off : Nat → Int64) (rt : Nat → Int64) (cnt : Int32) (lk : Nat → Int32) (dl : Nat → Int32) (td : Nat → Int32) (K : KT) (E : KT) (ds : Nat → Int32) (x : Int32) (hN : N ≤ 10)  : Xi l yX2_parent wsX2_parent ({ frames := 7, cells := 1, slots := 6, locals := 103 }) g [.ref (h 0), .int x] (cNet g h N tk dom gr va dr off rt cnt lk dl td K E ds) (fun E => ex1 E "java/lang/IndexOutOfBoundsException" (okN N x)) (fun (r : Int32) (_ : Unit) => ∃ i, i < N ∧ x = nI i ∧ r = K.2.2.2 i) (fun (_ : Unit) => (cNet g h N tk dom gr va dr off rt cnt lk dl td K E ds)) := by
  refine Xi.of (cc := cX2_parent) (maxL := 2) hl0 (by decide) rfl (Nat.le_of_ble_eq_true rfl) ?_
  intro p e s m args below meth c A Q ls hM hG hRet hThr hNew hl
  have hx := hM.1
  have hb := hM.2.1
  have hown := hM.2.2.2.1
  have hts := hM.2.2.2.2
  have wRX2_39 : Cond.fieldLink RX2 39 "TimeNet" "known" "LTimeNet$Knowledge;" ∈ wsX2_parent := by decide +kernel
  have hinX0 : ∀ w ∈ wsX00, w ∈ wsX2_parent := by decide +kernel
  have hinX2 : ∀ w ∈ wsX20, w ∈ wsX2_parent := by decide +kernel
  have hl : lv_has ls 2 [(0, .ref (h 0)), (1, .int x)] := hl
  refine lv_aload_n hx hb dX2_parent_0 rfl (lv_at hl 0 rfl) ?_
  refine lv_iload_n hx hb dX2_parent_1 rfl (lv_at hl 1 rfl) ?_
  by_cases hp_2 : okN N x
  · refine q_callv (n := 1) (As := [.int x]) (rest := []) hM hl.1 hG (c_X2_requireNode l g h N tk dom gr va dr off rt cnt lk dl td K E ds x hN hp_2) rfl gX2_parent_X2_requireNode (by decide +kernel) ⟨Nat.le_of_ble_eq_true rfl, Nat.le_of_ble_eq_true rfl⟩ 0 rfl rfl rfl rfl rfl (Nat.le_of_ble_eq_true rfl) dX2_parent_2 (c1 := 0) (s1 := 0) rfl rfl ⟨Nat.le_of_ble_eq_true rfl, Nat.le_of_ble_eq_true rfl⟩ (fun u_2 H locs h9 hG => ?_)
    obtain ⟨i, hi, rfl⟩ := hp_2
    have hix : i < 10 := by omega
    refine lv_aload_n hx hb dX2_parent_5 rfl (lv_at hl 0 rfl) ?_
    refine q_get hM hG (C := RX2) (T := TX2) (n := 12) hinX2 0 rfl rfl 7 (by decide) wRX2_39 rfl (v := .ref (h 12)) rfl dX2_parent_6 ?_
    refine q_getN hM hG (C := RX0) (T := TX0) (n := 4) (host := RX2) hinX0 12 rfl rfl 3 (by decide) (by decide +kernel) rfl (v := .ref (h 16)) rfl dX2_parent_9 ?_
    refine lv_iload_n hx hb dX2_parent_12 rfl (lv_at hl 1 rfl) ?_
    refine q_iald hM hG 16 rfl hix (by decide) dX2_parent_13 ?_
    exact hRet (K.2.2.2 i) () _ _ _ _ _ _ (⟨i, hi, rfl, rfl⟩) hG (Nat.le_of_ble_eq_true rfl) (Nat.le_of_ble_eq_true rfl) dX2_parent_14
  · refine q_xcallv (n := 1) (As := [.int x]) (rest := []) hM hl.1 hG (c_X2_requireNode_x l hl0 g h N tk dom gr va dr off rt cnt lk dl td K E ds x hN hp_2) rfl gX2_parent_X2_requireNode (by decide +kernel) ⟨Nat.le_of_ble_eq_true rfl, Nat.le_of_ble_eq_true rfl⟩ 0 rfl rfl rfl rfl rfl (Nat.le_of_ble_eq_true rfl) dX2_parent_2 (c1 := 1) (s1 := 6) rfl rfl ⟨Nat.le_of_ble_eq_true rfl, Nat.le_of_ble_eq_true rfl⟩ (fun E ce q9 H locs hE hG h1 h2 h3 => hThr E ce q9 _ _ _ _ _ _ _ (hE) hG h1 h2 h3 (Nat.le_of_ble_eq_true rfl) (Nat.le_of_ble_eq_true rfl)) (fun u_2 H locs h9 hG => absurd h9 id)

set_option maxHeartbeats 4000000 in
set_option maxRecDepth 100000 in
theorem c_X2_offset (l : Launch) (hl0 : l.stackTraces = false) (g : EN) (h : Nat → Nat) (N : Nat) (tk : Int32) (dom : Nat → Int32) (gr : Nat → Int32) (va : Nat → Int32) (dr : Nat → Int32) (off : Nat → Int64) (rt : Nat → Int64) (cnt : Int32) (lk : Nat → Int32) (dl : Nat → Int32) (td : Nat → Int32) (K : KT) (E : KT) (ds : Nat → Int32) (x : Int32) (hN : N ≤ 10)  : Xl l yX2_offset wsX2_offset ({ frames := 7, cells := 1, slots := 6, locals := 103 }) g [.ref (h 0), .int x] (cNet g h N tk dom gr va dr off rt cnt lk dl td K E ds) (fun E => ex1 E "java/lang/IndexOutOfBoundsException" (okN N x)) (fun (r : Int64) (_ : Unit) => ∃ i, i < N ∧ x = nI i ∧ r = off i) (fun (_ : Unit) => (cNet g h N tk dom gr va dr off rt cnt lk dl td K E ds)) := by
  refine Xl.of (cc := cX2_offset) (maxL := 2) hl0 (by decide) rfl (Nat.le_of_ble_eq_true rfl) ?_
  intro p e s m args below meth c A Q ls hM hG hRet hThr hNew hl
  have hx := hM.1
  have hb := hM.2.1
  have hown := hM.2.2.2.1
  have hts := hM.2.2.2.2
  have wRX2_22 : Cond.fieldLink RX2 22 "TimeNet" "offsetOf" "[J" ∈ wsX2_offset := by decide +kernel
  have hinX2 : ∀ w ∈ wsX20, w ∈ wsX2_offset := by decide +kernel
  have hl : lv_has ls 2 [(0, .ref (h 0)), (1, .int x)] := hl
  refine lv_aload_n hx hb dX2_offset_0 rfl (lv_at hl 0 rfl) ?_
  refine lv_iload_n hx hb dX2_offset_1 rfl (lv_at hl 1 rfl) ?_
  by_cases hp_2 : okN N x
  · refine q_callv (n := 1) (As := [.int x]) (rest := []) hM hl.1 hG (c_X2_requireNode l g h N tk dom gr va dr off rt cnt lk dl td K E ds x hN hp_2) rfl gX2_offset_X2_requireNode (by decide +kernel) ⟨Nat.le_of_ble_eq_true rfl, Nat.le_of_ble_eq_true rfl⟩ 0 rfl rfl rfl rfl rfl (Nat.le_of_ble_eq_true rfl) dX2_offset_2 (c1 := 0) (s1 := 0) rfl rfl ⟨Nat.le_of_ble_eq_true rfl, Nat.le_of_ble_eq_true rfl⟩ (fun u_2 H locs h9 hG => ?_)
    obtain ⟨i, hi, rfl⟩ := hp_2
    have hix : i < 10 := by omega
    refine lv_aload_n hx hb dX2_offset_5 rfl (lv_at hl 0 rfl) ?_
    refine q_get hM hG (C := RX2) (T := TX2) (n := 12) hinX2 0 rfl rfl 4 (by decide) wRX2_22 rfl (v := .ref (h 5)) rfl dX2_offset_6 ?_
    refine lv_iload_n hx hb dX2_offset_9 rfl (lv_at hl 1 rfl) ?_
    refine q_lald hM hG 5 rfl hix (by decide) dX2_offset_10 ?_
    exact hRet (off i) () _ _ _ _ _ _ (⟨i, hi, rfl, rfl⟩) hG (Nat.le_of_ble_eq_true rfl) (Nat.le_of_ble_eq_true rfl) dX2_offset_11
  · refine q_xcallv (n := 1) (As := [.int x]) (rest := []) hM hl.1 hG (c_X2_requireNode_x l hl0 g h N tk dom gr va dr off rt cnt lk dl td K E ds x hN hp_2) rfl gX2_offset_X2_requireNode (by decide +kernel) ⟨Nat.le_of_ble_eq_true rfl, Nat.le_of_ble_eq_true rfl⟩ 0 rfl rfl rfl rfl rfl (Nat.le_of_ble_eq_true rfl) dX2_offset_2 (c1 := 1) (s1 := 6) rfl rfl ⟨Nat.le_of_ble_eq_true rfl, Nat.le_of_ble_eq_true rfl⟩ (fun E ce q9 H locs hE hG h1 h2 h3 => hThr E ce q9 _ _ _ _ _ _ _ (hE) hG h1 h2 h3 (Nat.le_of_ble_eq_true rfl) (Nat.le_of_ble_eq_true rfl)) (fun u_2 H locs h9 hG => absurd h9 id)

set_option maxHeartbeats 4000000 in
set_option maxRecDepth 100000 in
theorem c_X2_rate (l : Launch) (hl0 : l.stackTraces = false) (g : EN) (h : Nat → Nat) (N : Nat) (tk : Int32) (dom : Nat → Int32) (gr : Nat → Int32) (va : Nat → Int32) (dr : Nat → Int32) (off : Nat → Int64) (rt : Nat → Int64) (cnt : Int32) (lk : Nat → Int32) (dl : Nat → Int32) (td : Nat → Int32) (K : KT) (E : KT) (ds : Nat → Int32) (x : Int32) (hN : N ≤ 10)  : Xl l yX2_rate wsX2_rate ({ frames := 7, cells := 1, slots := 6, locals := 103 }) g [.ref (h 0), .int x] (cNet g h N tk dom gr va dr off rt cnt lk dl td K E ds) (fun E => ex1 E "java/lang/IndexOutOfBoundsException" (okN N x)) (fun (r : Int64) (_ : Unit) => ∃ i, i < N ∧ x = nI i ∧ r = rt i) (fun (_ : Unit) => (cNet g h N tk dom gr va dr off rt cnt lk dl td K E ds)) := by
  refine Xl.of (cc := cX2_rate) (maxL := 2) hl0 (by decide) rfl (Nat.le_of_ble_eq_true rfl) ?_
  intro p e s m args below meth c A Q ls hM hG hRet hThr hNew hl
  have hx := hM.1
  have hb := hM.2.1
  have hown := hM.2.2.2.1
  have hts := hM.2.2.2.2
  have wRX2_26 : Cond.fieldLink RX2 26 "TimeNet" "rateOf" "[J" ∈ wsX2_rate := by decide +kernel
  have hinX2 : ∀ w ∈ wsX20, w ∈ wsX2_rate := by decide +kernel
  have hl : lv_has ls 2 [(0, .ref (h 0)), (1, .int x)] := hl
  refine lv_aload_n hx hb dX2_rate_0 rfl (lv_at hl 0 rfl) ?_
  refine lv_iload_n hx hb dX2_rate_1 rfl (lv_at hl 1 rfl) ?_
  by_cases hp_2 : okN N x
  · refine q_callv (n := 1) (As := [.int x]) (rest := []) hM hl.1 hG (c_X2_requireNode l g h N tk dom gr va dr off rt cnt lk dl td K E ds x hN hp_2) rfl gX2_rate_X2_requireNode (by decide +kernel) ⟨Nat.le_of_ble_eq_true rfl, Nat.le_of_ble_eq_true rfl⟩ 0 rfl rfl rfl rfl rfl (Nat.le_of_ble_eq_true rfl) dX2_rate_2 (c1 := 0) (s1 := 0) rfl rfl ⟨Nat.le_of_ble_eq_true rfl, Nat.le_of_ble_eq_true rfl⟩ (fun u_2 H locs h9 hG => ?_)
    obtain ⟨i, hi, rfl⟩ := hp_2
    have hix : i < 10 := by omega
    refine lv_aload_n hx hb dX2_rate_5 rfl (lv_at hl 0 rfl) ?_
    refine q_get hM hG (C := RX2) (T := TX2) (n := 12) hinX2 0 rfl rfl 5 (by decide) wRX2_26 rfl (v := .ref (h 6)) rfl dX2_rate_6 ?_
    refine lv_iload_n hx hb dX2_rate_9 rfl (lv_at hl 1 rfl) ?_
    refine q_lald hM hG 6 rfl hix (by decide) dX2_rate_10 ?_
    exact hRet (rt i) () _ _ _ _ _ _ (⟨i, hi, rfl, rfl⟩) hG (Nat.le_of_ble_eq_true rfl) (Nat.le_of_ble_eq_true rfl) dX2_rate_11
  · refine q_xcallv (n := 1) (As := [.int x]) (rest := []) hM hl.1 hG (c_X2_requireNode_x l hl0 g h N tk dom gr va dr off rt cnt lk dl td K E ds x hN hp_2) rfl gX2_rate_X2_requireNode (by decide +kernel) ⟨Nat.le_of_ble_eq_true rfl, Nat.le_of_ble_eq_true rfl⟩ 0 rfl rfl rfl rfl rfl (Nat.le_of_ble_eq_true rfl) dX2_rate_2 (c1 := 1) (s1 := 6) rfl rfl ⟨Nat.le_of_ble_eq_true rfl, Nat.le_of_ble_eq_true rfl⟩ (fun E ce q9 H locs hE hG h1 h2 h3 => hThr E ce q9 _ _ _ _ _ _ _ (hE) hG h1 h2 h3 (Nat.le_of_ble_eq_true rfl) (Nat.le_of_ble_eq_true rfl)) (fun u_2 H locs h9 hG => absurd h9 id)

set_option maxHeartbeats 4000000 in
set_option maxRecDepth 100000 in
theorem c_X2_port (l : Launch) (hl0 : l.stackTraces = false) (g : EN) (h : Nat → Nat) (N : Nat) (tk : Int32) (dom : Nat → Int32) (gr : Nat → Int32) (va : Nat → Int32) (dr : Nat → Int32) (off : Nat → Int64) (rt : Nat → Int64) (cnt : Int32) (lk : Nat → Int32) (dl : Nat → Int32) (td : Nat → Int32) (K : KT) (E : KT) (ds : Nat → Int32) (x y : Int32) (hN : N ≤ 10) (hlk : b01 lk)  : Xi l yX2_port wsX2_port ({ frames := 7, cells := 1, slots := 6, locals := 103 }) g [.ref (h 0), .int x, .int y] (cNet g h N tk dom gr va dr off rt cnt lk dl td K E ds) (fun E => ex1 E "java/lang/IndexOutOfBoundsException" (okN N x ∧ okN N y)) (fun (r : Int32) (_ : Unit) => ∃ i j, i < N ∧ j < N ∧ x = nI i ∧ y = nI j ∧ r = prt dom lk K.2.2.1 K.2.2.2 i j) (fun (_ : Unit) => (cNet g h N tk dom gr va dr off rt cnt lk dl td K E ds)) := by
  refine Xi.of (cc := cX2_port) (maxL := 3) hl0 (by decide) rfl (Nat.le_of_ble_eq_true rfl) ?_
  intro p e s m args below meth c A Q ls hM hG hRet hThr hNew hl
  have hx := hM.1
  have hb := hM.2.1
  have hown := hM.2.2.2.1
  have hts := hM.2.2.2.2
  have wRX2_39 : Cond.fieldLink RX2 39 "TimeNet" "known" "LTimeNet$Knowledge;" ∈ wsX2_port := by decide +kernel
  have hinX0 : ∀ w ∈ wsX00, w ∈ wsX2_port := by decide +kernel
  have hinX2 : ∀ w ∈ wsX20, w ∈ wsX2_port := by decide +kernel
  have hl : lv_has ls 3 [(0, .ref (h 0)), (1, .int x), (2, .int y)] := hl
  refine lv_aload_n hx hb dX2_port_0 rfl (lv_at hl 0 rfl) ?_
  refine lv_iload_n hx hb dX2_port_1 rfl (lv_at hl 1 rfl) ?_
  by_cases hp_2 : okN N x
  · refine q_callv (n := 1) (As := [.int x]) (rest := []) hM hl.1 hG (c_X2_requireNode l g h N tk dom gr va dr off rt cnt lk dl td K E ds x hN hp_2) rfl gX2_port_X2_requireNode (by decide +kernel) ⟨Nat.le_of_ble_eq_true rfl, Nat.le_of_ble_eq_true rfl⟩ 0 rfl rfl rfl rfl rfl (Nat.le_of_ble_eq_true rfl) dX2_port_2 (c1 := 0) (s1 := 0) rfl rfl ⟨Nat.le_of_ble_eq_true rfl, Nat.le_of_ble_eq_true rfl⟩ (fun u_2 H locs h9 hG => ?_)
    obtain ⟨i, hi, rfl⟩ := hp_2
    have hix : i < 10 := by omega
    refine lv_aload_n hx hb dX2_port_5 rfl (lv_at hl 0 rfl) ?_
    refine lv_iload_n hx hb dX2_port_6 rfl (lv_at hl 2 rfl) ?_
    by_cases hp_7 : okN N y
    · refine q_callv (n := 1) (As := [.int y]) (rest := []) hM hl.1 hG (c_X2_requireNode l g h N tk dom gr va dr off rt cnt lk dl td K E ds y hN hp_7) rfl gX2_port_X2_requireNode (by decide +kernel) ⟨Nat.le_of_ble_eq_true rfl, Nat.le_of_ble_eq_true rfl⟩ 0 rfl rfl rfl rfl rfl (Nat.le_of_ble_eq_true rfl) dX2_port_7 (c1 := 0) (s1 := 0) rfl rfl ⟨Nat.le_of_ble_eq_true rfl, Nat.le_of_ble_eq_true rfl⟩ (fun u_7 H locs h9 hG => ?_)
      obtain ⟨j, hj, rfl⟩ := hp_7
      have hjx : j < 10 := by omega
      refine lv_aload_n hx hb dX2_port_10 rfl (lv_at hl 0 rfl) ?_
      refine lv_iload_n hx hb dX2_port_11 rfl (lv_at hl 1 rfl) ?_
      refine lv_iload_n hx hb dX2_port_12 rfl (lv_at hl 2 rfl) ?_
      refine q_calli (n := 2) (As := [.int (nI i), .int (nI j)]) (rest := []) hM hl.1 hG (c_X2_areNeighbours l g h N tk dom gr va dr off rt cnt lk dl td K E ds i j hix hjx hlk) rfl gX2_port_X2_areNeighbours (by decide +kernel) ⟨Nat.le_of_ble_eq_true rfl, Nat.le_of_ble_eq_true rfl⟩ 0 rfl rfl rfl rfl rfl (Nat.le_of_ble_eq_true rfl) dX2_port_13 (c1 := 0) (s1 := 0) rfl rfl ⟨Nat.le_of_ble_eq_true rfl, Nat.le_of_ble_eq_true rfl⟩ (fun r_13 u_13 H locs hp_13 hG => ?_)
      rcases hp_13 with ⟨rfl, hp_13⟩ | ⟨rfl, hp_13⟩
      · refine lv_if_ne (tgt := 21) hx hb dX2_port_16 (by decide) (fun _ => ?_) (fun c9 => False.elim (by revert c9; decide))
        refine lv_aload_n hx hb dX2_port_21 rfl (lv_at hl 0 rfl) ?_
        refine q_get hM hG (C := RX2) (T := TX2) (n := 12) hinX2 0 rfl rfl 7 (by decide) wRX2_39 rfl (v := .ref (h 12)) rfl dX2_port_22 ?_
        refine q_getN hM hG (C := RX0) (T := TX0) (n := 4) (host := RX2) hinX0 12 rfl rfl 3 (by decide) (by decide +kernel) rfl (v := .ref (h 16)) rfl dX2_port_25 ?_
        refine lv_iload_n hx hb dX2_port_28 rfl (lv_at hl 1 rfl) ?_
        refine q_iald hM hG 16 rfl hix (by decide) dX2_port_29 ?_
        refine lv_iload_n hx hb dX2_port_30 rfl (lv_at hl 2 rfl) ?_
        refine lv_icmp_ne (tgt := 36) hx hb dX2_port_31 (by decide) (fun c_31 => ?_) (fun c_31 => ?_)
        · refine lv_aload_n hx hb dX2_port_36 rfl (lv_at hl 0 rfl) ?_
          refine q_get hM hG (C := RX2) (T := TX2) (n := 12) hinX2 0 rfl rfl 7 (by decide) wRX2_39 rfl (v := .ref (h 12)) rfl dX2_port_37 ?_
          refine q_getN hM hG (C := RX0) (T := TX0) (n := 4) (host := RX2) hinX0 12 rfl rfl 3 (by decide) (by decide +kernel) rfl (v := .ref (h 16)) rfl dX2_port_40 ?_
          refine lv_iload_n hx hb dX2_port_43 rfl (lv_at hl 2 rfl) ?_
          refine q_iald hM hG 16 rfl hjx (by decide) dX2_port_44 ?_
          refine lv_iload_n hx hb dX2_port_45 rfl (lv_at hl 1 rfl) ?_
          refine lv_icmp_eq (tgt := 58) hx hb dX2_port_46 (by decide) (fun c_46 => ?_) (fun c_46 => ?_)
          · refine lv_iconst (v := 2) hx hb dX2_port_58 (by decide) ?_
            exact hRet 2 () _ _ _ _ _ _ (⟨i, j, hi, hj, rfl, rfl, by unfold prt; rw [if_neg (fun h9 => h9 hp_13), if_neg c_31, if_pos (Or.inl c_46)]⟩) hG (Nat.le_of_ble_eq_true rfl) (Nat.le_of_ble_eq_true rfl) dX2_port_59
          · refine lv_aload_n hx hb dX2_port_49 rfl (lv_at hl 0 rfl) ?_
            refine lv_iload_n hx hb dX2_port_50 rfl (lv_at hl 1 rfl) ?_
            refine lv_iload_n hx hb dX2_port_51 rfl (lv_at hl 2 rfl) ?_
            refine q_calli (n := 2) (As := [.int (nI i), .int (nI j)]) (rest := []) hM hl.1 hG (c_X2_isNearer l g h N tk dom gr va dr off rt cnt lk dl td K E ds i j hix hjx) rfl gX2_port_X2_isNearer (by decide +kernel) ⟨Nat.le_of_ble_eq_true rfl, Nat.le_of_ble_eq_true rfl⟩ 0 rfl rfl rfl rfl rfl (Nat.le_of_ble_eq_true rfl) dX2_port_52 (c1 := 0) (s1 := 0) rfl rfl ⟨Nat.le_of_ble_eq_true rfl, Nat.le_of_ble_eq_true rfl⟩ (fun r_52 u_52 H locs hp_52 hG => ?_)
            rcases hp_52 with ⟨rfl, hp_52⟩ | ⟨rfl, hp_52⟩
            · refine lv_if_eq (tgt := 60) hx hb dX2_port_55 (by decide) (fun c9 => False.elim (by revert c9; decide)) (fun _ => ?_)
              refine lv_iconst (v := 2) hx hb dX2_port_58 (by decide) ?_
              exact hRet 2 () _ _ _ _ _ _ (⟨i, j, hi, hj, rfl, rfl, by unfold prt; rw [if_neg (fun h9 => h9 hp_13), if_neg c_31, if_pos (Or.inr hp_52)]⟩) hG (Nat.le_of_ble_eq_true rfl) (Nat.le_of_ble_eq_true rfl) dX2_port_59
            · refine lv_if_eq (tgt := 60) hx hb dX2_port_55 (by decide) (fun _ => ?_) (fun c9 => False.elim (by revert c9; decide))
              refine lv_iconst (v := 3) hx hb dX2_port_60 (by decide) ?_
              exact hRet 3 () _ _ _ _ _ _ (⟨i, j, hi, hj, rfl, rfl, by unfold prt; rw [if_neg (fun h9 => h9 hp_13), if_neg c_31, if_neg (fun h9 => h9.elim c_46 hp_52)]⟩) hG (Nat.le_of_ble_eq_true rfl) (Nat.le_of_ble_eq_true rfl) dX2_port_61
        · refine lv_iconst (v := 1) hx hb dX2_port_34 (by decide) ?_
          exact hRet 1 () _ _ _ _ _ _ (⟨i, j, hi, hj, rfl, rfl, by unfold prt; rw [if_neg (fun h9 => h9 hp_13), if_pos c_31]⟩) hG (Nat.le_of_ble_eq_true rfl) (Nat.le_of_ble_eq_true rfl) dX2_port_35
      · refine lv_if_ne (tgt := 21) hx hb dX2_port_16 (by decide) (fun c9 => False.elim (by revert c9; decide)) (fun _ => ?_)
        refine lv_iconst (v := 0) hx hb dX2_port_19 (by decide) ?_
        exact hRet 0 () _ _ _ _ _ _ (⟨i, j, hi, hj, rfl, rfl, by unfold prt; rw [if_pos hp_13]⟩) hG (Nat.le_of_ble_eq_true rfl) (Nat.le_of_ble_eq_true rfl) dX2_port_20
    · refine q_xcallv (n := 1) (As := [.int y]) (rest := []) hM hl.1 hG (c_X2_requireNode_x l hl0 g h N tk dom gr va dr off rt cnt lk dl td K E ds y hN hp_7) rfl gX2_port_X2_requireNode (by decide +kernel) ⟨Nat.le_of_ble_eq_true rfl, Nat.le_of_ble_eq_true rfl⟩ 0 rfl rfl rfl rfl rfl (Nat.le_of_ble_eq_true rfl) dX2_port_7 (c1 := 1) (s1 := 6) rfl rfl ⟨Nat.le_of_ble_eq_true rfl, Nat.le_of_ble_eq_true rfl⟩ (fun E ce q9 H locs hE hG h1 h2 h3 => hThr E ce q9 _ _ _ _ _ _ _ (⟨hE.1, fun h9 => hE.2 h9.2⟩) hG h1 h2 h3 (Nat.le_of_ble_eq_true rfl) (Nat.le_of_ble_eq_true rfl)) (fun u_7 H locs h9 hG => absurd h9 id)
  · refine q_xcallv (n := 1) (As := [.int x]) (rest := []) hM hl.1 hG (c_X2_requireNode_x l hl0 g h N tk dom gr va dr off rt cnt lk dl td K E ds x hN hp_2) rfl gX2_port_X2_requireNode (by decide +kernel) ⟨Nat.le_of_ble_eq_true rfl, Nat.le_of_ble_eq_true rfl⟩ 0 rfl rfl rfl rfl rfl (Nat.le_of_ble_eq_true rfl) dX2_port_2 (c1 := 1) (s1 := 6) rfl rfl ⟨Nat.le_of_ble_eq_true rfl, Nat.le_of_ble_eq_true rfl⟩ (fun E ce q9 H locs hE hG h1 h2 h3 => hThr E ce q9 _ _ _ _ _ _ _ (⟨hE.1, fun h9 => hE.2 h9.1⟩) hG h1 h2 h3 (Nat.le_of_ble_eq_true rfl) (Nat.le_of_ble_eq_true rfl)) (fun u_2 H locs h9 hG => absurd h9 id)

set_option maxHeartbeats 4000000 in
set_option maxRecDepth 100000 in
theorem c_X2_bestByGraph (l : Launch) (hl0 : l.stackTraces = false) (g : EN) (h : Nat → Nat) (N : Nat) (tk : Int32) (dom : Nat → Int32) (gr : Nat → Int32) (va : Nat → Int32) (dr : Nat → Int32) (off : Nat → Int64) (rt : Nat → Int64) (cnt : Int32) (lk : Nat → Int32) (dl : Nat → Int32) (td : Nat → Int32) (K : KT) (E : KT) (ds : Nat → Int32) (x : Int32) (hN : N ≤ 10) (hlk : b01 lk) (hg : rng gr va)  : Xi l yX2_bestByGraph wsX2_bestByGraph ({ frames := 7, cells := 1, slots := 6, locals := 111 }) g [.ref (h 0), .int x] (cNet g h N tk dom gr va dr off rt cnt lk dl td K E ds) (fun E => ex1 E "java/lang/IndexOutOfBoundsException" (okN N x)) (fun (r : Int32) (_ : Nat → Int32) => ∃ i, i < N ∧ x = nI i ∧ ∃ w d, bestBy N dom lk gr va i w d ∧ r = nI w) (fun (u : Nat → Int32) => (cNet g h N tk dom gr va dr off rt cnt lk dl td K E u)) := by
  refine Xi.of (cc := cX2_bestByGraph) (maxL := 2) hl0 (by decide) rfl (Nat.le_of_ble_eq_true rfl) ?_
  intro p e s m args below meth c A Q ls hM hG hRet hThr hNew hl
  have hx := hM.1
  have hb := hM.2.1
  have hown := hM.2.2.2.1
  have hts := hM.2.2.2.2
  have hl : lv_has ls 2 [(0, .ref (h 0)), (1, .int x)] := hl
  refine lv_aload_n hx hb dX2_bestByGraph_0 rfl (lv_at hl 0 rfl) ?_
  refine lv_iload_n hx hb dX2_bestByGraph_1 rfl (lv_at hl 1 rfl) ?_
  by_cases hp_2 : okN N x
  · refine q_callv (n := 1) (As := [.int x]) (rest := []) hM hl.1 hG (c_X2_requireNode l g h N tk dom gr va dr off rt cnt lk dl td K E ds x hN hp_2) rfl gX2_bestByGraph_X2_requireNode (by decide +kernel) ⟨Nat.le_of_ble_eq_true rfl, Nat.le_of_ble_eq_true rfl⟩ 0 rfl rfl rfl rfl rfl (Nat.le_of_ble_eq_true rfl) dX2_bestByGraph_2 (c1 := 0) (s1 := 0) rfl rfl ⟨Nat.le_of_ble_eq_true rfl, Nat.le_of_ble_eq_true rfl⟩ (fun u_2 H locs h9 hG => ?_)
    obtain ⟨i, hi, rfl⟩ := hp_2
    have hix : i < 10 := by omega
    refine lv_aload_n hx hb dX2_bestByGraph_5 rfl (lv_at hl 0 rfl) ?_
    refine lv_iload_n hx hb dX2_bestByGraph_6 rfl (lv_at hl 1 rfl) ?_
    refine q_callv (n := 1) (As := [.int (nI i)]) (rest := []) hM hl.1 hG (c_X2_measureDistances l g h N tk dom gr va dr off rt cnt lk dl td K E ds i hi hN hlk) rfl gX2_bestByGraph_X2_measureDistances (by decide +kernel) ⟨Nat.le_of_ble_eq_true rfl, Nat.le_of_ble_eq_true rfl⟩ 0 rfl rfl rfl rfl rfl (Nat.le_of_ble_eq_true rfl) dX2_bestByGraph_7 (c1 := 0) (s1 := 0) rfl rfl ⟨Nat.le_of_ble_eq_true rfl, Nat.le_of_ble_eq_true rfl⟩ (fun u_7 H locs hp_7 hG => ?_)
    refine lv_aload_n hx hb dX2_bestByGraph_10 rfl (lv_at hl 0 rfl) ?_
    refine lv_iload_n hx hb dX2_bestByGraph_11 rfl (lv_at hl 1 rfl) ?_
    refine q_calli (n := 1) (As := [.int (nI i)]) (rest := []) hM hl.1 hG (c_X2_bestInReach l g h N tk dom gr va dr off rt cnt lk dl td K E u_7 i hi hN hg (isDist_self hN hi hp_7)) rfl gX2_bestByGraph_X2_bestInReach (by decide +kernel) ⟨Nat.le_of_ble_eq_true rfl, Nat.le_of_ble_eq_true rfl⟩ 0 rfl rfl rfl rfl rfl (Nat.le_of_ble_eq_true rfl) dX2_bestByGraph_12 (c1 := 0) (s1 := 0) rfl rfl ⟨Nat.le_of_ble_eq_true rfl, Nat.le_of_ble_eq_true rfl⟩ (fun r_12 u_12 H locs hp_12 hG => ?_)
    obtain ⟨rfl, hb_12⟩ := hp_12
    exact hRet (nI u_12) u_7 _ _ _ _ _ _ (⟨i, hi, rfl, u_12, u_7 u_12, ⟨u_7, hp_7, hb_12, rfl⟩, rfl⟩) hG (Nat.le_of_ble_eq_true rfl) (Nat.le_of_ble_eq_true rfl) dX2_bestByGraph_15
  · refine q_xcallv (n := 1) (As := [.int x]) (rest := []) hM hl.1 hG (c_X2_requireNode_x l hl0 g h N tk dom gr va dr off rt cnt lk dl td K E ds x hN hp_2) rfl gX2_bestByGraph_X2_requireNode (by decide +kernel) ⟨Nat.le_of_ble_eq_true rfl, Nat.le_of_ble_eq_true rfl⟩ 0 rfl rfl rfl rfl rfl (Nat.le_of_ble_eq_true rfl) dX2_bestByGraph_2 (c1 := 1) (s1 := 6) rfl rfl ⟨Nat.le_of_ble_eq_true rfl, Nat.le_of_ble_eq_true rfl⟩ (fun E ce q9 H locs hE hG h1 h2 h3 => hThr E ce q9 _ _ _ _ _ _ _ (hE) hG h1 h2 h3 (Nat.le_of_ble_eq_true rfl) (Nat.le_of_ble_eq_true rfl)) (fun u_2 H locs h9 hG => absurd h9 id)

set_option maxHeartbeats 4000000 in
set_option maxRecDepth 100000 in
theorem c_X2_stepsByGraph (l : Launch) (hl0 : l.stackTraces = false) (g : EN) (h : Nat → Nat) (N : Nat) (tk : Int32) (dom : Nat → Int32) (gr : Nat → Int32) (va : Nat → Int32) (dr : Nat → Int32) (off : Nat → Int64) (rt : Nat → Int64) (cnt : Int32) (lk : Nat → Int32) (dl : Nat → Int32) (td : Nat → Int32) (K : KT) (E : KT) (ds : Nat → Int32) (x : Int32) (hN : N ≤ 10) (hlk : b01 lk) (hg : rng gr va)  : Xi l yX2_stepsByGraph wsX2_stepsByGraph ({ frames := 7, cells := 1, slots := 6, locals := 111 }) g [.ref (h 0), .int x] (cNet g h N tk dom gr va dr off rt cnt lk dl td K E ds) (fun E => ex1 E "java/lang/IndexOutOfBoundsException" (okN N x)) (fun (r : Int32) (_ : Nat → Int32) => ∃ i, i < N ∧ x = nI i ∧ ∃ w d, bestBy N dom lk gr va i w d ∧ r = d) (fun (u : Nat → Int32) => (cNet g h N tk dom gr va dr off rt cnt lk dl td K E u)) := by
  refine Xi.of (cc := cX2_stepsByGraph) (maxL := 2) hl0 (by decide) rfl (Nat.le_of_ble_eq_true rfl) ?_
  intro p e s m args below meth c A Q ls hM hG hRet hThr hNew hl
  have hx := hM.1
  have hb := hM.2.1
  have hown := hM.2.2.2.1
  have hts := hM.2.2.2.2
  have wRX2_46 : Cond.fieldLink RX2 46 "TimeNet" "distanceTo" "[I" ∈ wsX2_stepsByGraph := by decide +kernel
  have hinX2 : ∀ w ∈ wsX20, w ∈ wsX2_stepsByGraph := by decide +kernel
  have hl : lv_has ls 2 [(0, .ref (h 0)), (1, .int x)] := hl
  refine lv_aload_n hx hb dX2_stepsByGraph_0 rfl (lv_at hl 0 rfl) ?_
  refine lv_iload_n hx hb dX2_stepsByGraph_1 rfl (lv_at hl 1 rfl) ?_
  by_cases hp_2 : okN N x
  · refine q_callv (n := 1) (As := [.int x]) (rest := []) hM hl.1 hG (c_X2_requireNode l g h N tk dom gr va dr off rt cnt lk dl td K E ds x hN hp_2) rfl gX2_stepsByGraph_X2_requireNode (by decide +kernel) ⟨Nat.le_of_ble_eq_true rfl, Nat.le_of_ble_eq_true rfl⟩ 0 rfl rfl rfl rfl rfl (Nat.le_of_ble_eq_true rfl) dX2_stepsByGraph_2 (c1 := 0) (s1 := 0) rfl rfl ⟨Nat.le_of_ble_eq_true rfl, Nat.le_of_ble_eq_true rfl⟩ (fun u_2 H locs h9 hG => ?_)
    obtain ⟨i, hi, rfl⟩ := hp_2
    have hix : i < 10 := by omega
    refine lv_aload_n hx hb dX2_stepsByGraph_5 rfl (lv_at hl 0 rfl) ?_
    refine lv_iload_n hx hb dX2_stepsByGraph_6 rfl (lv_at hl 1 rfl) ?_
    refine q_callv (n := 1) (As := [.int (nI i)]) (rest := []) hM hl.1 hG (c_X2_measureDistances l g h N tk dom gr va dr off rt cnt lk dl td K E ds i hi hN hlk) rfl gX2_stepsByGraph_X2_measureDistances (by decide +kernel) ⟨Nat.le_of_ble_eq_true rfl, Nat.le_of_ble_eq_true rfl⟩ 0 rfl rfl rfl rfl rfl (Nat.le_of_ble_eq_true rfl) dX2_stepsByGraph_7 (c1 := 0) (s1 := 0) rfl rfl ⟨Nat.le_of_ble_eq_true rfl, Nat.le_of_ble_eq_true rfl⟩ (fun u_7 H locs hp_7 hG => ?_)
    refine lv_aload_n hx hb dX2_stepsByGraph_10 rfl (lv_at hl 0 rfl) ?_
    refine q_get hM hG (C := RX2) (T := TX2) (n := 12) hinX2 0 rfl rfl 9 (by decide) wRX2_46 rfl (v := .ref (h 7)) rfl dX2_stepsByGraph_11 ?_
    refine lv_aload_n hx hb dX2_stepsByGraph_14 rfl (lv_at hl 0 rfl) ?_
    refine lv_iload_n hx hb dX2_stepsByGraph_15 rfl (lv_at hl 1 rfl) ?_
    refine q_calli (n := 1) (As := [.int (nI i)]) (rest := [.ref (h 7)]) hM hl.1 hG (c_X2_bestInReach l g h N tk dom gr va dr off rt cnt lk dl td K E u_7 i hi hN hg (isDist_self hN hi hp_7)) rfl gX2_stepsByGraph_X2_bestInReach (by decide +kernel) ⟨Nat.le_of_ble_eq_true rfl, Nat.le_of_ble_eq_true rfl⟩ 0 rfl rfl rfl rfl rfl (Nat.le_of_ble_eq_true rfl) dX2_stepsByGraph_16 (c1 := 0) (s1 := 0) rfl rfl ⟨Nat.le_of_ble_eq_true rfl, Nat.le_of_ble_eq_true rfl⟩ (fun r_16 u_16 H locs hp_16 hG => ?_)
    obtain ⟨rfl, hb_16⟩ := hp_16
    refine q_iald hM hG 7 rfl (by have h9 := hb_16.1; omega) (by decide) dX2_stepsByGraph_19 ?_
    exact hRet (u_7 u_16) u_7 _ _ _ _ _ _ (⟨i, hi, rfl, u_16, u_7 u_16, ⟨u_7, hp_7, hb_16, rfl⟩, rfl⟩) hG (Nat.le_of_ble_eq_true rfl) (Nat.le_of_ble_eq_true rfl) dX2_stepsByGraph_20
  · refine q_xcallv (n := 1) (As := [.int x]) (rest := []) hM hl.1 hG (c_X2_requireNode_x l hl0 g h N tk dom gr va dr off rt cnt lk dl td K E ds x hN hp_2) rfl gX2_stepsByGraph_X2_requireNode (by decide +kernel) ⟨Nat.le_of_ble_eq_true rfl, Nat.le_of_ble_eq_true rfl⟩ 0 rfl rfl rfl rfl rfl (Nat.le_of_ble_eq_true rfl) dX2_stepsByGraph_2 (c1 := 1) (s1 := 6) rfl rfl ⟨Nat.le_of_ble_eq_true rfl, Nat.le_of_ble_eq_true rfl⟩ (fun E ce q9 H locs hE hG h1 h2 h3 => hThr E ce q9 _ _ _ _ _ _ _ (hE) hG h1 h2 h3 (Nat.le_of_ble_eq_true rfl) (Nat.le_of_ble_eq_true rfl)) (fun u_2 H locs h9 hG => absurd h9 id)

set_option maxHeartbeats 4000000 in
set_option maxRecDepth 100000 in
theorem c_X2_isSettled (l : Launch) (g : EN) (h : Nat → Nat) (N : Nat) (tk : Int32) (dom : Nat → Int32) (gr : Nat → Int32) (va : Nat → Int32) (dr : Nat → Int32) (off : Nat → Int64) (rt : Nat → Int64) (cnt : Int32) (lk : Nat → Int32) (dl : Nat → Int32) (td : Nat → Int32) (K : KT) (E : KT) (ds : Nat → Int32) (hN : N ≤ 10) (hlk : b01 lk) (hg : rng gr va)  : Ci l yX2_isSettled wsX2_isSettled ({ frames := 5, cells := 0, slots := 0, locals := 111 }) g [.ref (h 0)] (cNet g h N tk dom gr va dr off rt cnt lk dl td K E ds) (fun (r : Int32) (_ : Nat → Int32) => bP r (∀ j, j < N → stl N dom lk gr va K.1 K.2.2.1 j)) (fun (u : Nat → Int32) => (cNet g h N tk dom gr va dr off rt cnt lk dl td K E u)) := by
  refine Cz.of (cc := cX2_isSettled) (maxL := 3) (by decide) rfl (Nat.le_of_ble_eq_true rfl) (fun r u h => bP.b h) ?_
  intro p e s m args below meth c A Q ls hM hG hRet hl
  have hx := hM.1
  have hb := hM.2.1
  have hown := hM.2.2.2.1
  have hts := hM.2.2.2.2
  have wRX2_49 : Cond.fieldLink RX2 49 "TimeNet" "nodeCount" "I" ∈ wsX2_isSettled := by decide +kernel
  have wRX2_39 : Cond.fieldLink RX2 39 "TimeNet" "known" "LTimeNet$Knowledge;" ∈ wsX2_isSettled := by decide +kernel
  have wRX2_46 : Cond.fieldLink RX2 46 "TimeNet" "distanceTo" "[I" ∈ wsX2_isSettled := by decide +kernel
  have hinX0 : ∀ w ∈ wsX00, w ∈ wsX2_isSettled := by decide +kernel
  have hinX2 : ∀ w ∈ wsX20, w ∈ wsX2_isSettled := by decide +kernel
  have hl : lv_has ls 3 [(0, .ref (h 0))] := hl
  refine lv_iconst (v := 0) hx hb dX2_isSettled_0 (by decide) ?_
  refine lv_istore_n (lv' := [(1, .int 0), (0, .ref (h 0))]) hx hb dX2_isSettled_1 rfl hl (by decide) rfl (fun ls hl => ?_)
  have loop_2 : ∀ (n9 i : Nat) (f1 : Nat → Int32), i ≤ N → N < i + n9 → (∀ j, j < i → stl N dom lk gr va K.1 K.2.2.1 j) → ∀ (H : Heap) (locs : List Loc), cC g (cNet g h N tk dom gr va dr off rt cnt lk dl td K E f1) A s H locs → ∀ (ls : Array Slot), lv_has ls 3 [(1, .int (nI i)), (0, .ref (h 0))] → W p l e ({ frames := 5, cells := 0, slots := 0, locals := 111 } : Room) s m args below meth c H locs 0 0 Q (F0 m 2 ls []) := by
    intro n9
    induction n9 with
    | zero => intro i f1 h1 h2; exact absurd h2 (by omega)
    | succ n9 ih_2 =>
      intro i f1 hle_i hlt9 hinv_i H locs hG ls hl
      refine lv_iload_n hx hb dX2_isSettled_2 rfl (lv_at hl 0 rfl) ?_
      refine lv_aload_n hx hb dX2_isSettled_3 rfl (lv_at hl 1 rfl) ?_
      refine q_get hM hG (C := RX2) (T := TX2) (n := 12) hinX2 0 rfl rfl 10 (by decide) wRX2_49 rfl (v := .int (nI N)) rfl dX2_isSettled_4 ?_
      refine lv_icmp_ge (tgt := 60) hx hb dX2_isSettled_7 (by decide) (fun c_7 => ?_) (fun c_7 => ?_)
      · have hi : i = N := by have h9 := ctr_ge (a := i) (b := N) (by omega) (by omega) c_7; omega
        refine lv_iconst (v := 1) hx hb dX2_isSettled_60 (by decide) ?_
        exact hRet 1 f1 _ _ _ _ _ _ (bP.t (by rw [hi] at hinv_i; exact hinv_i)) hG (Nat.le_of_ble_eq_true rfl) (Nat.le_of_ble_eq_true rfl) dX2_isSettled_61
      · have hi : i < N := ctr_lt (by omega) (by omega) c_7
        have hix : i < 10 := by omega
        refine lv_aload_n hx hb dX2_isSettled_10 rfl (lv_at hl 1 rfl) ?_
        refine lv_iload_n hx hb dX2_isSettled_11 rfl (lv_at hl 0 rfl) ?_
        refine q_callv (n := 1) (As := [.int (nI i)]) (rest := []) hM hl.1 hG (c_X2_measureDistances l g h N tk dom gr va dr off rt cnt lk dl td K E f1 i hi hN hlk) rfl gX2_isSettled_X2_measureDistances (by decide +kernel) ⟨Nat.le_of_ble_eq_true rfl, Nat.le_of_ble_eq_true rfl⟩ 0 rfl rfl rfl rfl rfl (Nat.le_of_ble_eq_true rfl) dX2_isSettled_12 (c1 := 0) (s1 := 0) rfl rfl ⟨Nat.le_of_ble_eq_true rfl, Nat.le_of_ble_eq_true rfl⟩ (fun u_12 H locs hp_12 hG => ?_)
        refine lv_aload_n hx hb dX2_isSettled_15 rfl (lv_at hl 1 rfl) ?_
        refine lv_iload_n hx hb dX2_isSettled_16 rfl (lv_at hl 0 rfl) ?_
        refine q_calli (n := 1) (As := [.int (nI i)]) (rest := []) hM hl.1 hG (c_X2_bestInReach l g h N tk dom gr va dr off rt cnt lk dl td K E u_12 i hi hN hg (isDist_self hN hi hp_12)) rfl gX2_isSettled_X2_bestInReach (by decide +kernel) ⟨Nat.le_of_ble_eq_true rfl, Nat.le_of_ble_eq_true rfl⟩ 0 rfl rfl rfl rfl rfl (Nat.le_of_ble_eq_true rfl) dX2_isSettled_17 (c1 := 0) (s1 := 0) rfl rfl ⟨Nat.le_of_ble_eq_true rfl, Nat.le_of_ble_eq_true rfl⟩ (fun r_17 u_17 H locs hp_17 hG => ?_)
        obtain ⟨rfl, hb_17⟩ := hp_17
        refine lv_istore_n (lv' := [(2, .int (nI u_17)), (1, .int (nI i)), (0, .ref (h 0))]) hx hb dX2_isSettled_20 rfl hl (by decide) rfl (fun ls hl => ?_)
        refine lv_aload_n hx hb dX2_isSettled_21 rfl (lv_at hl 2 rfl) ?_
        refine q_get hM hG (C := RX2) (T := TX2) (n := 12) hinX2 0 rfl rfl 7 (by decide) wRX2_39 rfl (v := .ref (h 12)) rfl dX2_isSettled_22 ?_
        refine q_getN hM hG (C := RX0) (T := TX0) (n := 4) (host := RX2) hinX0 12 rfl rfl 0 (by decide) (by decide +kernel) rfl (v := .ref (h 13)) rfl dX2_isSettled_25 ?_
        refine lv_iload_n hx hb dX2_isSettled_28 rfl (lv_at hl 1 rfl) ?_
        refine q_iald hM hG 13 rfl hix (by decide) dX2_isSettled_29 ?_
        refine lv_iload_n hx hb dX2_isSettled_30 rfl (lv_at hl 0 rfl) ?_
        refine lv_icmp_ne (tgt := 52) hx hb dX2_isSettled_31 (by decide) (fun c_31 => ?_) (fun c_31 => ?_)
        · refine lv_iconst (v := 0) hx hb dX2_isSettled_52 (by decide) ?_
          exact hRet 0 u_12 _ _ _ _ _ _ (bP.f (fun h9 => stl_no hN hg ⟨u_12, hp_12, hb_17, rfl⟩ (Or.inl c_31) (h9 i hi))) hG (Nat.le_of_ble_eq_true rfl) (Nat.le_of_ble_eq_true rfl) dX2_isSettled_53
        · refine lv_aload_n hx hb dX2_isSettled_34 rfl (lv_at hl 2 rfl) ?_
          refine q_get hM hG (C := RX2) (T := TX2) (n := 12) hinX2 0 rfl rfl 7 (by decide) wRX2_39 rfl (v := .ref (h 12)) rfl dX2_isSettled_35 ?_
          refine q_getN hM hG (C := RX0) (T := TX0) (n := 4) (host := RX2) hinX0 12 rfl rfl 2 (by decide) (by decide +kernel) rfl (v := .ref (h 15)) rfl dX2_isSettled_38 ?_
          refine lv_iload_n hx hb dX2_isSettled_41 rfl (lv_at hl 1 rfl) ?_
          refine q_iald hM hG 15 rfl hix (by decide) dX2_isSettled_42 ?_
          refine lv_aload_n hx hb dX2_isSettled_43 rfl (lv_at hl 2 rfl) ?_
          refine q_get hM hG (C := RX2) (T := TX2) (n := 12) hinX2 0 rfl rfl 9 (by decide) wRX2_46 rfl (v := .ref (h 7)) rfl dX2_isSettled_44 ?_
          refine lv_iload_n hx hb dX2_isSettled_47 rfl (lv_at hl 0 rfl) ?_
          refine q_iald hM hG 7 rfl (by have h9 := hb_17.1; omega) (by decide) dX2_isSettled_48 ?_
          refine lv_icmp_eq (tgt := 54) hx hb dX2_isSettled_49 (by decide) (fun c_49 => ?_) (fun c_49 => ?_)
          · refine lv_iinc (v := (nI (i + 1))) (lv' := [(1, .int (nI (i + 1))), (2, .int (nI u_17)), (0, .ref (h 0))]) hx hb dX2_isSettled_54 hl (k := 1) rfl (nI_1 i) (by decide) rfl (fun ls hl => ?_)
            refine lv_goto (tgt := 2) hx hb dX2_isSettled_57 (by decide) ?_
            exact ih_2 (i + 1) u_12 (by omega) (by omega) (fun j h9 => by by_cases e9 : j = i; (subst e9; exact ⟨u_17, u_12 u_17, ⟨u_12, hp_12, hb_17, rfl⟩, c_31, c_49⟩); exact hinv_i j (by omega)) _ _ hG _ (lv_sub hl [0, 2] rfl)
          · refine lv_iconst (v := 0) hx hb dX2_isSettled_52 (by decide) ?_
            exact hRet 0 u_12 _ _ _ _ _ _ (bP.f (fun h9 => stl_no hN hg ⟨u_12, hp_12, hb_17, rfl⟩ (Or.inr c_49) (h9 i hi))) hG (Nat.le_of_ble_eq_true rfl) (Nat.le_of_ble_eq_true rfl) dX2_isSettled_53
  exact loop_2 (N + 1) 0 ds (by omega) (by omega) (fun j h9 => absurd h9 (Nat.not_lt_zero _)) _ _ hG _ (lv_sub hl [0, 1] rfl)

set_option maxHeartbeats 4000000 in
set_option maxRecDepth 100000 in
theorem c_X2_spread (l : Launch) (hl0 : l.stackTraces = false) (g : EN) (h : Nat → Nat) (N : Nat) (tk : Int32) (dom : Nat → Int32) (gr : Nat → Int32) (va : Nat → Int32) (dr : Nat → Int32) (off : Nat → Int64) (rt : Nat → Int64) (cnt : Int32) (lk : Nat → Int32) (dl : Nat → Int32) (td : Nat → Int32) (K : KT) (E : KT) (ds : Nat → Int32) (x : Int32) (hN : N ≤ 10)  : Xl l yX2_spread wsX2_spread ({ frames := 7, cells := 1, slots := 6, locals := 104 }) g [.ref (h 0), .int x] (cNet g h N tk dom gr va dr off rt cnt lk dl td K E ds) (fun E => ex1 E "java/lang/IllegalArgumentException" (inR 0 x 1)) (fun (r : Int64) (_ : Unit) => inR 0 x 1 ∧ (N = 0 → r = 0)) (fun (_ : Unit) => (cNet g h N tk dom gr va dr off rt cnt lk dl td K E ds)) := by
  refine Xl.of (cc := cX2_spread) (maxL := 8) hl0 (by decide) rfl (Nat.le_of_ble_eq_true rfl) ?_
  intro p e s m args below meth c A Q ls hM hG hRet hThr hNew hl
  have hx := hM.1
  have hb := hM.2.1
  have hown := hM.2.2.2.1
  have hts := hM.2.2.2.2
  have wRX2_49 : Cond.fieldLink RX2 49 "TimeNet" "nodeCount" "I" ∈ wsX2_spread := by decide +kernel
  have wRX2_9 : Cond.fieldLink RX2 9 "TimeNet" "domainOf" "[I" ∈ wsX2_spread := by decide +kernel
  have wRX2_22 : Cond.fieldLink RX2 22 "TimeNet" "offsetOf" "[J" ∈ wsX2_spread := by decide +kernel
  have hinX2 : ∀ w ∈ wsX20, w ∈ wsX2_spread := by decide +kernel
  have hl : lv_has ls 8 [(0, .ref (h 0)), (1, .int x)] := hl
  refine lv_iload_n hx hb dX2_spread_0 rfl (lv_at hl 1 rfl) ?_
  refine lv_iconst (v := 0) hx hb dX2_spread_1 (by decide) ?_
  refine lv_iconst (v := 1) hx hb dX2_spread_2 (by decide) ?_
  by_cases hp_3 : inR 0 x 1
  · refine q_callSv (n := 3) (As := [.int x, .int 0, .int 1]) (rest := []) hM hl.1 hG (c_X2_requireWithin l g h N tk dom gr va dr off rt cnt lk dl td K E ds x 0 1  hp_3) rfl gX2_spread_X2_requireWithin (by decide +kernel) ⟨Nat.le_of_ble_eq_true rfl, Nat.le_of_ble_eq_true rfl⟩ rfl rfl (Nat.le_of_ble_eq_true rfl) dX2_spread_3 (c1 := 0) (s1 := 0) rfl rfl ⟨Nat.le_of_ble_eq_true rfl, Nat.le_of_ble_eq_true rfl⟩ (fun u_3 H locs h9 hG => ?_)
    refine lv_iconst (v := 1) hx hb dX2_spread_6 (by decide) ?_
    refine lv_istore_n (lv' := [(2, .int 1), (0, .ref (h 0)), (1, .int x)]) hx hb dX2_spread_7 rfl hl (by decide) rfl (fun ls hl => ?_)
    refine lv_lconst (v := 0) hx hb dX2_spread_8 (by decide) ?_
    refine lv_lstore_n (lv' := [(3, .long 0), (2, .int 1), (0, .ref (h 0)), (1, .int x)]) hx hb dX2_spread_9 rfl hl (by decide) rfl (fun ls hl => ?_)
    refine lv_lconst (v := 0) hx hb dX2_spread_10 (by decide) ?_
    refine lv_lstore (lv' := [(5, .long 0), (3, .long 0), (2, .int 1), (0, .ref (h 0)), (1, .int x)]) hx hb dX2_spread_11 hl (by decide) rfl (fun ls hl => ?_)
    refine lv_iconst (v := 0) hx hb dX2_spread_13 (by decide) ?_
    refine lv_istore (lv' := [(7, .int 0), (5, .long 0), (3, .long 0), (2, .int 1), (0, .ref (h 0)), (1, .int x)]) hx hb dX2_spread_14 hl (by decide) rfl (fun ls hl => ?_)
    have loop_16 : ∀ (n9 k : Nat) (hi : Int64) (lo : Int64) (fst : Int32), k ≤ N → N < k + n9 → (k = 0 → lo = 0 ∧ hi = 0) → ∀ (H : Heap) (locs : List Loc), cC g (cNet g h N tk dom gr va dr off rt cnt lk dl td K E ds) A s H locs → ∀ (ls : Array Slot), lv_has ls 8 [(7, .int (nI k)), (5, .long hi), (3, .long lo), (2, .int fst), (0, .ref (h 0)), (1, .int x)] → W p l e ({ frames := 7, cells := 1, slots := 6, locals := 104 } : Room) s m args below meth c H locs 0 0 Q (F0 m 16 ls []) := by
      intro n9
      induction n9 with
      | zero => intro k hi lo fst h1 h2; exact absurd h2 (by omega)
      | succ n9 ih_16 =>
        intro k hi lo fst hle_k hlt9 hinv_k H locs hG ls hl
        refine lv_iload hx hb dX2_spread_16 (lv_at hl 0 rfl) ?_
        refine lv_aload_n hx hb dX2_spread_18 rfl (lv_at hl 4 rfl) ?_
        refine q_get hM hG (C := RX2) (T := TX2) (n := 12) hinX2 0 rfl rfl 10 (by decide) wRX2_49 rfl (v := .int (nI N)) rfl dX2_spread_19 ?_
        refine lv_icmp_ge (tgt := 98) hx hb dX2_spread_22 (by decide) (fun c_22 => ?_) (fun c_22 => ?_)
        · have hk : k = N := by have h9 := ctr_ge (a := k) (b := N) (by omega) (by omega) c_22; omega
          refine lv_lload hx hb dX2_spread_98 (lv_at hl 1 rfl) ?_
          refine lv_lload_n hx hb dX2_spread_100 rfl (lv_at hl 2 rfl) ?_
          refine lv_lsub hx hb dX2_spread_101 ?_
          exact hRet (hi - lo) () _ _ _ _ _ _ (⟨hp_3, fun h9 => by obtain ⟨e1, e2⟩ := hinv_k (by omega); rw [e1, e2]; rfl⟩) hG (Nat.le_of_ble_eq_true rfl) (Nat.le_of_ble_eq_true rfl) dX2_spread_102
        · have hk : k < N := ctr_lt (by omega) (by omega) c_22
          have hkx : k < 10 := by omega
          refine lv_aload_n hx hb dX2_spread_25 rfl (lv_at hl 4 rfl) ?_
          refine q_get hM hG (C := RX2) (T := TX2) (n := 12) hinX2 0 rfl rfl 0 (by decide) wRX2_9 rfl (v := .ref (h 1)) rfl dX2_spread_26 ?_
          refine lv_iload hx hb dX2_spread_29 (lv_at hl 0 rfl) ?_
          refine q_iald hM hG 1 rfl hkx (by decide) dX2_spread_31 ?_
          refine lv_iload_n hx hb dX2_spread_32 rfl (lv_at hl 5 rfl) ?_
          refine lv_icmp_ne (tgt := 92) hx hb dX2_spread_33 (by decide) (fun c_33 => ?_) (fun c_33 => ?_)
          · refine lv_iinc (v := (nI (k + 1))) (lv' := [(7, .int (nI (k + 1))), (5, .long hi), (3, .long lo), (2, .int fst), (0, .ref (h 0)), (1, .int x)]) hx hb dX2_spread_92 hl (k := 0) rfl (nI_1 k) (by decide) rfl (fun ls hl => ?_)
            refine lv_goto (tgt := 16) hx hb dX2_spread_95 (by decide) ?_
            exact ih_16 (k + 1) hi lo fst (by omega) (by omega) (fun h9 => absurd h9 (Nat.succ_ne_zero _)) _ _ hG _ (lv_sub hl [0, 1, 2, 3, 4, 5] rfl)
          · refine lv_iload_n hx hb dX2_spread_36 rfl (lv_at hl 3 rfl) ?_
            refine lv_if_eq (tgt := 50) hx hb dX2_spread_37 (by decide) (fun c_37 => ?_) (fun c_37 => ?_)
            · refine lv_lload_n hx hb dX2_spread_50 rfl (lv_at hl 2 rfl) ?_
              refine lv_aload_n hx hb dX2_spread_51 rfl (lv_at hl 4 rfl) ?_
              refine q_get hM hG (C := RX2) (T := TX2) (n := 12) hinX2 0 rfl rfl 4 (by decide) wRX2_22 rfl (v := .ref (h 5)) rfl dX2_spread_52 ?_
              refine lv_iload hx hb dX2_spread_55 (lv_at hl 0 rfl) ?_
              refine q_lald hM hG 5 rfl hkx (by decide) dX2_spread_57 ?_
              refine va_mmin_long hx hb (by rw [hM.2.2.1]; exact hl.1.symm) hown (hts (.methodLink RX2 135 Lib.MathLoose.min_long.x) (by decide +kernel)) (hts (.static Lib.MathLoose.min_long.x) (by decide +kernel)) (hts (.initialized "java/lang/Math") (by decide +kernel)) (hts (.code Lib.MathLoose.min_long.x Lib.MathLoose.min_long.code 4 (some .long)) (by decide +kernel)) (Nat.le_of_ble_eq_true rfl) (Nat.le_of_ble_eq_true rfl) (Nat.le_of_ble_eq_true rfl) (Nat.le_of_ble_eq_true rfl) dX2_spread_58 ?_
              refine lv_lstore_n (lv' := [(3, .long (if (off k) < lo then (off k) else lo)), (7, .int (nI k)), (5, .long hi), (2, .int fst), (0, .ref (h 0)), (1, .int x)]) hx hb dX2_spread_61 rfl hl (by decide) rfl (fun ls hl => ?_)
              refine lv_iload_n hx hb dX2_spread_62 rfl (lv_at hl 3 rfl) ?_
              refine lv_if_eq (tgt := 76) hx hb dX2_spread_63 (by decide) (fun c_63 => ?_) (fun c_63 => ?_)
              · refine lv_lload hx hb dX2_spread_76 (lv_at hl 2 rfl) ?_
                refine lv_aload_n hx hb dX2_spread_78 rfl (lv_at hl 4 rfl) ?_
                refine q_get hM hG (C := RX2) (T := TX2) (n := 12) hinX2 0 rfl rfl 4 (by decide) wRX2_22 rfl (v := .ref (h 5)) rfl dX2_spread_79 ?_
                refine lv_iload hx hb dX2_spread_82 (lv_at hl 1 rfl) ?_
                refine q_lald hM hG 5 rfl hkx (by decide) dX2_spread_84 ?_
                refine va_mmax_long hx hb (by rw [hM.2.2.1]; exact hl.1.symm) hown (hts (.methodLink RX2 141 Lib.MathLoose.max_long.x) (by decide +kernel)) (hts (.static Lib.MathLoose.max_long.x) (by decide +kernel)) (hts (.initialized "java/lang/Math") (by decide +kernel)) (hts (.code Lib.MathLoose.max_long.x Lib.MathLoose.max_long.code 4 (some .long)) (by decide +kernel)) (Nat.le_of_ble_eq_true rfl) (Nat.le_of_ble_eq_true rfl) (Nat.le_of_ble_eq_true rfl) (Nat.le_of_ble_eq_true rfl) dX2_spread_85 ?_
                refine lv_lstore (lv' := [(5, .long (if (off k) < hi then hi else (off k))), (3, .long (if (off k) < lo then (off k) else lo)), (7, .int (nI k)), (2, .int fst), (0, .ref (h 0)), (1, .int x)]) hx hb dX2_spread_88 hl (by decide) rfl (fun ls hl => ?_)
                refine lv_iconst (v := 0) hx hb dX2_spread_90 (by decide) ?_
                refine lv_istore_n (lv' := [(2, .int 0), (5, .long (if (off k) < hi then hi else (off k))), (3, .long (if (off k) < lo then (off k) else lo)), (7, .int (nI k)), (0, .ref (h 0)), (1, .int x)]) hx hb dX2_spread_91 rfl hl (by decide) rfl (fun ls hl => ?_)
                refine lv_iinc (v := (nI (k + 1))) (lv' := [(7, .int (nI (k + 1))), (2, .int 0), (5, .long (if (off k) < hi then hi else (off k))), (3, .long (if (off k) < lo then (off k) else lo)), (0, .ref (h 0)), (1, .int x)]) hx hb dX2_spread_92 hl (k := 3) rfl (nI_1 k) (by decide) rfl (fun ls hl => ?_)
                refine lv_goto (tgt := 16) hx hb dX2_spread_95 (by decide) ?_
                exact ih_16 (k + 1) (if (off k) < hi then hi else (off k)) (if (off k) < lo then (off k) else lo) 0 (by omega) (by omega) (fun h9 => absurd h9 (Nat.succ_ne_zero _)) _ _ hG _ (lv_sub hl [0, 2, 3, 1, 4, 5] rfl)
              · refine lv_aload_n hx hb dX2_spread_66 rfl (lv_at hl 4 rfl) ?_
                refine q_get hM hG (C := RX2) (T := TX2) (n := 12) hinX2 0 rfl rfl 4 (by decide) wRX2_22 rfl (v := .ref (h 5)) rfl dX2_spread_67 ?_
                refine lv_iload hx hb dX2_spread_70 (lv_at hl 1 rfl) ?_
                refine q_lald hM hG 5 rfl hkx (by decide) dX2_spread_72 ?_
                refine lv_goto (tgt := 88) hx hb dX2_spread_73 (by decide) ?_
                refine lv_lstore (lv' := [(5, .long (off k)), (3, .long (if (off k) < lo then (off k) else lo)), (7, .int (nI k)), (2, .int fst), (0, .ref (h 0)), (1, .int x)]) hx hb dX2_spread_88 hl (by decide) rfl (fun ls hl => ?_)
                refine lv_iconst (v := 0) hx hb dX2_spread_90 (by decide) ?_
                refine lv_istore_n (lv' := [(2, .int 0), (5, .long (off k)), (3, .long (if (off k) < lo then (off k) else lo)), (7, .int (nI k)), (0, .ref (h 0)), (1, .int x)]) hx hb dX2_spread_91 rfl hl (by decide) rfl (fun ls hl => ?_)
                refine lv_iinc (v := (nI (k + 1))) (lv' := [(7, .int (nI (k + 1))), (2, .int 0), (5, .long (off k)), (3, .long (if (off k) < lo then (off k) else lo)), (0, .ref (h 0)), (1, .int x)]) hx hb dX2_spread_92 hl (k := 3) rfl (nI_1 k) (by decide) rfl (fun ls hl => ?_)
                refine lv_goto (tgt := 16) hx hb dX2_spread_95 (by decide) ?_
                exact ih_16 (k + 1) (off k) (if (off k) < lo then (off k) else lo) 0 (by omega) (by omega) (fun h9 => absurd h9 (Nat.succ_ne_zero _)) _ _ hG _ (lv_sub hl [0, 2, 3, 1, 4, 5] rfl)
            · refine lv_aload_n hx hb dX2_spread_40 rfl (lv_at hl 4 rfl) ?_
              refine q_get hM hG (C := RX2) (T := TX2) (n := 12) hinX2 0 rfl rfl 4 (by decide) wRX2_22 rfl (v := .ref (h 5)) rfl dX2_spread_41 ?_
              refine lv_iload hx hb dX2_spread_44 (lv_at hl 0 rfl) ?_
              refine q_lald hM hG 5 rfl hkx (by decide) dX2_spread_46 ?_
              refine lv_goto (tgt := 61) hx hb dX2_spread_47 (by decide) ?_
              refine lv_lstore_n (lv' := [(3, .long (off k)), (7, .int (nI k)), (5, .long hi), (2, .int fst), (0, .ref (h 0)), (1, .int x)]) hx hb dX2_spread_61 rfl hl (by decide) rfl (fun ls hl => ?_)
              refine lv_iload_n hx hb dX2_spread_62 rfl (lv_at hl 3 rfl) ?_
              refine lv_if_eq (tgt := 76) hx hb dX2_spread_63 (by decide) (fun c_63 => ?_) (fun c_63 => ?_)
              · refine lv_lload hx hb dX2_spread_76 (lv_at hl 2 rfl) ?_
                refine lv_aload_n hx hb dX2_spread_78 rfl (lv_at hl 4 rfl) ?_
                refine q_get hM hG (C := RX2) (T := TX2) (n := 12) hinX2 0 rfl rfl 4 (by decide) wRX2_22 rfl (v := .ref (h 5)) rfl dX2_spread_79 ?_
                refine lv_iload hx hb dX2_spread_82 (lv_at hl 1 rfl) ?_
                refine q_lald hM hG 5 rfl hkx (by decide) dX2_spread_84 ?_
                refine va_mmax_long hx hb (by rw [hM.2.2.1]; exact hl.1.symm) hown (hts (.methodLink RX2 141 Lib.MathLoose.max_long.x) (by decide +kernel)) (hts (.static Lib.MathLoose.max_long.x) (by decide +kernel)) (hts (.initialized "java/lang/Math") (by decide +kernel)) (hts (.code Lib.MathLoose.max_long.x Lib.MathLoose.max_long.code 4 (some .long)) (by decide +kernel)) (Nat.le_of_ble_eq_true rfl) (Nat.le_of_ble_eq_true rfl) (Nat.le_of_ble_eq_true rfl) (Nat.le_of_ble_eq_true rfl) dX2_spread_85 ?_
                refine lv_lstore (lv' := [(5, .long (if (off k) < hi then hi else (off k))), (3, .long (off k)), (7, .int (nI k)), (2, .int fst), (0, .ref (h 0)), (1, .int x)]) hx hb dX2_spread_88 hl (by decide) rfl (fun ls hl => ?_)
                refine lv_iconst (v := 0) hx hb dX2_spread_90 (by decide) ?_
                refine lv_istore_n (lv' := [(2, .int 0), (5, .long (if (off k) < hi then hi else (off k))), (3, .long (off k)), (7, .int (nI k)), (0, .ref (h 0)), (1, .int x)]) hx hb dX2_spread_91 rfl hl (by decide) rfl (fun ls hl => ?_)
                refine lv_iinc (v := (nI (k + 1))) (lv' := [(7, .int (nI (k + 1))), (2, .int 0), (5, .long (if (off k) < hi then hi else (off k))), (3, .long (off k)), (0, .ref (h 0)), (1, .int x)]) hx hb dX2_spread_92 hl (k := 3) rfl (nI_1 k) (by decide) rfl (fun ls hl => ?_)
                refine lv_goto (tgt := 16) hx hb dX2_spread_95 (by decide) ?_
                exact ih_16 (k + 1) (if (off k) < hi then hi else (off k)) (off k) 0 (by omega) (by omega) (fun h9 => absurd h9 (Nat.succ_ne_zero _)) _ _ hG _ (lv_sub hl [0, 2, 3, 1, 4, 5] rfl)
              · refine lv_aload_n hx hb dX2_spread_66 rfl (lv_at hl 4 rfl) ?_
                refine q_get hM hG (C := RX2) (T := TX2) (n := 12) hinX2 0 rfl rfl 4 (by decide) wRX2_22 rfl (v := .ref (h 5)) rfl dX2_spread_67 ?_
                refine lv_iload hx hb dX2_spread_70 (lv_at hl 1 rfl) ?_
                refine q_lald hM hG 5 rfl hkx (by decide) dX2_spread_72 ?_
                refine lv_goto (tgt := 88) hx hb dX2_spread_73 (by decide) ?_
                refine lv_lstore (lv' := [(5, .long (off k)), (3, .long (off k)), (7, .int (nI k)), (2, .int fst), (0, .ref (h 0)), (1, .int x)]) hx hb dX2_spread_88 hl (by decide) rfl (fun ls hl => ?_)
                refine lv_iconst (v := 0) hx hb dX2_spread_90 (by decide) ?_
                refine lv_istore_n (lv' := [(2, .int 0), (5, .long (off k)), (3, .long (off k)), (7, .int (nI k)), (0, .ref (h 0)), (1, .int x)]) hx hb dX2_spread_91 rfl hl (by decide) rfl (fun ls hl => ?_)
                refine lv_iinc (v := (nI (k + 1))) (lv' := [(7, .int (nI (k + 1))), (2, .int 0), (5, .long (off k)), (3, .long (off k)), (0, .ref (h 0)), (1, .int x)]) hx hb dX2_spread_92 hl (k := 3) rfl (nI_1 k) (by decide) rfl (fun ls hl => ?_)
                refine lv_goto (tgt := 16) hx hb dX2_spread_95 (by decide) ?_
                exact ih_16 (k + 1) (off k) (off k) 0 (by omega) (by omega) (fun h9 => absurd h9 (Nat.succ_ne_zero _)) _ _ hG _ (lv_sub hl [0, 2, 3, 1, 4, 5] rfl)
    exact loop_16 (N + 1) 0 0 0 1 (by omega) (by omega) (fun _ => ⟨rfl, rfl⟩) _ _ hG _ (lv_sub hl [0, 1, 2, 3, 4, 5] rfl)
  · refine q_xcallSv (n := 3) (As := [.int x, .int 0, .int 1]) (rest := []) hM hl.1 hG (c_X2_requireWithin_x l hl0 g h N tk dom gr va dr off rt cnt lk dl td K E ds x 0 1  hp_3) rfl gX2_spread_X2_requireWithin (by decide +kernel) ⟨Nat.le_of_ble_eq_true rfl, Nat.le_of_ble_eq_true rfl⟩ rfl rfl (Nat.le_of_ble_eq_true rfl) dX2_spread_3 (c1 := 1) (s1 := 6) rfl rfl ⟨Nat.le_of_ble_eq_true rfl, Nat.le_of_ble_eq_true rfl⟩ (fun E ce q9 H locs hE hG h1 h2 h3 => hThr E ce q9 _ _ _ _ _ _ _ (hE) hG h1 h2 h3 (Nat.le_of_ble_eq_true rfl) (Nat.le_of_ble_eq_true rfl)) (fun u_3 H locs h9 hG => absurd h9 id)
