set_option maxHeartbeats 4000000 in
set_option maxRecDepth 100000 in
theorem c_X3_add (l : Launch) (g : EN) (h : Nat → Nat) (N : Nat) (tk : Int32) (dom : Nat → Int32) (gr : Nat → Int32) (va : Nat → Int32) (dr : Nat → Int32) (off : Nat → Int64) (rt : Nat → Int64) (cnt : Int32) (lk : Nat → Int32) (dl : Nat → Int32) (td : Nat → Int32) (K : KM) (X : KM) (ds : Nat → Int32) (thr : Int32) (p0 p1 p2 p3 : Int32) (hN : N ≤ 10)  : Ci l yX3_add wsX3_add ({ frames := 1, cells := 0, slots := 0, locals := 22 }) g [.ref (h 0), .int p0, .int p1, .int p2, .int p3] (mNet g h N tk dom gr va dr off rt cnt lk dl td K X ds thr) (fun (r : Int32) (u : Int32 × Nat × (Nat → Int32) × (Nat → Int32) × (Nat → Int32) × (Nat → Int32) × KM) => cd2 u.1 (inR 0 p0 1 ∧ inR 0 p1 255 ∧ inR 0 p2 1000 ∧ inR (-100) p3 100) (N < 10) ∧ (u.1 = 0 → r = nI N ∧ u.2.1 = N + 1 ∧ u.2.2.1 = upd dom N p0 ∧ u.2.2.2.1 = upd gr N p1 ∧ u.2.2.2.2.1 = upd va N p2 ∧ u.2.2.2.2.2.1 = upd dr N p3 ∧ u.2.2.2.2.2.2 = mst K (upd gr N p1) (upd va N p2) N) ∧ (¬ u.1 = 0 → u.2 = (N, dom, gr, va, dr, K))) (fun (u : Int32 × Nat × (Nat → Int32) × (Nat → Int32) × (Nat → Int32) × (Nat → Int32) × KM) => (mNet g h u.2.1 tk u.2.2.1 u.2.2.2.1 u.2.2.2.2.1 u.2.2.2.2.2.1 off rt cnt lk dl td u.2.2.2.2.2.2 X ds u.1)) := by
  refine Ci.of (cc := cX3_add) (maxL := 5) (by decide) rfl (Nat.le_of_ble_eq_true rfl) ?_
  intro p e s m args below meth c A Q ls hM hG hRet hl
  have hx := hM.1
  have hb := hM.2.1
  have hown := hM.2.2.2.1
  have hts := hM.2.2.2.2
  have wRX3_72 : Cond.fieldLink RX3 72 "TimeNetModel" "nodeMany" "I" ∈ wsX3_add := by decide +kernel
  have wRX3_76 : Cond.fieldLink RX3 76 "TimeNetModel" "thrown" "I" ∈ wsX3_add := by decide +kernel
  have wRX3_7 : Cond.fieldLink RX3 7 "TimeNetModel" "domains" "[I" ∈ wsX3_add := by decide +kernel
  have wRX3_13 : Cond.fieldLink RX3 13 "TimeNetModel" "grades" "[I" ∈ wsX3_add := by decide +kernel
  have wRX3_16 : Cond.fieldLink RX3 16 "TimeNetModel" "variances" "[I" ∈ wsX3_add := by decide +kernel
  have wRX3_19 : Cond.fieldLink RX3 19 "TimeNetModel" "drifts" "[I" ∈ wsX3_add := by decide +kernel
  have hinX3 : ∀ w ∈ wsX30, w ∈ wsX3_add := by decide +kernel
  have hl : lv_has ls 5 [(0, .ref (h 0)), (1, .int p0), (2, .int p1), (3, .int p2), (4, .int p3)] := hl
  refine lv_aload_n hx hb dX3_add_0 rfl (lv_at hl 0 rfl) ?_
  refine lv_iload_n hx hb dX3_add_1 rfl (lv_at hl 1 rfl) ?_
  refine lv_iconst (v := 0) hx hb dX3_add_2 (by decide) ?_
  refine lv_iconst (v := 1) hx hb dX3_add_3 (by decide) ?_
  refine q_callSi (n := 3) (As := [.int p0, .int 0, .int 1]) (rest := [.ref (h 0)]) hM hl.1 hG (c_X3_in l g h N tk dom gr va dr off rt cnt lk dl td K X ds thr p0 0 1) rfl gX3_add_X3_in (by decide +kernel) ⟨Nat.le_of_ble_eq_true rfl, Nat.le_of_ble_eq_true rfl⟩ rfl rfl (Nat.le_of_ble_eq_true rfl) dX3_add_4 (c1 := 0) (s1 := 0) rfl rfl ⟨Nat.le_of_ble_eq_true rfl, Nat.le_of_ble_eq_true rfl⟩ (fun r_4 u_4 H locs hp_4 hG => ?_)
  rcases hp_4 with ⟨rfl, hp_4⟩ | ⟨rfl, hp_4⟩
  · refine lv_if_eq (tgt := 44) hx hb dX3_add_7 (by decide) (fun c9 => False.elim (by revert c9; decide)) (fun _ => ?_)
    refine lv_iload_n hx hb dX3_add_10 rfl (lv_at hl 2 rfl) ?_
    refine lv_iconst (v := 0) hx hb dX3_add_11 (by decide) ?_
    refine lv_sipush (v := 255) hx hb dX3_add_12 (by decide) ?_
    refine q_callSi (n := 3) (As := [.int p1, .int 0, .int 255]) (rest := [.ref (h 0)]) hM hl.1 hG (c_X3_in l g h N tk dom gr va dr off rt cnt lk dl td K X ds thr p1 0 255) rfl gX3_add_X3_in (by decide +kernel) ⟨Nat.le_of_ble_eq_true rfl, Nat.le_of_ble_eq_true rfl⟩ rfl rfl (Nat.le_of_ble_eq_true rfl) dX3_add_15 (c1 := 0) (s1 := 0) rfl rfl ⟨Nat.le_of_ble_eq_true rfl, Nat.le_of_ble_eq_true rfl⟩ (fun r_15 u_15 H locs hp_15 hG => ?_)
    rcases hp_15 with ⟨rfl, hp_15⟩ | ⟨rfl, hp_15⟩
    · refine lv_if_eq (tgt := 44) hx hb dX3_add_18 (by decide) (fun c9 => False.elim (by revert c9; decide)) (fun _ => ?_)
      refine lv_iload_n hx hb dX3_add_21 rfl (lv_at hl 3 rfl) ?_
      refine lv_iconst (v := 0) hx hb dX3_add_22 (by decide) ?_
      refine lv_sipush (v := 1000) hx hb dX3_add_23 (by decide) ?_
      refine q_callSi (n := 3) (As := [.int p2, .int 0, .int 1000]) (rest := [.ref (h 0)]) hM hl.1 hG (c_X3_in l g h N tk dom gr va dr off rt cnt lk dl td K X ds thr p2 0 1000) rfl gX3_add_X3_in (by decide +kernel) ⟨Nat.le_of_ble_eq_true rfl, Nat.le_of_ble_eq_true rfl⟩ rfl rfl (Nat.le_of_ble_eq_true rfl) dX3_add_26 (c1 := 0) (s1 := 0) rfl rfl ⟨Nat.le_of_ble_eq_true rfl, Nat.le_of_ble_eq_true rfl⟩ (fun r_26 u_26 H locs hp_26 hG => ?_)
      rcases hp_26 with ⟨rfl, hp_26⟩ | ⟨rfl, hp_26⟩
      · refine lv_if_eq (tgt := 44) hx hb dX3_add_29 (by decide) (fun c9 => False.elim (by revert c9; decide)) (fun _ => ?_)
        refine lv_iload hx hb dX3_add_32 (lv_at hl 4 rfl) ?_
        refine lv_bipush (v := (-100)) hx hb dX3_add_34 (by decide) ?_
        refine lv_bipush (v := 100) hx hb dX3_add_36 (by decide) ?_
        refine q_callSi (n := 3) (As := [.int p3, .int (-100 : Int32), .int 100]) (rest := [.ref (h 0)]) hM hl.1 hG (c_X3_in l g h N tk dom gr va dr off rt cnt lk dl td K X ds thr p3 (-100 : Int32) 100) rfl gX3_add_X3_in (by decide +kernel) ⟨Nat.le_of_ble_eq_true rfl, Nat.le_of_ble_eq_true rfl⟩ rfl rfl (Nat.le_of_ble_eq_true rfl) dX3_add_38 (c1 := 0) (s1 := 0) rfl rfl ⟨Nat.le_of_ble_eq_true rfl, Nat.le_of_ble_eq_true rfl⟩ (fun r_38 u_38 H locs hp_38 hG => ?_)
        rcases hp_38 with ⟨rfl, hp_38⟩ | ⟨rfl, hp_38⟩
        · refine lv_if_ne (tgt := 48) hx hb dX3_add_41 (by decide) (fun _ => ?_) (fun c9 => False.elim (by revert c9; decide))
          refine lv_aload_n hx hb dX3_add_48 rfl (lv_at hl 0 rfl) ?_
          refine q_get hM hG (C := RX3) (T := TX3) (n := 24) hinX3 0 rfl rfl 0 (by decide) wRX3_72 rfl (v := .int (nI N)) rfl dX3_add_49 ?_
          refine lv_bipush (v := 10) hx hb dX3_add_52 (by decide) ?_
          refine lv_icmp_ne (tgt := 61) hx hb dX3_add_54 (by decide) (fun c_54 => ?_) (fun c_54 => ?_)
          · have hNx : N < 10 := by rcases Nat.lt_or_ge N 10 with h9 | h9; (exact h9); exact absurd (by rw [show N = 10 by omega]; rfl) c_54
            refine lv_iconst (v := 0) hx hb dX3_add_61 (by decide) ?_
            refine q_put hM hG (C := RX3) (T := TX3) (n := 24) hinX3 tyX3 tyX3_ok nmX3 0 rfl rfl 17 (by decide) wRX3_76 rfl rfl rfl (Nat.le_of_ble_eq_true rfl) (ws1 := (mNet g h N tk dom gr va dr off rt cnt lk dl td K X ds 0)) rfl dX3_add_62 (fun H locs hG => ?_)
            refine lv_aload_n hx hb dX3_add_65 rfl (lv_at hl 0 rfl) ?_
            refine q_get hM hG (C := RX3) (T := TX3) (n := 24) hinX3 0 rfl rfl 17 (by decide) wRX3_76 rfl (v := .int 0) rfl dX3_add_66 ?_
            refine lv_if_le (tgt := 74) hx hb dX3_add_69 (by decide) (fun _ => ?_) (fun c9 => False.elim (by revert c9; decide))
            refine lv_aload_n hx hb dX3_add_74 rfl (lv_at hl 0 rfl) ?_
            refine q_get hM hG (C := RX3) (T := TX3) (n := 24) hinX3 0 rfl rfl 2 (by decide) wRX3_7 rfl (v := .ref (h 1)) rfl dX3_add_75 ?_
            refine lv_aload_n hx hb dX3_add_78 rfl (lv_at hl 0 rfl) ?_
            refine q_get hM hG (C := RX3) (T := TX3) (n := 24) hinX3 0 rfl rfl 0 (by decide) wRX3_72 rfl (v := .int (nI N)) rfl dX3_add_79 ?_
            refine lv_iload_n hx hb dX3_add_82 rfl (lv_at hl 1 rfl) ?_
            refine q_iast hM hG 1 rfl hNx (by decide) (ws1 := (mNet g h N tk (upd dom N p0) gr va dr off rt cnt lk dl td K X ds 0)) rfl dX3_add_83 (fun H locs hG => ?_)
            refine lv_aload_n hx hb dX3_add_84 rfl (lv_at hl 0 rfl) ?_
            refine q_get hM hG (C := RX3) (T := TX3) (n := 24) hinX3 0 rfl rfl 3 (by decide) wRX3_13 rfl (v := .ref (h 2)) rfl dX3_add_85 ?_
            refine lv_aload_n hx hb dX3_add_88 rfl (lv_at hl 0 rfl) ?_
            refine q_get hM hG (C := RX3) (T := TX3) (n := 24) hinX3 0 rfl rfl 0 (by decide) wRX3_72 rfl (v := .int (nI N)) rfl dX3_add_89 ?_
            refine lv_iload_n hx hb dX3_add_92 rfl (lv_at hl 2 rfl) ?_
            refine q_iast hM hG 2 rfl hNx (by decide) (ws1 := (mNet g h N tk (upd dom N p0) (upd gr N p1) va dr off rt cnt lk dl td K X ds 0)) rfl dX3_add_93 (fun H locs hG => ?_)
            refine lv_aload_n hx hb dX3_add_94 rfl (lv_at hl 0 rfl) ?_
            refine q_get hM hG (C := RX3) (T := TX3) (n := 24) hinX3 0 rfl rfl 4 (by decide) wRX3_16 rfl (v := .ref (h 3)) rfl dX3_add_95 ?_
            refine lv_aload_n hx hb dX3_add_98 rfl (lv_at hl 0 rfl) ?_
            refine q_get hM hG (C := RX3) (T := TX3) (n := 24) hinX3 0 rfl rfl 0 (by decide) wRX3_72 rfl (v := .int (nI N)) rfl dX3_add_99 ?_
            refine lv_iload_n hx hb dX3_add_102 rfl (lv_at hl 3 rfl) ?_
            refine q_iast hM hG 3 rfl hNx (by decide) (ws1 := (mNet g h N tk (upd dom N p0) (upd gr N p1) (upd va N p2) dr off rt cnt lk dl td K X ds 0)) rfl dX3_add_103 (fun H locs hG => ?_)
            refine lv_aload_n hx hb dX3_add_104 rfl (lv_at hl 0 rfl) ?_
            refine q_get hM hG (C := RX3) (T := TX3) (n := 24) hinX3 0 rfl rfl 5 (by decide) wRX3_19 rfl (v := .ref (h 4)) rfl dX3_add_105 ?_
            refine lv_aload_n hx hb dX3_add_108 rfl (lv_at hl 0 rfl) ?_
            refine q_get hM hG (C := RX3) (T := TX3) (n := 24) hinX3 0 rfl rfl 0 (by decide) wRX3_72 rfl (v := .int (nI N)) rfl dX3_add_109 ?_
            refine lv_iload hx hb dX3_add_112 (lv_at hl 4 rfl) ?_
            refine q_iast hM hG 4 rfl hNx (by decide) (ws1 := (mNet g h N tk (upd dom N p0) (upd gr N p1) (upd va N p2) (upd dr N p3) off rt cnt lk dl td K X ds 0)) rfl dX3_add_114 (fun H locs hG => ?_)
            refine lv_aload_n hx hb dX3_add_115 rfl (lv_at hl 0 rfl) ?_
            refine lv_aload_n hx hb dX3_add_116 rfl (lv_at hl 0 rfl) ?_
            refine q_get hM hG (C := RX3) (T := TX3) (n := 24) hinX3 0 rfl rfl 0 (by decide) wRX3_72 rfl (v := .int (nI N)) rfl dX3_add_117 ?_
            refine q_callv (n := 1) (As := [.int (nI N)]) (rest := []) hM hl.1 hG (c_X3_knowItself l g h N tk (upd dom N p0) (upd gr N p1) (upd va N p2) (upd dr N p3) off rt cnt lk dl td K X ds 0 N hNx) rfl gX3_add_X3_knowItself (by decide +kernel) ⟨Nat.le_of_ble_eq_true rfl, Nat.le_of_ble_eq_true rfl⟩ 0 rfl rfl rfl rfl rfl (Nat.le_of_ble_eq_true rfl) dX3_add_120 (c1 := 0) (s1 := 0) rfl rfl ⟨Nat.le_of_ble_eq_true rfl, Nat.le_of_ble_eq_true rfl⟩ (fun u_120 H locs hp_120 hG => ?_)
            refine lv_aload_n hx hb dX3_add_123 rfl (lv_at hl 0 rfl) ?_
            refine lv_dup hx hb dX3_add_124 rfl ?_
            refine q_get hM hG (C := RX3) (T := TX3) (n := 24) hinX3 0 rfl rfl 0 (by decide) wRX3_72 rfl (v := .int (nI N)) rfl dX3_add_125 ?_
            refine lv_iconst (v := 1) hx hb dX3_add_128 (by decide) ?_
            refine lv_iadd hx hb dX3_add_129 ?_
            refine q_ren (nI_1 N) ?_
            refine q_put hM hG (C := RX3) (T := TX3) (n := 24) hinX3 tyX3 tyX3_ok nmX3 0 rfl rfl 0 (by decide) wRX3_72 rfl rfl rfl (Nat.le_of_ble_eq_true rfl) (ws1 := (mNet g h (N + 1) tk (upd dom N p0) (upd gr N p1) (upd va N p2) (upd dr N p3) off rt cnt lk dl td u_120 X ds 0)) rfl dX3_add_130 (fun H locs hG => ?_)
            refine lv_aload_n hx hb dX3_add_133 rfl (lv_at hl 0 rfl) ?_
            refine q_get hM hG (C := RX3) (T := TX3) (n := 24) hinX3 0 rfl rfl 0 (by decide) wRX3_72 rfl (v := .int (nI (N + 1))) rfl dX3_add_134 ?_
            refine lv_iconst (v := 1) hx hb dX3_add_137 (by decide) ?_
            refine lv_isub hx hb dX3_add_138 ?_
            refine q_ren (nI_pred N) ?_
            exact hRet (nI N) (0, N + 1, (upd dom N p0), (upd gr N p1), (upd va N p2), (upd dr N p3), u_120) _ _ _ _ _ _ (⟨Or.inr (Or.inr ⟨rfl, ⟨hp_4, hp_15, hp_26, hp_38⟩, hNx⟩), fun _ => ⟨rfl, rfl, rfl, rfl, rfl, rfl, hp_120⟩, fun h9 => absurd rfl h9⟩) hG (Nat.le_of_ble_eq_true rfl) (Nat.le_of_ble_eq_true rfl) dX3_add_139
          · have hN10 : ¬ N < 10 := fun h9 => absurd ((nI_eq (a := N) (b := 10) (by omega) (by decide)).mp c_54) (by omega)
            refine lv_iconst (v := 2) hx hb dX3_add_57 (by decide) ?_
            refine lv_goto (tgt := 62) hx hb dX3_add_58 (by decide) ?_
            refine q_put hM hG (C := RX3) (T := TX3) (n := 24) hinX3 tyX3 tyX3_ok nmX3 0 rfl rfl 17 (by decide) wRX3_76 rfl rfl rfl (Nat.le_of_ble_eq_true rfl) (ws1 := (mNet g h N tk dom gr va dr off rt cnt lk dl td K X ds 2)) rfl dX3_add_62 (fun H locs hG => ?_)
            refine lv_aload_n hx hb dX3_add_65 rfl (lv_at hl 0 rfl) ?_
            refine q_get hM hG (C := RX3) (T := TX3) (n := 24) hinX3 0 rfl rfl 17 (by decide) wRX3_76 rfl (v := .int 2) rfl dX3_add_66 ?_
            refine lv_if_le (tgt := 74) hx hb dX3_add_69 (by decide) (fun c9 => False.elim (by revert c9; decide)) (fun _ => ?_)
            refine lv_iconst (v := 0) hx hb dX3_add_72 (by decide) ?_
            exact hRet 0 (2, N, dom, gr, va, dr, K) _ _ _ _ _ _ (⟨Or.inr (Or.inl ⟨rfl, ⟨hp_4, hp_15, hp_26, hp_38⟩, hN10⟩), fun h9 => absurd (show (2 : Int32) = 0 from h9) (by decide), fun _ => rfl⟩) hG (Nat.le_of_ble_eq_true rfl) (Nat.le_of_ble_eq_true rfl) dX3_add_73
        · refine lv_if_ne (tgt := 48) hx hb dX3_add_41 (by decide) (fun c9 => False.elim (by revert c9; decide)) (fun _ => ?_)
          refine lv_iconst (v := 1) hx hb dX3_add_44 (by decide) ?_
          refine lv_goto (tgt := 62) hx hb dX3_add_45 (by decide) ?_
          refine q_put hM hG (C := RX3) (T := TX3) (n := 24) hinX3 tyX3 tyX3_ok nmX3 0 rfl rfl 17 (by decide) wRX3_76 rfl rfl rfl (Nat.le_of_ble_eq_true rfl) (ws1 := (mNet g h N tk dom gr va dr off rt cnt lk dl td K X ds 1)) rfl dX3_add_62 (fun H locs hG => ?_)
          refine lv_aload_n hx hb dX3_add_65 rfl (lv_at hl 0 rfl) ?_
          refine q_get hM hG (C := RX3) (T := TX3) (n := 24) hinX3 0 rfl rfl 17 (by decide) wRX3_76 rfl (v := .int 1) rfl dX3_add_66 ?_
          refine lv_if_le (tgt := 74) hx hb dX3_add_69 (by decide) (fun c9 => False.elim (by revert c9; decide)) (fun _ => ?_)
          refine lv_iconst (v := 0) hx hb dX3_add_72 (by decide) ?_
          exact hRet 0 (1, N, dom, gr, va, dr, K) _ _ _ _ _ _ (⟨Or.inl ⟨rfl, fun h9 => hp_38 h9.2.2.2⟩, fun h9 => absurd (show (1 : Int32) = 0 from h9) (by decide), fun _ => rfl⟩) hG (Nat.le_of_ble_eq_true rfl) (Nat.le_of_ble_eq_true rfl) dX3_add_73
      · refine lv_if_eq (tgt := 44) hx hb dX3_add_29 (by decide) (fun _ => ?_) (fun c9 => False.elim (by revert c9; decide))
        refine lv_iconst (v := 1) hx hb dX3_add_44 (by decide) ?_
        refine lv_goto (tgt := 62) hx hb dX3_add_45 (by decide) ?_
        refine q_put hM hG (C := RX3) (T := TX3) (n := 24) hinX3 tyX3 tyX3_ok nmX3 0 rfl rfl 17 (by decide) wRX3_76 rfl rfl rfl (Nat.le_of_ble_eq_true rfl) (ws1 := (mNet g h N tk dom gr va dr off rt cnt lk dl td K X ds 1)) rfl dX3_add_62 (fun H locs hG => ?_)
        refine lv_aload_n hx hb dX3_add_65 rfl (lv_at hl 0 rfl) ?_
        refine q_get hM hG (C := RX3) (T := TX3) (n := 24) hinX3 0 rfl rfl 17 (by decide) wRX3_76 rfl (v := .int 1) rfl dX3_add_66 ?_
        refine lv_if_le (tgt := 74) hx hb dX3_add_69 (by decide) (fun c9 => False.elim (by revert c9; decide)) (fun _ => ?_)
        refine lv_iconst (v := 0) hx hb dX3_add_72 (by decide) ?_
        exact hRet 0 (1, N, dom, gr, va, dr, K) _ _ _ _ _ _ (⟨Or.inl ⟨rfl, fun h9 => hp_26 h9.2.2.1⟩, fun h9 => absurd (show (1 : Int32) = 0 from h9) (by decide), fun _ => rfl⟩) hG (Nat.le_of_ble_eq_true rfl) (Nat.le_of_ble_eq_true rfl) dX3_add_73
    · refine lv_if_eq (tgt := 44) hx hb dX3_add_18 (by decide) (fun _ => ?_) (fun c9 => False.elim (by revert c9; decide))
      refine lv_iconst (v := 1) hx hb dX3_add_44 (by decide) ?_
      refine lv_goto (tgt := 62) hx hb dX3_add_45 (by decide) ?_
      refine q_put hM hG (C := RX3) (T := TX3) (n := 24) hinX3 tyX3 tyX3_ok nmX3 0 rfl rfl 17 (by decide) wRX3_76 rfl rfl rfl (Nat.le_of_ble_eq_true rfl) (ws1 := (mNet g h N tk dom gr va dr off rt cnt lk dl td K X ds 1)) rfl dX3_add_62 (fun H locs hG => ?_)
      refine lv_aload_n hx hb dX3_add_65 rfl (lv_at hl 0 rfl) ?_
      refine q_get hM hG (C := RX3) (T := TX3) (n := 24) hinX3 0 rfl rfl 17 (by decide) wRX3_76 rfl (v := .int 1) rfl dX3_add_66 ?_
      refine lv_if_le (tgt := 74) hx hb dX3_add_69 (by decide) (fun c9 => False.elim (by revert c9; decide)) (fun _ => ?_)
      refine lv_iconst (v := 0) hx hb dX3_add_72 (by decide) ?_
      exact hRet 0 (1, N, dom, gr, va, dr, K) _ _ _ _ _ _ (⟨Or.inl ⟨rfl, fun h9 => hp_15 h9.2.1⟩, fun h9 => absurd (show (1 : Int32) = 0 from h9) (by decide), fun _ => rfl⟩) hG (Nat.le_of_ble_eq_true rfl) (Nat.le_of_ble_eq_true rfl) dX3_add_73
  · refine lv_if_eq (tgt := 44) hx hb dX3_add_7 (by decide) (fun _ => ?_) (fun c9 => False.elim (by revert c9; decide))
    refine lv_iconst (v := 1) hx hb dX3_add_44 (by decide) ?_
    refine lv_goto (tgt := 62) hx hb dX3_add_45 (by decide) ?_
    refine q_put hM hG (C := RX3) (T := TX3) (n := 24) hinX3 tyX3 tyX3_ok nmX3 0 rfl rfl 17 (by decide) wRX3_76 rfl rfl rfl (Nat.le_of_ble_eq_true rfl) (ws1 := (mNet g h N tk dom gr va dr off rt cnt lk dl td K X ds 1)) rfl dX3_add_62 (fun H locs hG => ?_)
    refine lv_aload_n hx hb dX3_add_65 rfl (lv_at hl 0 rfl) ?_
    refine q_get hM hG (C := RX3) (T := TX3) (n := 24) hinX3 0 rfl rfl 17 (by decide) wRX3_76 rfl (v := .int 1) rfl dX3_add_66 ?_
    refine lv_if_le (tgt := 74) hx hb dX3_add_69 (by decide) (fun c9 => False.elim (by revert c9; decide)) (fun _ => ?_)
    refine lv_iconst (v := 0) hx hb dX3_add_72 (by decide) ?_
    exact hRet 0 (1, N, dom, gr, va, dr, K) _ _ _ _ _ _ (⟨Or.inl ⟨rfl, fun h9 => hp_4 h9.1⟩, fun h9 => absurd (show (1 : Int32) = 0 from h9) (by decide), fun _ => rfl⟩) hG (Nat.le_of_ble_eq_true rfl) (Nat.le_of_ble_eq_true rfl) dX3_add_73

set_option maxHeartbeats 4000000 in
set_option maxRecDepth 100000 in
theorem c_X3_setClock (l : Launch) (g : EN) (h : Nat → Nat) (N : Nat) (tk : Int32) (dom : Nat → Int32) (gr : Nat → Int32) (va : Nat → Int32) (dr : Nat → Int32) (off : Nat → Int64) (rt : Nat → Int64) (cnt : Int32) (lk : Nat → Int32) (dl : Nat → Int32) (td : Nat → Int32) (K : KM) (X : KM) (ds : Nat → Int32) (thr : Int32) (x a b : Int32) (hN : N ≤ 10)  : Ci l yX3_setClock wsX3_setClock ({ frames := 2, cells := 0, slots := 0, locals := 43 }) g [.ref (h 0), .int x, .int a, .int b] (mNet g h N tk dom gr va dr off rt cnt lk dl td K X ds thr) (fun (r : Int32) (u : Int32 × (Nat → Int32) × (Nat → Int32)) => cd2 u.1 (okN N x) (inR 0 a 255 ∧ inR 0 b 1000) ∧ (u.1 = 0 → ∃ i, i < N ∧ x = nI i ∧ r = gr i ∧ u.2.1 = upd gr i a ∧ u.2.2 = upd va i b) ∧ (¬ u.1 = 0 → u.2.1 = gr ∧ u.2.2 = va)) (fun (u : Int32 × (Nat → Int32) × (Nat → Int32)) => (mNet g h N tk dom u.2.1 u.2.2 dr off rt cnt lk dl td K X ds u.1)) := by
  refine Ci.of (cc := cX3_setClock) (maxL := 5) (by decide) rfl (Nat.le_of_ble_eq_true rfl) ?_
  intro p e s m args below meth c A Q ls hM hG hRet hl
  have hx := hM.1
  have hb := hM.2.1
  have hown := hM.2.2.2.1
  have hts := hM.2.2.2.2
  have wRX3_76 : Cond.fieldLink RX3 76 "TimeNetModel" "thrown" "I" ∈ wsX3_setClock := by decide +kernel
  have wRX3_13 : Cond.fieldLink RX3 13 "TimeNetModel" "grades" "[I" ∈ wsX3_setClock := by decide +kernel
  have wRX3_16 : Cond.fieldLink RX3 16 "TimeNetModel" "variances" "[I" ∈ wsX3_setClock := by decide +kernel
  have hinX3 : ∀ w ∈ wsX30, w ∈ wsX3_setClock := by decide +kernel
  have hl : lv_has ls 5 [(0, .ref (h 0)), (1, .int x), (2, .int a), (3, .int b)] := hl
  refine lv_aload_n hx hb dX3_setClock_0 rfl (lv_at hl 0 rfl) ?_
  refine lv_aload_n hx hb dX3_setClock_1 rfl (lv_at hl 0 rfl) ?_
  refine lv_iload_n hx hb dX3_setClock_2 rfl (lv_at hl 1 rfl) ?_
  refine q_calli (n := 1) (As := [.int x]) (rest := [.ref (h 0)]) hM hl.1 hG (c_X3_isNode l g h N tk dom gr va dr off rt cnt lk dl td K X ds thr x hN) rfl gX3_setClock_X3_isNode (by decide +kernel) ⟨Nat.le_of_ble_eq_true rfl, Nat.le_of_ble_eq_true rfl⟩ 0 rfl rfl rfl rfl rfl (Nat.le_of_ble_eq_true rfl) dX3_setClock_3 (c1 := 0) (s1 := 0) rfl rfl ⟨Nat.le_of_ble_eq_true rfl, Nat.le_of_ble_eq_true rfl⟩ (fun r_3 u_3 H locs hp_3 hG => ?_)
  rcases hp_3 with ⟨rfl, hp_3⟩ | ⟨rfl, hp_3⟩
  · obtain ⟨i, hi, rfl⟩ := hp_3
    have hix : i < 10 := by omega
    refine lv_if_ne (tgt := 13) hx hb dX3_setClock_6 (by decide) (fun _ => ?_) (fun c9 => False.elim (by revert c9; decide))
    refine lv_iload_n hx hb dX3_setClock_13 rfl (lv_at hl 2 rfl) ?_
    refine lv_iconst (v := 0) hx hb dX3_setClock_14 (by decide) ?_
    refine lv_sipush (v := 255) hx hb dX3_setClock_15 (by decide) ?_
    refine q_callSi (n := 3) (As := [.int a, .int 0, .int 255]) (rest := [.ref (h 0)]) hM hl.1 hG (c_X3_in l g h N tk dom gr va dr off rt cnt lk dl td K X ds thr a 0 255) rfl gX3_setClock_X3_in (by decide +kernel) ⟨Nat.le_of_ble_eq_true rfl, Nat.le_of_ble_eq_true rfl⟩ rfl rfl (Nat.le_of_ble_eq_true rfl) dX3_setClock_18 (c1 := 0) (s1 := 0) rfl rfl ⟨Nat.le_of_ble_eq_true rfl, Nat.le_of_ble_eq_true rfl⟩ (fun r_18 u_18 H locs hp_18 hG => ?_)
    rcases hp_18 with ⟨rfl, hp_18⟩ | ⟨rfl, hp_18⟩
    · refine lv_if_eq (tgt := 35) hx hb dX3_setClock_21 (by decide) (fun c9 => False.elim (by revert c9; decide)) (fun _ => ?_)
      refine lv_iload_n hx hb dX3_setClock_24 rfl (lv_at hl 3 rfl) ?_
      refine lv_iconst (v := 0) hx hb dX3_setClock_25 (by decide) ?_
      refine lv_sipush (v := 1000) hx hb dX3_setClock_26 (by decide) ?_
      refine q_callSi (n := 3) (As := [.int b, .int 0, .int 1000]) (rest := [.ref (h 0)]) hM hl.1 hG (c_X3_in l g h N tk dom gr va dr off rt cnt lk dl td K X ds thr b 0 1000) rfl gX3_setClock_X3_in (by decide +kernel) ⟨Nat.le_of_ble_eq_true rfl, Nat.le_of_ble_eq_true rfl⟩ rfl rfl (Nat.le_of_ble_eq_true rfl) dX3_setClock_29 (c1 := 0) (s1 := 0) rfl rfl ⟨Nat.le_of_ble_eq_true rfl, Nat.le_of_ble_eq_true rfl⟩ (fun r_29 u_29 H locs hp_29 hG => ?_)
      rcases hp_29 with ⟨rfl, hp_29⟩ | ⟨rfl, hp_29⟩
      · refine lv_if_ne (tgt := 39) hx hb dX3_setClock_32 (by decide) (fun _ => ?_) (fun c9 => False.elim (by revert c9; decide))
        refine lv_iconst (v := 0) hx hb dX3_setClock_39 (by decide) ?_
        refine q_put hM hG (C := RX3) (T := TX3) (n := 24) hinX3 tyX3 tyX3_ok nmX3 0 rfl rfl 17 (by decide) wRX3_76 rfl rfl rfl (Nat.le_of_ble_eq_true rfl) (ws1 := (mNet g h N tk dom gr va dr off rt cnt lk dl td K X ds 0)) rfl dX3_setClock_40 (fun H locs hG => ?_)
        refine lv_aload_n hx hb dX3_setClock_43 rfl (lv_at hl 0 rfl) ?_
        refine q_get hM hG (C := RX3) (T := TX3) (n := 24) hinX3 0 rfl rfl 17 (by decide) wRX3_76 rfl (v := .int 0) rfl dX3_setClock_44 ?_
        refine lv_if_le (tgt := 52) hx hb dX3_setClock_47 (by decide) (fun _ => ?_) (fun c9 => False.elim (by revert c9; decide))
        refine lv_aload_n hx hb dX3_setClock_52 rfl (lv_at hl 0 rfl) ?_
        refine q_get hM hG (C := RX3) (T := TX3) (n := 24) hinX3 0 rfl rfl 3 (by decide) wRX3_13 rfl (v := .ref (h 2)) rfl dX3_setClock_53 ?_
        refine lv_iload_n hx hb dX3_setClock_56 rfl (lv_at hl 1 rfl) ?_
        refine q_iald hM hG 2 rfl hix (by decide) dX3_setClock_57 ?_
        refine lv_istore (lv' := [(4, .int (gr i)), (0, .ref (h 0)), (1, .int (nI i)), (2, .int a), (3, .int b)]) hx hb dX3_setClock_58 hl (by decide) rfl (fun ls hl => ?_)
        refine lv_aload_n hx hb dX3_setClock_60 rfl (lv_at hl 1 rfl) ?_
        refine q_get hM hG (C := RX3) (T := TX3) (n := 24) hinX3 0 rfl rfl 3 (by decide) wRX3_13 rfl (v := .ref (h 2)) rfl dX3_setClock_61 ?_
        refine lv_iload_n hx hb dX3_setClock_64 rfl (lv_at hl 2 rfl) ?_
        refine lv_iload_n hx hb dX3_setClock_65 rfl (lv_at hl 3 rfl) ?_
        refine q_iast hM hG 2 rfl hix (by decide) (ws1 := (mNet g h N tk dom (upd gr i a) va dr off rt cnt lk dl td K X ds 0)) rfl dX3_setClock_66 (fun H locs hG => ?_)
        refine lv_aload_n hx hb dX3_setClock_67 rfl (lv_at hl 1 rfl) ?_
        refine q_get hM hG (C := RX3) (T := TX3) (n := 24) hinX3 0 rfl rfl 4 (by decide) wRX3_16 rfl (v := .ref (h 3)) rfl dX3_setClock_68 ?_
        refine lv_iload_n hx hb dX3_setClock_71 rfl (lv_at hl 2 rfl) ?_
        refine lv_iload_n hx hb dX3_setClock_72 rfl (lv_at hl 4 rfl) ?_
        refine q_iast hM hG 3 rfl hix (by decide) (ws1 := (mNet g h N tk dom (upd gr i a) (upd va i b) dr off rt cnt lk dl td K X ds 0)) rfl dX3_setClock_73 (fun H locs hG => ?_)
        refine lv_iload hx hb dX3_setClock_74 (lv_at hl 0 rfl) ?_
        exact hRet (gr i) (0, (upd gr i a), (upd va i b)) _ _ _ _ _ _ (⟨Or.inr (Or.inr ⟨rfl, ⟨i, hi, rfl⟩, ⟨hp_18, hp_29⟩⟩), fun _ => ⟨i, hi, rfl, rfl, rfl, rfl⟩, fun h9 => absurd rfl h9⟩) hG (Nat.le_of_ble_eq_true rfl) (Nat.le_of_ble_eq_true rfl) dX3_setClock_76
      · refine lv_if_ne (tgt := 39) hx hb dX3_setClock_32 (by decide) (fun c9 => False.elim (by revert c9; decide)) (fun _ => ?_)
        refine lv_iconst (v := 2) hx hb dX3_setClock_35 (by decide) ?_
        refine lv_goto (tgt := 40) hx hb dX3_setClock_36 (by decide) ?_
        refine q_put hM hG (C := RX3) (T := TX3) (n := 24) hinX3 tyX3 tyX3_ok nmX3 0 rfl rfl 17 (by decide) wRX3_76 rfl rfl rfl (Nat.le_of_ble_eq_true rfl) (ws1 := (mNet g h N tk dom gr va dr off rt cnt lk dl td K X ds 2)) rfl dX3_setClock_40 (fun H locs hG => ?_)
        refine lv_aload_n hx hb dX3_setClock_43 rfl (lv_at hl 0 rfl) ?_
        refine q_get hM hG (C := RX3) (T := TX3) (n := 24) hinX3 0 rfl rfl 17 (by decide) wRX3_76 rfl (v := .int 2) rfl dX3_setClock_44 ?_
        refine lv_if_le (tgt := 52) hx hb dX3_setClock_47 (by decide) (fun c9 => False.elim (by revert c9; decide)) (fun _ => ?_)
        refine lv_iconst (v := 0) hx hb dX3_setClock_50 (by decide) ?_
        exact hRet 0 (2, gr, va) _ _ _ _ _ _ (⟨Or.inr (Or.inl ⟨rfl, ⟨i, hi, rfl⟩, fun h9 => hp_29 h9.2⟩), fun h9 => absurd (show (2 : Int32) = 0 from h9) (by decide), fun _ => ⟨rfl, rfl⟩⟩) hG (Nat.le_of_ble_eq_true rfl) (Nat.le_of_ble_eq_true rfl) dX3_setClock_51
    · refine lv_if_eq (tgt := 35) hx hb dX3_setClock_21 (by decide) (fun _ => ?_) (fun c9 => False.elim (by revert c9; decide))
      refine lv_iconst (v := 2) hx hb dX3_setClock_35 (by decide) ?_
      refine lv_goto (tgt := 40) hx hb dX3_setClock_36 (by decide) ?_
      refine q_put hM hG (C := RX3) (T := TX3) (n := 24) hinX3 tyX3 tyX3_ok nmX3 0 rfl rfl 17 (by decide) wRX3_76 rfl rfl rfl (Nat.le_of_ble_eq_true rfl) (ws1 := (mNet g h N tk dom gr va dr off rt cnt lk dl td K X ds 2)) rfl dX3_setClock_40 (fun H locs hG => ?_)
      refine lv_aload_n hx hb dX3_setClock_43 rfl (lv_at hl 0 rfl) ?_
      refine q_get hM hG (C := RX3) (T := TX3) (n := 24) hinX3 0 rfl rfl 17 (by decide) wRX3_76 rfl (v := .int 2) rfl dX3_setClock_44 ?_
      refine lv_if_le (tgt := 52) hx hb dX3_setClock_47 (by decide) (fun c9 => False.elim (by revert c9; decide)) (fun _ => ?_)
      refine lv_iconst (v := 0) hx hb dX3_setClock_50 (by decide) ?_
      exact hRet 0 (2, gr, va) _ _ _ _ _ _ (⟨Or.inr (Or.inl ⟨rfl, ⟨i, hi, rfl⟩, fun h9 => hp_18 h9.1⟩), fun h9 => absurd (show (2 : Int32) = 0 from h9) (by decide), fun _ => ⟨rfl, rfl⟩⟩) hG (Nat.le_of_ble_eq_true rfl) (Nat.le_of_ble_eq_true rfl) dX3_setClock_51
  · refine lv_if_ne (tgt := 13) hx hb dX3_setClock_6 (by decide) (fun c9 => False.elim (by revert c9; decide)) (fun _ => ?_)
    refine lv_iconst (v := 1) hx hb dX3_setClock_9 (by decide) ?_
    refine lv_goto (tgt := 40) hx hb dX3_setClock_10 (by decide) ?_
    refine q_put hM hG (C := RX3) (T := TX3) (n := 24) hinX3 tyX3 tyX3_ok nmX3 0 rfl rfl 17 (by decide) wRX3_76 rfl rfl rfl (Nat.le_of_ble_eq_true rfl) (ws1 := (mNet g h N tk dom gr va dr off rt cnt lk dl td K X ds 1)) rfl dX3_setClock_40 (fun H locs hG => ?_)
    refine lv_aload_n hx hb dX3_setClock_43 rfl (lv_at hl 0 rfl) ?_
    refine q_get hM hG (C := RX3) (T := TX3) (n := 24) hinX3 0 rfl rfl 17 (by decide) wRX3_76 rfl (v := .int 1) rfl dX3_setClock_44 ?_
    refine lv_if_le (tgt := 52) hx hb dX3_setClock_47 (by decide) (fun c9 => False.elim (by revert c9; decide)) (fun _ => ?_)
    refine lv_iconst (v := 0) hx hb dX3_setClock_50 (by decide) ?_
    exact hRet 0 (1, gr, va) _ _ _ _ _ _ (⟨Or.inl ⟨rfl, hp_3⟩, fun h9 => absurd (show (1 : Int32) = 0 from h9) (by decide), fun _ => ⟨rfl, rfl⟩⟩) hG (Nat.le_of_ble_eq_true rfl) (Nat.le_of_ble_eq_true rfl) dX3_setClock_51

set_option maxHeartbeats 4000000 in
set_option maxRecDepth 100000 in
theorem c_X3_setDrift (l : Launch) (g : EN) (h : Nat → Nat) (N : Nat) (tk : Int32) (dom : Nat → Int32) (gr : Nat → Int32) (va : Nat → Int32) (dr : Nat → Int32) (off : Nat → Int64) (rt : Nat → Int64) (cnt : Int32) (lk : Nat → Int32) (dl : Nat → Int32) (td : Nat → Int32) (K : KM) (X : KM) (ds : Nat → Int32) (thr : Int32) (x a : Int32) (hN : N ≤ 10)  : Ci l yX3_setDrift wsX3_setDrift ({ frames := 2, cells := 0, slots := 0, locals := 43 }) g [.ref (h 0), .int x, .int a] (mNet g h N tk dom gr va dr off rt cnt lk dl td K X ds thr) (fun (r : Int32) (u : Int32 × (Nat → Int32)) => cd2 u.1 (okN N x) (inR (-100) a 100) ∧ (u.1 = 0 → ∃ i, i < N ∧ x = nI i ∧ r = dr i ∧ u.2 = upd dr i a) ∧ (¬ u.1 = 0 → u.2 = dr)) (fun (u : Int32 × (Nat → Int32)) => (mNet g h N tk dom gr va u.2 off rt cnt lk dl td K X ds u.1)) := by
  refine Ci.of (cc := cX3_setDrift) (maxL := 4) (by decide) rfl (Nat.le_of_ble_eq_true rfl) ?_
  intro p e s m args below meth c A Q ls hM hG hRet hl
  have hx := hM.1
  have hb := hM.2.1
  have hown := hM.2.2.2.1
  have hts := hM.2.2.2.2
  have wRX3_76 : Cond.fieldLink RX3 76 "TimeNetModel" "thrown" "I" ∈ wsX3_setDrift := by decide +kernel
  have wRX3_19 : Cond.fieldLink RX3 19 "TimeNetModel" "drifts" "[I" ∈ wsX3_setDrift := by decide +kernel
  have hinX3 : ∀ w ∈ wsX30, w ∈ wsX3_setDrift := by decide +kernel
  have hl : lv_has ls 4 [(0, .ref (h 0)), (1, .int x), (2, .int a)] := hl
  refine lv_aload_n hx hb dX3_setDrift_0 rfl (lv_at hl 0 rfl) ?_
  refine lv_aload_n hx hb dX3_setDrift_1 rfl (lv_at hl 0 rfl) ?_
  refine lv_iload_n hx hb dX3_setDrift_2 rfl (lv_at hl 1 rfl) ?_
  refine q_calli (n := 1) (As := [.int x]) (rest := [.ref (h 0)]) hM hl.1 hG (c_X3_isNode l g h N tk dom gr va dr off rt cnt lk dl td K X ds thr x hN) rfl gX3_setDrift_X3_isNode (by decide +kernel) ⟨Nat.le_of_ble_eq_true rfl, Nat.le_of_ble_eq_true rfl⟩ 0 rfl rfl rfl rfl rfl (Nat.le_of_ble_eq_true rfl) dX3_setDrift_3 (c1 := 0) (s1 := 0) rfl rfl ⟨Nat.le_of_ble_eq_true rfl, Nat.le_of_ble_eq_true rfl⟩ (fun r_3 u_3 H locs hp_3 hG => ?_)
  rcases hp_3 with ⟨rfl, hp_3⟩ | ⟨rfl, hp_3⟩
  · obtain ⟨i, hi, rfl⟩ := hp_3
    have hix : i < 10 := by omega
    refine lv_if_ne (tgt := 13) hx hb dX3_setDrift_6 (by decide) (fun _ => ?_) (fun c9 => False.elim (by revert c9; decide))
    refine lv_iload_n hx hb dX3_setDrift_13 rfl (lv_at hl 2 rfl) ?_
    refine lv_bipush (v := (-100)) hx hb dX3_setDrift_14 (by decide) ?_
    refine lv_bipush (v := 100) hx hb dX3_setDrift_16 (by decide) ?_
    refine q_callSi (n := 3) (As := [.int a, .int (-100 : Int32), .int 100]) (rest := [.ref (h 0)]) hM hl.1 hG (c_X3_in l g h N tk dom gr va dr off rt cnt lk dl td K X ds thr a (-100 : Int32) 100) rfl gX3_setDrift_X3_in (by decide +kernel) ⟨Nat.le_of_ble_eq_true rfl, Nat.le_of_ble_eq_true rfl⟩ rfl rfl (Nat.le_of_ble_eq_true rfl) dX3_setDrift_18 (c1 := 0) (s1 := 0) rfl rfl ⟨Nat.le_of_ble_eq_true rfl, Nat.le_of_ble_eq_true rfl⟩ (fun r_18 u_18 H locs hp_18 hG => ?_)
    rcases hp_18 with ⟨rfl, hp_18⟩ | ⟨rfl, hp_18⟩
    · refine lv_if_ne (tgt := 28) hx hb dX3_setDrift_21 (by decide) (fun _ => ?_) (fun c9 => False.elim (by revert c9; decide))
      refine lv_iconst (v := 0) hx hb dX3_setDrift_28 (by decide) ?_
      refine q_put hM hG (C := RX3) (T := TX3) (n := 24) hinX3 tyX3 tyX3_ok nmX3 0 rfl rfl 17 (by decide) wRX3_76 rfl rfl rfl (Nat.le_of_ble_eq_true rfl) (ws1 := (mNet g h N tk dom gr va dr off rt cnt lk dl td K X ds 0)) rfl dX3_setDrift_29 (fun H locs hG => ?_)
      refine lv_aload_n hx hb dX3_setDrift_32 rfl (lv_at hl 0 rfl) ?_
      refine q_get hM hG (C := RX3) (T := TX3) (n := 24) hinX3 0 rfl rfl 17 (by decide) wRX3_76 rfl (v := .int 0) rfl dX3_setDrift_33 ?_
      refine lv_if_le (tgt := 41) hx hb dX3_setDrift_36 (by decide) (fun _ => ?_) (fun c9 => False.elim (by revert c9; decide))
      refine lv_aload_n hx hb dX3_setDrift_41 rfl (lv_at hl 0 rfl) ?_
      refine q_get hM hG (C := RX3) (T := TX3) (n := 24) hinX3 0 rfl rfl 5 (by decide) wRX3_19 rfl (v := .ref (h 4)) rfl dX3_setDrift_42 ?_
      refine lv_iload_n hx hb dX3_setDrift_45 rfl (lv_at hl 1 rfl) ?_
      refine q_iald hM hG 4 rfl hix (by decide) dX3_setDrift_46 ?_
      refine lv_istore_n (lv' := [(3, .int (dr i)), (0, .ref (h 0)), (1, .int (nI i)), (2, .int a)]) hx hb dX3_setDrift_47 rfl hl (by decide) rfl (fun ls hl => ?_)
      refine lv_aload_n hx hb dX3_setDrift_48 rfl (lv_at hl 1 rfl) ?_
      refine q_get hM hG (C := RX3) (T := TX3) (n := 24) hinX3 0 rfl rfl 5 (by decide) wRX3_19 rfl (v := .ref (h 4)) rfl dX3_setDrift_49 ?_
      refine lv_iload_n hx hb dX3_setDrift_52 rfl (lv_at hl 2 rfl) ?_
      refine lv_iload_n hx hb dX3_setDrift_53 rfl (lv_at hl 3 rfl) ?_
      refine q_iast hM hG 4 rfl hix (by decide) (ws1 := (mNet g h N tk dom gr va (upd dr i a) off rt cnt lk dl td K X ds 0)) rfl dX3_setDrift_54 (fun H locs hG => ?_)
      refine lv_iload_n hx hb dX3_setDrift_55 rfl (lv_at hl 0 rfl) ?_
      exact hRet (dr i) (0, (upd dr i a)) _ _ _ _ _ _ (⟨Or.inr (Or.inr ⟨rfl, ⟨i, hi, rfl⟩, hp_18⟩), fun _ => ⟨i, hi, rfl, rfl, rfl⟩, fun h9 => absurd rfl h9⟩) hG (Nat.le_of_ble_eq_true rfl) (Nat.le_of_ble_eq_true rfl) dX3_setDrift_56
    · refine lv_if_ne (tgt := 28) hx hb dX3_setDrift_21 (by decide) (fun c9 => False.elim (by revert c9; decide)) (fun _ => ?_)
      refine lv_iconst (v := 2) hx hb dX3_setDrift_24 (by decide) ?_
      refine lv_goto (tgt := 29) hx hb dX3_setDrift_25 (by decide) ?_
      refine q_put hM hG (C := RX3) (T := TX3) (n := 24) hinX3 tyX3 tyX3_ok nmX3 0 rfl rfl 17 (by decide) wRX3_76 rfl rfl rfl (Nat.le_of_ble_eq_true rfl) (ws1 := (mNet g h N tk dom gr va dr off rt cnt lk dl td K X ds 2)) rfl dX3_setDrift_29 (fun H locs hG => ?_)
      refine lv_aload_n hx hb dX3_setDrift_32 rfl (lv_at hl 0 rfl) ?_
      refine q_get hM hG (C := RX3) (T := TX3) (n := 24) hinX3 0 rfl rfl 17 (by decide) wRX3_76 rfl (v := .int 2) rfl dX3_setDrift_33 ?_
      refine lv_if_le (tgt := 41) hx hb dX3_setDrift_36 (by decide) (fun c9 => False.elim (by revert c9; decide)) (fun _ => ?_)
      refine lv_iconst (v := 0) hx hb dX3_setDrift_39 (by decide) ?_
      exact hRet 0 (2, dr) _ _ _ _ _ _ (⟨Or.inr (Or.inl ⟨rfl, ⟨i, hi, rfl⟩, hp_18⟩), fun h9 => absurd (show (2 : Int32) = 0 from h9) (by decide), fun _ => rfl⟩) hG (Nat.le_of_ble_eq_true rfl) (Nat.le_of_ble_eq_true rfl) dX3_setDrift_40
  · refine lv_if_ne (tgt := 13) hx hb dX3_setDrift_6 (by decide) (fun c9 => False.elim (by revert c9; decide)) (fun _ => ?_)
    refine lv_iconst (v := 1) hx hb dX3_setDrift_9 (by decide) ?_
    refine lv_goto (tgt := 29) hx hb dX3_setDrift_10 (by decide) ?_
    refine q_put hM hG (C := RX3) (T := TX3) (n := 24) hinX3 tyX3 tyX3_ok nmX3 0 rfl rfl 17 (by decide) wRX3_76 rfl rfl rfl (Nat.le_of_ble_eq_true rfl) (ws1 := (mNet g h N tk dom gr va dr off rt cnt lk dl td K X ds 1)) rfl dX3_setDrift_29 (fun H locs hG => ?_)
    refine lv_aload_n hx hb dX3_setDrift_32 rfl (lv_at hl 0 rfl) ?_
    refine q_get hM hG (C := RX3) (T := TX3) (n := 24) hinX3 0 rfl rfl 17 (by decide) wRX3_76 rfl (v := .int 1) rfl dX3_setDrift_33 ?_
    refine lv_if_le (tgt := 41) hx hb dX3_setDrift_36 (by decide) (fun c9 => False.elim (by revert c9; decide)) (fun _ => ?_)
    refine lv_iconst (v := 0) hx hb dX3_setDrift_39 (by decide) ?_
    exact hRet 0 (1, dr) _ _ _ _ _ _ (⟨Or.inl ⟨rfl, hp_3⟩, fun h9 => absurd (show (1 : Int32) = 0 from h9) (by decide), fun _ => rfl⟩) hG (Nat.le_of_ble_eq_true rfl) (Nat.le_of_ble_eq_true rfl) dX3_setDrift_40

set_option maxHeartbeats 4000000 in
set_option maxRecDepth 100000 in
theorem c_X3_setOffset (l : Launch) (g : EN) (h : Nat → Nat) (N : Nat) (tk : Int32) (dom : Nat → Int32) (gr : Nat → Int32) (va : Nat → Int32) (dr : Nat → Int32) (off : Nat → Int64) (rt : Nat → Int64) (cnt : Int32) (lk : Nat → Int32) (dl : Nat → Int32) (td : Nat → Int32) (K : KM) (X : KM) (ds : Nat → Int32) (thr : Int32) (x a : Int32) (hN : N ≤ 10)  : Cl l yX3_setOffset wsX3_setOffset ({ frames := 2, cells := 0, slots := 0, locals := 43 }) g [.ref (h 0), .int x, .int a] (mNet g h N tk dom gr va dr off rt cnt lk dl td K X ds thr) (fun (r : Int64) (u : Int32 × (Nat → Int64)) => cd2 u.1 (okN N x) (inR (-1000000) a 1000000) ∧ (u.1 = 0 → ∃ i, i < N ∧ x = nI i ∧ r = off i ∧ u.2 = vp_updL off i a.toInt64) ∧ (¬ u.1 = 0 → u.2 = off)) (fun (u : Int32 × (Nat → Int64)) => (mNet g h N tk dom gr va dr u.2 rt cnt lk dl td K X ds u.1)) := by
  refine Cl.of (cc := cX3_setOffset) (maxL := 5) (by decide) rfl (Nat.le_of_ble_eq_true rfl) ?_
  intro p e s m args below meth c A Q ls hM hG hRet hl
  have hx := hM.1
  have hb := hM.2.1
  have hown := hM.2.2.2.1
  have hts := hM.2.2.2.2
  have wRX3_76 : Cond.fieldLink RX3 76 "TimeNetModel" "thrown" "I" ∈ wsX3_setOffset := by decide +kernel
  have wRX3_22 : Cond.fieldLink RX3 22 "TimeNetModel" "offsets" "[J" ∈ wsX3_setOffset := by decide +kernel
  have hinX3 : ∀ w ∈ wsX30, w ∈ wsX3_setOffset := by decide +kernel
  have hl : lv_has ls 5 [(0, .ref (h 0)), (1, .int x), (2, .int a)] := hl
  refine lv_aload_n hx hb dX3_setOffset_0 rfl (lv_at hl 0 rfl) ?_
  refine lv_aload_n hx hb dX3_setOffset_1 rfl (lv_at hl 0 rfl) ?_
  refine lv_iload_n hx hb dX3_setOffset_2 rfl (lv_at hl 1 rfl) ?_
  refine q_calli (n := 1) (As := [.int x]) (rest := [.ref (h 0)]) hM hl.1 hG (c_X3_isNode l g h N tk dom gr va dr off rt cnt lk dl td K X ds thr x hN) rfl gX3_setOffset_X3_isNode (by decide +kernel) ⟨Nat.le_of_ble_eq_true rfl, Nat.le_of_ble_eq_true rfl⟩ 0 rfl rfl rfl rfl rfl (Nat.le_of_ble_eq_true rfl) dX3_setOffset_3 (c1 := 0) (s1 := 0) rfl rfl ⟨Nat.le_of_ble_eq_true rfl, Nat.le_of_ble_eq_true rfl⟩ (fun r_3 u_3 H locs hp_3 hG => ?_)
  rcases hp_3 with ⟨rfl, hp_3⟩ | ⟨rfl, hp_3⟩
  · obtain ⟨i, hi, rfl⟩ := hp_3
    have hix : i < 10 := by omega
    refine lv_if_ne (tgt := 13) hx hb dX3_setOffset_6 (by decide) (fun _ => ?_) (fun c9 => False.elim (by revert c9; decide))
    refine lv_iload_n hx hb dX3_setOffset_13 rfl (lv_at hl 2 rfl) ?_
    refine lv_ldc (v := (-1000000)) hx hb hown (hts (.constant RX3 91 (-1000000)) (by decide +kernel)) dX3_setOffset_14 ?_
    refine lv_ldc (v := 1000000) hx hb hown (hts (.constant RX3 92 1000000) (by decide +kernel)) dX3_setOffset_16 ?_
    refine q_callSi (n := 3) (As := [.int a, .int (-1000000), .int 1000000]) (rest := [.ref (h 0)]) hM hl.1 hG (c_X3_in l g h N tk dom gr va dr off rt cnt lk dl td K X ds thr a (-1000000) 1000000) rfl gX3_setOffset_X3_in (by decide +kernel) ⟨Nat.le_of_ble_eq_true rfl, Nat.le_of_ble_eq_true rfl⟩ rfl rfl (Nat.le_of_ble_eq_true rfl) dX3_setOffset_18 (c1 := 0) (s1 := 0) rfl rfl ⟨Nat.le_of_ble_eq_true rfl, Nat.le_of_ble_eq_true rfl⟩ (fun r_18 u_18 H locs hp_18 hG => ?_)
    rcases hp_18 with ⟨rfl, hp_18⟩ | ⟨rfl, hp_18⟩
    · refine lv_if_ne (tgt := 28) hx hb dX3_setOffset_21 (by decide) (fun _ => ?_) (fun c9 => False.elim (by revert c9; decide))
      refine lv_iconst (v := 0) hx hb dX3_setOffset_28 (by decide) ?_
      refine q_put hM hG (C := RX3) (T := TX3) (n := 24) hinX3 tyX3 tyX3_ok nmX3 0 rfl rfl 17 (by decide) wRX3_76 rfl rfl rfl (Nat.le_of_ble_eq_true rfl) (ws1 := (mNet g h N tk dom gr va dr off rt cnt lk dl td K X ds 0)) rfl dX3_setOffset_29 (fun H locs hG => ?_)
      refine lv_aload_n hx hb dX3_setOffset_32 rfl (lv_at hl 0 rfl) ?_
      refine q_get hM hG (C := RX3) (T := TX3) (n := 24) hinX3 0 rfl rfl 17 (by decide) wRX3_76 rfl (v := .int 0) rfl dX3_setOffset_33 ?_
      refine lv_if_le (tgt := 41) hx hb dX3_setOffset_36 (by decide) (fun _ => ?_) (fun c9 => False.elim (by revert c9; decide))
      refine lv_aload_n hx hb dX3_setOffset_41 rfl (lv_at hl 0 rfl) ?_
      refine q_get hM hG (C := RX3) (T := TX3) (n := 24) hinX3 0 rfl rfl 6 (by decide) wRX3_22 rfl (v := .ref (h 5)) rfl dX3_setOffset_42 ?_
      refine lv_iload_n hx hb dX3_setOffset_45 rfl (lv_at hl 1 rfl) ?_
      refine q_lald hM hG 5 rfl hix (by decide) dX3_setOffset_46 ?_
      refine lv_lstore_n (lv' := [(3, .long (off i)), (0, .ref (h 0)), (1, .int (nI i)), (2, .int a)]) hx hb dX3_setOffset_47 rfl hl (by decide) rfl (fun ls hl => ?_)
      refine lv_aload_n hx hb dX3_setOffset_48 rfl (lv_at hl 1 rfl) ?_
      refine q_get hM hG (C := RX3) (T := TX3) (n := 24) hinX3 0 rfl rfl 6 (by decide) wRX3_22 rfl (v := .ref (h 5)) rfl dX3_setOffset_49 ?_
      refine lv_iload_n hx hb dX3_setOffset_52 rfl (lv_at hl 2 rfl) ?_
      refine lv_iload_n hx hb dX3_setOffset_53 rfl (lv_at hl 3 rfl) ?_
      refine lv_i2l hx hb dX3_setOffset_54 rfl ?_
      refine q_last hM hG 5 rfl hix (by decide) (ws1 := (mNet g h N tk dom gr va dr (vp_updL off i a.toInt64) rt cnt lk dl td K X ds 0)) rfl dX3_setOffset_55 (fun H locs hG => ?_)
      refine lv_lload_n hx hb dX3_setOffset_56 rfl (lv_at hl 0 rfl) ?_
      exact hRet (off i) (0, (vp_updL off i a.toInt64)) _ _ _ _ _ _ (⟨Or.inr (Or.inr ⟨rfl, ⟨i, hi, rfl⟩, hp_18⟩), fun _ => ⟨i, hi, rfl, rfl, rfl⟩, fun h9 => absurd rfl h9⟩) hG (Nat.le_of_ble_eq_true rfl) (Nat.le_of_ble_eq_true rfl) dX3_setOffset_57
    · refine lv_if_ne (tgt := 28) hx hb dX3_setOffset_21 (by decide) (fun c9 => False.elim (by revert c9; decide)) (fun _ => ?_)
      refine lv_iconst (v := 2) hx hb dX3_setOffset_24 (by decide) ?_
      refine lv_goto (tgt := 29) hx hb dX3_setOffset_25 (by decide) ?_
      refine q_put hM hG (C := RX3) (T := TX3) (n := 24) hinX3 tyX3 tyX3_ok nmX3 0 rfl rfl 17 (by decide) wRX3_76 rfl rfl rfl (Nat.le_of_ble_eq_true rfl) (ws1 := (mNet g h N tk dom gr va dr off rt cnt lk dl td K X ds 2)) rfl dX3_setOffset_29 (fun H locs hG => ?_)
      refine lv_aload_n hx hb dX3_setOffset_32 rfl (lv_at hl 0 rfl) ?_
      refine q_get hM hG (C := RX3) (T := TX3) (n := 24) hinX3 0 rfl rfl 17 (by decide) wRX3_76 rfl (v := .int 2) rfl dX3_setOffset_33 ?_
      refine lv_if_le (tgt := 41) hx hb dX3_setOffset_36 (by decide) (fun c9 => False.elim (by revert c9; decide)) (fun _ => ?_)
      refine lv_lconst (v := 0) hx hb dX3_setOffset_39 (by decide) ?_
      exact hRet 0 (2, off) _ _ _ _ _ _ (⟨Or.inr (Or.inl ⟨rfl, ⟨i, hi, rfl⟩, hp_18⟩), fun h9 => absurd (show (2 : Int32) = 0 from h9) (by decide), fun _ => rfl⟩) hG (Nat.le_of_ble_eq_true rfl) (Nat.le_of_ble_eq_true rfl) dX3_setOffset_40
  · refine lv_if_ne (tgt := 13) hx hb dX3_setOffset_6 (by decide) (fun c9 => False.elim (by revert c9; decide)) (fun _ => ?_)
    refine lv_iconst (v := 1) hx hb dX3_setOffset_9 (by decide) ?_
    refine lv_goto (tgt := 29) hx hb dX3_setOffset_10 (by decide) ?_
    refine q_put hM hG (C := RX3) (T := TX3) (n := 24) hinX3 tyX3 tyX3_ok nmX3 0 rfl rfl 17 (by decide) wRX3_76 rfl rfl rfl (Nat.le_of_ble_eq_true rfl) (ws1 := (mNet g h N tk dom gr va dr off rt cnt lk dl td K X ds 1)) rfl dX3_setOffset_29 (fun H locs hG => ?_)
    refine lv_aload_n hx hb dX3_setOffset_32 rfl (lv_at hl 0 rfl) ?_
    refine q_get hM hG (C := RX3) (T := TX3) (n := 24) hinX3 0 rfl rfl 17 (by decide) wRX3_76 rfl (v := .int 1) rfl dX3_setOffset_33 ?_
    refine lv_if_le (tgt := 41) hx hb dX3_setOffset_36 (by decide) (fun c9 => False.elim (by revert c9; decide)) (fun _ => ?_)
    refine lv_lconst (v := 0) hx hb dX3_setOffset_39 (by decide) ?_
    exact hRet 0 (1, off) _ _ _ _ _ _ (⟨Or.inl ⟨rfl, hp_3⟩, fun h9 => absurd (show (1 : Int32) = 0 from h9) (by decide), fun _ => rfl⟩) hG (Nat.le_of_ble_eq_true rfl) (Nat.le_of_ble_eq_true rfl) dX3_setOffset_40

set_option maxHeartbeats 4000000 in
set_option maxRecDepth 100000 in
theorem c_X3_link (l : Launch) (g : EN) (h : Nat → Nat) (N : Nat) (tk : Int32) (dom : Nat → Int32) (gr : Nat → Int32) (va : Nat → Int32) (dr : Nat → Int32) (off : Nat → Int64) (rt : Nat → Int64) (cnt : Int32) (lk : Nat → Int32) (dl : Nat → Int32) (td : Nat → Int32) (K : KM) (X : KM) (ds : Nat → Int32) (thr : Int32) (x y a b : Int32) (hN : N ≤ 10) (hlk : b01 lk)  : Ci l yX3_link wsX3_link ({ frames := 2, cells := 0, slots := 0, locals := 43 }) g [.ref (h 0), .int x, .int y, .int a, .int b] (mNet g h N tk dom gr va dr off rt cnt lk dl td K X ds thr) (fun (r : Int32) (u : Int32 × (Nat → Int32) × (Nat → Int32) × (Nat → Int32) × (Int32)) => cd3 u.1 (okN N x ∧ okN N y) (¬ x = y ∧ inR 0 a 100000 ∧ inR 0 b 100000) (¬ lkd lk x y) ∧ (u.1 = 0 → ∃ i j, i < N ∧ j < N ∧ x = nI i ∧ y = nI j ∧ u.2.1 = upd (upd lk (i * 10 + j) 1) (j * 10 + i) 1 ∧ u.2.2.1 = upd (upd dl (i * 10 + j) a) (j * 10 + i) b ∧ u.2.2.2.1 = upd (upd td (i * 10 + j) 0) (j * 10 + i) 0 ∧ u.2.2.2.2 = cnt + 1 ∧ r = cnt + 1) ∧ (¬ u.1 = 0 → u.2.1 = lk ∧ u.2.2.1 = dl ∧ u.2.2.2.1 = td ∧ u.2.2.2.2 = cnt)) (fun (u : Int32 × (Nat → Int32) × (Nat → Int32) × (Nat → Int32) × (Int32)) => (mNet g h N tk dom gr va dr off rt u.2.2.2.2 u.2.1 u.2.2.1 u.2.2.2.1 K X ds u.1)) := by
  refine Ci.of (cc := cX3_link) (maxL := 5) (by decide) rfl (Nat.le_of_ble_eq_true rfl) ?_
  intro p e s m args below meth c A Q ls hM hG hRet hl
  have hx := hM.1
  have hb := hM.2.1
  have hown := hM.2.2.2.1
  have hts := hM.2.2.2.2
  have wRX3_76 : Cond.fieldLink RX3 76 "TimeNetModel" "thrown" "I" ∈ wsX3_link := by decide +kernel
  have wRX3_29 : Cond.fieldLink RX3 29 "TimeNetModel" "isLinked" "[Z" ∈ wsX3_link := by decide +kernel
  have wRX3_33 : Cond.fieldLink RX3 33 "TimeNetModel" "delays" "[I" ∈ wsX3_link := by decide +kernel
  have wRX3_36 : Cond.fieldLink RX3 36 "TimeNetModel" "differences" "[I" ∈ wsX3_link := by decide +kernel
  have wRX3_94 : Cond.fieldLink RX3 94 "TimeNetModel" "linkMany" "I" ∈ wsX3_link := by decide +kernel
  have hinX3 : ∀ w ∈ wsX30, w ∈ wsX3_link := by decide +kernel
  have hl : lv_has ls 5 [(0, .ref (h 0)), (1, .int x), (2, .int y), (3, .int a), (4, .int b)] := hl
  refine lv_aload_n hx hb dX3_link_0 rfl (lv_at hl 0 rfl) ?_
  refine lv_aload_n hx hb dX3_link_1 rfl (lv_at hl 0 rfl) ?_
  refine lv_iload_n hx hb dX3_link_2 rfl (lv_at hl 1 rfl) ?_
  refine q_calli (n := 1) (As := [.int x]) (rest := [.ref (h 0)]) hM hl.1 hG (c_X3_isNode l g h N tk dom gr va dr off rt cnt lk dl td K X ds thr x hN) rfl gX3_link_X3_isNode (by decide +kernel) ⟨Nat.le_of_ble_eq_true rfl, Nat.le_of_ble_eq_true rfl⟩ 0 rfl rfl rfl rfl rfl (Nat.le_of_ble_eq_true rfl) dX3_link_3 (c1 := 0) (s1 := 0) rfl rfl ⟨Nat.le_of_ble_eq_true rfl, Nat.le_of_ble_eq_true rfl⟩ (fun r_3 u_3 H locs hp_3 hG => ?_)
  rcases hp_3 with ⟨rfl, hp_3⟩ | ⟨rfl, hp_3⟩
  · obtain ⟨i, hi, rfl⟩ := hp_3
    have hix : i < 10 := by omega
    refine lv_if_eq (tgt := 17) hx hb dX3_link_6 (by decide) (fun c9 => False.elim (by revert c9; decide)) (fun _ => ?_)
    refine lv_aload_n hx hb dX3_link_9 rfl (lv_at hl 0 rfl) ?_
    refine lv_iload_n hx hb dX3_link_10 rfl (lv_at hl 2 rfl) ?_
    refine q_calli (n := 1) (As := [.int y]) (rest := [.ref (h 0)]) hM hl.1 hG (c_X3_isNode l g h N tk dom gr va dr off rt cnt lk dl td K X ds thr y hN) rfl gX3_link_X3_isNode (by decide +kernel) ⟨Nat.le_of_ble_eq_true rfl, Nat.le_of_ble_eq_true rfl⟩ 0 rfl rfl rfl rfl rfl (Nat.le_of_ble_eq_true rfl) dX3_link_11 (c1 := 0) (s1 := 0) rfl rfl ⟨Nat.le_of_ble_eq_true rfl, Nat.le_of_ble_eq_true rfl⟩ (fun r_11 u_11 H locs hp_11 hG => ?_)
    rcases hp_11 with ⟨rfl, hp_11⟩ | ⟨rfl, hp_11⟩
    · obtain ⟨j, hj, rfl⟩ := hp_11
      have hjx : j < 10 := by omega
      refine lv_if_ne (tgt := 21) hx hb dX3_link_14 (by decide) (fun _ => ?_) (fun c9 => False.elim (by revert c9; decide))
      refine lv_iload_n hx hb dX3_link_21 rfl (lv_at hl 1 rfl) ?_
      refine lv_iload_n hx hb dX3_link_22 rfl (lv_at hl 2 rfl) ?_
      refine lv_icmp_eq (tgt := 47) hx hb dX3_link_23 (by decide) (fun c_23 => ?_) (fun c_23 => ?_)
      · refine lv_iconst (v := 2) hx hb dX3_link_47 (by decide) ?_
        refine lv_goto (tgt := 70) hx hb dX3_link_48 (by decide) ?_
        refine q_put hM hG (C := RX3) (T := TX3) (n := 24) hinX3 tyX3 tyX3_ok nmX3 0 rfl rfl 17 (by decide) wRX3_76 rfl rfl rfl (Nat.le_of_ble_eq_true rfl) (ws1 := (mNet g h N tk dom gr va dr off rt cnt lk dl td K X ds 2)) rfl dX3_link_70 (fun H locs hG => ?_)
        refine lv_aload_n hx hb dX3_link_73 rfl (lv_at hl 0 rfl) ?_
        refine q_get hM hG (C := RX3) (T := TX3) (n := 24) hinX3 0 rfl rfl 17 (by decide) wRX3_76 rfl (v := .int 2) rfl dX3_link_74 ?_
        refine lv_if_le (tgt := 82) hx hb dX3_link_77 (by decide) (fun c9 => False.elim (by revert c9; decide)) (fun _ => ?_)
        refine lv_iconst (v := 0) hx hb dX3_link_80 (by decide) ?_
        exact hRet 0 (2, lk, dl, td, cnt) _ _ _ _ _ _ (⟨Or.inr (Or.inl ⟨rfl, ⟨⟨i, hi, rfl⟩, ⟨j, hj, rfl⟩⟩, fun h9 => h9.1 c_23⟩), fun h9 => absurd (show (2 : Int32) = 0 from h9) (by decide), fun _ => ⟨rfl, rfl, rfl, rfl⟩⟩) hG (Nat.le_of_ble_eq_true rfl) (Nat.le_of_ble_eq_true rfl) dX3_link_81
      · refine lv_iload_n hx hb dX3_link_26 rfl (lv_at hl 3 rfl) ?_
        refine lv_iconst (v := 0) hx hb dX3_link_27 (by decide) ?_
        refine lv_ldc (v := 100000) hx hb hown (hts (.constant RX3 93 100000) (by decide +kernel)) dX3_link_28 ?_
        refine q_callSi (n := 3) (As := [.int a, .int 0, .int 100000]) (rest := [.ref (h 0)]) hM hl.1 hG (c_X3_in l g h N tk dom gr va dr off rt cnt lk dl td K X ds thr a 0 100000) rfl gX3_link_X3_in (by decide +kernel) ⟨Nat.le_of_ble_eq_true rfl, Nat.le_of_ble_eq_true rfl⟩ rfl rfl (Nat.le_of_ble_eq_true rfl) dX3_link_30 (c1 := 0) (s1 := 0) rfl rfl ⟨Nat.le_of_ble_eq_true rfl, Nat.le_of_ble_eq_true rfl⟩ (fun r_30 u_30 H locs hp_30 hG => ?_)
        rcases hp_30 with ⟨rfl, hp_30⟩ | ⟨rfl, hp_30⟩
        · refine lv_if_eq (tgt := 47) hx hb dX3_link_33 (by decide) (fun c9 => False.elim (by revert c9; decide)) (fun _ => ?_)
          refine lv_iload hx hb dX3_link_36 (lv_at hl 4 rfl) ?_
          refine lv_iconst (v := 0) hx hb dX3_link_38 (by decide) ?_
          refine lv_ldc (v := 100000) hx hb hown (hts (.constant RX3 93 100000) (by decide +kernel)) dX3_link_39 ?_
          refine q_callSi (n := 3) (As := [.int b, .int 0, .int 100000]) (rest := [.ref (h 0)]) hM hl.1 hG (c_X3_in l g h N tk dom gr va dr off rt cnt lk dl td K X ds thr b 0 100000) rfl gX3_link_X3_in (by decide +kernel) ⟨Nat.le_of_ble_eq_true rfl, Nat.le_of_ble_eq_true rfl⟩ rfl rfl (Nat.le_of_ble_eq_true rfl) dX3_link_41 (c1 := 0) (s1 := 0) rfl rfl ⟨Nat.le_of_ble_eq_true rfl, Nat.le_of_ble_eq_true rfl⟩ (fun r_41 u_41 H locs hp_41 hG => ?_)
          rcases hp_41 with ⟨rfl, hp_41⟩ | ⟨rfl, hp_41⟩
          · refine lv_if_ne (tgt := 51) hx hb dX3_link_44 (by decide) (fun _ => ?_) (fun c9 => False.elim (by revert c9; decide))
            refine lv_aload_n hx hb dX3_link_51 rfl (lv_at hl 0 rfl) ?_
            refine q_get hM hG (C := RX3) (T := TX3) (n := 24) hinX3 0 rfl rfl 8 (by decide) wRX3_29 rfl (v := .ref (h 7)) rfl dX3_link_52 ?_
            refine lv_bipush (v := 10) hx hb dX3_link_55 (by decide) ?_
            refine lv_iload_n hx hb dX3_link_57 rfl (lv_at hl 1 rfl) ?_
            refine lv_imul hx hb dX3_link_58 ?_
            refine lv_iload_n hx hb dX3_link_59 rfl (lv_at hl 2 rfl) ?_
            refine lv_iadd hx hb dX3_link_60 ?_
            refine q_ren (ix_mul' i j) ?_
            refine q_zald hM hG 7 rfl (by omega) (by decide) dX3_link_61 ?_
            refine lv_if_eq (tgt := 69) hx hb dX3_link_62 (by decide) (fun c_62 => ?_) (fun c_62 => ?_)
            · refine lv_iconst (v := 0) hx hb dX3_link_69 (by decide) ?_
              refine q_put hM hG (C := RX3) (T := TX3) (n := 24) hinX3 tyX3 tyX3_ok nmX3 0 rfl rfl 17 (by decide) wRX3_76 rfl rfl rfl (Nat.le_of_ble_eq_true rfl) (ws1 := (mNet g h N tk dom gr va dr off rt cnt lk dl td K X ds 0)) rfl dX3_link_70 (fun H locs hG => ?_)
              refine lv_aload_n hx hb dX3_link_73 rfl (lv_at hl 0 rfl) ?_
              refine q_get hM hG (C := RX3) (T := TX3) (n := 24) hinX3 0 rfl rfl 17 (by decide) wRX3_76 rfl (v := .int 0) rfl dX3_link_74 ?_
              refine lv_if_le (tgt := 82) hx hb dX3_link_77 (by decide) (fun _ => ?_) (fun c9 => False.elim (by revert c9; decide))
              refine lv_aload_n hx hb dX3_link_82 rfl (lv_at hl 0 rfl) ?_
              refine q_get hM hG (C := RX3) (T := TX3) (n := 24) hinX3 0 rfl rfl 8 (by decide) wRX3_29 rfl (v := .ref (h 7)) rfl dX3_link_83 ?_
              refine lv_bipush (v := 10) hx hb dX3_link_86 (by decide) ?_
              refine lv_iload_n hx hb dX3_link_88 rfl (lv_at hl 1 rfl) ?_
              refine lv_imul hx hb dX3_link_89 ?_
              refine lv_iload_n hx hb dX3_link_90 rfl (lv_at hl 2 rfl) ?_
              refine lv_iadd hx hb dX3_link_91 ?_
              refine q_ren (ix_mul' i j) ?_
              refine lv_iconst (v := 1) hx hb dX3_link_92 (by decide) ?_
              refine q_zast hM hG 7 rfl (by omega) (by decide) (by first | exact Or.inl rfl | exact Or.inr rfl) (ws1 := (mNet g h N tk dom gr va dr off rt cnt (upd lk (i * 10 + j) 1) dl td K X ds 0)) rfl dX3_link_93 (fun H locs hG => ?_)
              refine lv_aload_n hx hb dX3_link_94 rfl (lv_at hl 0 rfl) ?_
              refine q_get hM hG (C := RX3) (T := TX3) (n := 24) hinX3 0 rfl rfl 8 (by decide) wRX3_29 rfl (v := .ref (h 7)) rfl dX3_link_95 ?_
              refine lv_bipush (v := 10) hx hb dX3_link_98 (by decide) ?_
              refine lv_iload_n hx hb dX3_link_100 rfl (lv_at hl 2 rfl) ?_
              refine lv_imul hx hb dX3_link_101 ?_
              refine lv_iload_n hx hb dX3_link_102 rfl (lv_at hl 1 rfl) ?_
              refine lv_iadd hx hb dX3_link_103 ?_
              refine q_ren (ix_mul' j i) ?_
              refine lv_iconst (v := 1) hx hb dX3_link_104 (by decide) ?_
              refine q_zast hM hG 7 rfl (by omega) (by decide) (by first | exact Or.inl rfl | exact Or.inr rfl) (ws1 := (mNet g h N tk dom gr va dr off rt cnt (upd (upd lk (i * 10 + j) 1) (j * 10 + i) 1) dl td K X ds 0)) rfl dX3_link_105 (fun H locs hG => ?_)
              refine lv_aload_n hx hb dX3_link_106 rfl (lv_at hl 0 rfl) ?_
              refine q_get hM hG (C := RX3) (T := TX3) (n := 24) hinX3 0 rfl rfl 9 (by decide) wRX3_33 rfl (v := .ref (h 8)) rfl dX3_link_107 ?_
              refine lv_bipush (v := 10) hx hb dX3_link_110 (by decide) ?_
              refine lv_iload_n hx hb dX3_link_112 rfl (lv_at hl 1 rfl) ?_
              refine lv_imul hx hb dX3_link_113 ?_
              refine lv_iload_n hx hb dX3_link_114 rfl (lv_at hl 2 rfl) ?_
              refine lv_iadd hx hb dX3_link_115 ?_
              refine q_ren (ix_mul' i j) ?_
              refine lv_iload_n hx hb dX3_link_116 rfl (lv_at hl 3 rfl) ?_
              refine q_iast hM hG 8 rfl (by omega) (by decide) (ws1 := (mNet g h N tk dom gr va dr off rt cnt (upd (upd lk (i * 10 + j) 1) (j * 10 + i) 1) (upd dl (i * 10 + j) a) td K X ds 0)) rfl dX3_link_117 (fun H locs hG => ?_)
              refine lv_aload_n hx hb dX3_link_118 rfl (lv_at hl 0 rfl) ?_
              refine q_get hM hG (C := RX3) (T := TX3) (n := 24) hinX3 0 rfl rfl 9 (by decide) wRX3_33 rfl (v := .ref (h 8)) rfl dX3_link_119 ?_
              refine lv_bipush (v := 10) hx hb dX3_link_122 (by decide) ?_
              refine lv_iload_n hx hb dX3_link_124 rfl (lv_at hl 2 rfl) ?_
              refine lv_imul hx hb dX3_link_125 ?_
              refine lv_iload_n hx hb dX3_link_126 rfl (lv_at hl 1 rfl) ?_
              refine lv_iadd hx hb dX3_link_127 ?_
              refine q_ren (ix_mul' j i) ?_
              refine lv_iload hx hb dX3_link_128 (lv_at hl 4 rfl) ?_
              refine q_iast hM hG 8 rfl (by omega) (by decide) (ws1 := (mNet g h N tk dom gr va dr off rt cnt (upd (upd lk (i * 10 + j) 1) (j * 10 + i) 1) (upd (upd dl (i * 10 + j) a) (j * 10 + i) b) td K X ds 0)) rfl dX3_link_130 (fun H locs hG => ?_)
              refine lv_aload_n hx hb dX3_link_131 rfl (lv_at hl 0 rfl) ?_
              refine q_get hM hG (C := RX3) (T := TX3) (n := 24) hinX3 0 rfl rfl 10 (by decide) wRX3_36 rfl (v := .ref (h 9)) rfl dX3_link_132 ?_
              refine lv_bipush (v := 10) hx hb dX3_link_135 (by decide) ?_
              refine lv_iload_n hx hb dX3_link_137 rfl (lv_at hl 1 rfl) ?_
              refine lv_imul hx hb dX3_link_138 ?_
              refine lv_iload_n hx hb dX3_link_139 rfl (lv_at hl 2 rfl) ?_
              refine lv_iadd hx hb dX3_link_140 ?_
              refine q_ren (ix_mul' i j) ?_
              refine lv_iconst (v := 0) hx hb dX3_link_141 (by decide) ?_
              refine q_iast hM hG 9 rfl (by omega) (by decide) (ws1 := (mNet g h N tk dom gr va dr off rt cnt (upd (upd lk (i * 10 + j) 1) (j * 10 + i) 1) (upd (upd dl (i * 10 + j) a) (j * 10 + i) b) (upd td (i * 10 + j) 0) K X ds 0)) rfl dX3_link_142 (fun H locs hG => ?_)
              refine lv_aload_n hx hb dX3_link_143 rfl (lv_at hl 0 rfl) ?_
              refine q_get hM hG (C := RX3) (T := TX3) (n := 24) hinX3 0 rfl rfl 10 (by decide) wRX3_36 rfl (v := .ref (h 9)) rfl dX3_link_144 ?_
              refine lv_bipush (v := 10) hx hb dX3_link_147 (by decide) ?_
              refine lv_iload_n hx hb dX3_link_149 rfl (lv_at hl 2 rfl) ?_
              refine lv_imul hx hb dX3_link_150 ?_
              refine lv_iload_n hx hb dX3_link_151 rfl (lv_at hl 1 rfl) ?_
              refine lv_iadd hx hb dX3_link_152 ?_
              refine q_ren (ix_mul' j i) ?_
              refine lv_iconst (v := 0) hx hb dX3_link_153 (by decide) ?_
              refine q_iast hM hG 9 rfl (by omega) (by decide) (ws1 := (mNet g h N tk dom gr va dr off rt cnt (upd (upd lk (i * 10 + j) 1) (j * 10 + i) 1) (upd (upd dl (i * 10 + j) a) (j * 10 + i) b) (upd (upd td (i * 10 + j) 0) (j * 10 + i) 0) K X ds 0)) rfl dX3_link_154 (fun H locs hG => ?_)
              refine lv_aload_n hx hb dX3_link_155 rfl (lv_at hl 0 rfl) ?_
              refine lv_dup hx hb dX3_link_156 rfl ?_
              refine q_get hM hG (C := RX3) (T := TX3) (n := 24) hinX3 0 rfl rfl 1 (by decide) wRX3_94 rfl (v := .int cnt) rfl dX3_link_157 ?_
              refine lv_iconst (v := 1) hx hb dX3_link_160 (by decide) ?_
              refine lv_iadd hx hb dX3_link_161 ?_
              refine q_put hM hG (C := RX3) (T := TX3) (n := 24) hinX3 tyX3 tyX3_ok nmX3 0 rfl rfl 1 (by decide) wRX3_94 rfl rfl rfl (Nat.le_of_ble_eq_true rfl) (ws1 := (mNet g h N tk dom gr va dr off rt (cnt + 1) (upd (upd lk (i * 10 + j) 1) (j * 10 + i) 1) (upd (upd dl (i * 10 + j) a) (j * 10 + i) b) (upd (upd td (i * 10 + j) 0) (j * 10 + i) 0) K X ds 0)) rfl dX3_link_162 (fun H locs hG => ?_)
              refine lv_aload_n hx hb dX3_link_165 rfl (lv_at hl 0 rfl) ?_
              refine q_get hM hG (C := RX3) (T := TX3) (n := 24) hinX3 0 rfl rfl 1 (by decide) wRX3_94 rfl (v := .int (cnt + 1)) rfl dX3_link_166 ?_
              exact hRet (cnt + 1) (0, (upd (upd lk (i * 10 + j) 1) (j * 10 + i) 1), (upd (upd dl (i * 10 + j) a) (j * 10 + i) b), (upd (upd td (i * 10 + j) 0) (j * 10 + i) 0), (cnt + 1)) _ _ _ _ _ _ (⟨Or.inr (Or.inr (Or.inr ⟨rfl, ⟨⟨i, hi, rfl⟩, ⟨j, hj, rfl⟩⟩, ⟨c_23, hp_30, hp_41⟩, (fun h9 => absurd ((lkd_n hix hjx).mp h9) (by rw [c_62]; decide))⟩)), fun _ => ⟨i, j, hi, hj, rfl, rfl, rfl, rfl, rfl, rfl, rfl⟩, fun h9 => absurd rfl h9⟩) hG (Nat.le_of_ble_eq_true rfl) (Nat.le_of_ble_eq_true rfl) dX3_link_169
            · refine lv_iconst (v := 3) hx hb dX3_link_65 (by decide) ?_
              refine lv_goto (tgt := 70) hx hb dX3_link_66 (by decide) ?_
              refine q_put hM hG (C := RX3) (T := TX3) (n := 24) hinX3 tyX3 tyX3_ok nmX3 0 rfl rfl 17 (by decide) wRX3_76 rfl rfl rfl (Nat.le_of_ble_eq_true rfl) (ws1 := (mNet g h N tk dom gr va dr off rt cnt lk dl td K X ds 3)) rfl dX3_link_70 (fun H locs hG => ?_)
              refine lv_aload_n hx hb dX3_link_73 rfl (lv_at hl 0 rfl) ?_
              refine q_get hM hG (C := RX3) (T := TX3) (n := 24) hinX3 0 rfl rfl 17 (by decide) wRX3_76 rfl (v := .int 3) rfl dX3_link_74 ?_
              refine lv_if_le (tgt := 82) hx hb dX3_link_77 (by decide) (fun c9 => False.elim (by revert c9; decide)) (fun _ => ?_)
              refine lv_iconst (v := 0) hx hb dX3_link_80 (by decide) ?_
              exact hRet 0 (3, lk, dl, td, cnt) _ _ _ _ _ _ (⟨Or.inr (Or.inr (Or.inl ⟨rfl, ⟨⟨i, hi, rfl⟩, ⟨j, hj, rfl⟩⟩, ⟨c_23, hp_30, hp_41⟩, fun h9 => h9 ((lkd_n hix hjx).mpr ((hlk _).resolve_left c_62))⟩)), fun h9 => absurd (show (3 : Int32) = 0 from h9) (by decide), fun _ => ⟨rfl, rfl, rfl, rfl⟩⟩) hG (Nat.le_of_ble_eq_true rfl) (Nat.le_of_ble_eq_true rfl) dX3_link_81
          · refine lv_if_ne (tgt := 51) hx hb dX3_link_44 (by decide) (fun c9 => False.elim (by revert c9; decide)) (fun _ => ?_)
            refine lv_iconst (v := 2) hx hb dX3_link_47 (by decide) ?_
            refine lv_goto (tgt := 70) hx hb dX3_link_48 (by decide) ?_
            refine q_put hM hG (C := RX3) (T := TX3) (n := 24) hinX3 tyX3 tyX3_ok nmX3 0 rfl rfl 17 (by decide) wRX3_76 rfl rfl rfl (Nat.le_of_ble_eq_true rfl) (ws1 := (mNet g h N tk dom gr va dr off rt cnt lk dl td K X ds 2)) rfl dX3_link_70 (fun H locs hG => ?_)
            refine lv_aload_n hx hb dX3_link_73 rfl (lv_at hl 0 rfl) ?_
            refine q_get hM hG (C := RX3) (T := TX3) (n := 24) hinX3 0 rfl rfl 17 (by decide) wRX3_76 rfl (v := .int 2) rfl dX3_link_74 ?_
            refine lv_if_le (tgt := 82) hx hb dX3_link_77 (by decide) (fun c9 => False.elim (by revert c9; decide)) (fun _ => ?_)
            refine lv_iconst (v := 0) hx hb dX3_link_80 (by decide) ?_
            exact hRet 0 (2, lk, dl, td, cnt) _ _ _ _ _ _ (⟨Or.inr (Or.inl ⟨rfl, ⟨⟨i, hi, rfl⟩, ⟨j, hj, rfl⟩⟩, fun h9 => hp_41 h9.2.2⟩), fun h9 => absurd (show (2 : Int32) = 0 from h9) (by decide), fun _ => ⟨rfl, rfl, rfl, rfl⟩⟩) hG (Nat.le_of_ble_eq_true rfl) (Nat.le_of_ble_eq_true rfl) dX3_link_81
        · refine lv_if_eq (tgt := 47) hx hb dX3_link_33 (by decide) (fun _ => ?_) (fun c9 => False.elim (by revert c9; decide))
          refine lv_iconst (v := 2) hx hb dX3_link_47 (by decide) ?_
          refine lv_goto (tgt := 70) hx hb dX3_link_48 (by decide) ?_
          refine q_put hM hG (C := RX3) (T := TX3) (n := 24) hinX3 tyX3 tyX3_ok nmX3 0 rfl rfl 17 (by decide) wRX3_76 rfl rfl rfl (Nat.le_of_ble_eq_true rfl) (ws1 := (mNet g h N tk dom gr va dr off rt cnt lk dl td K X ds 2)) rfl dX3_link_70 (fun H locs hG => ?_)
          refine lv_aload_n hx hb dX3_link_73 rfl (lv_at hl 0 rfl) ?_
          refine q_get hM hG (C := RX3) (T := TX3) (n := 24) hinX3 0 rfl rfl 17 (by decide) wRX3_76 rfl (v := .int 2) rfl dX3_link_74 ?_
          refine lv_if_le (tgt := 82) hx hb dX3_link_77 (by decide) (fun c9 => False.elim (by revert c9; decide)) (fun _ => ?_)
          refine lv_iconst (v := 0) hx hb dX3_link_80 (by decide) ?_
          exact hRet 0 (2, lk, dl, td, cnt) _ _ _ _ _ _ (⟨Or.inr (Or.inl ⟨rfl, ⟨⟨i, hi, rfl⟩, ⟨j, hj, rfl⟩⟩, fun h9 => hp_30 h9.2.1⟩), fun h9 => absurd (show (2 : Int32) = 0 from h9) (by decide), fun _ => ⟨rfl, rfl, rfl, rfl⟩⟩) hG (Nat.le_of_ble_eq_true rfl) (Nat.le_of_ble_eq_true rfl) dX3_link_81
    · refine lv_if_ne (tgt := 21) hx hb dX3_link_14 (by decide) (fun c9 => False.elim (by revert c9; decide)) (fun _ => ?_)
      refine lv_iconst (v := 1) hx hb dX3_link_17 (by decide) ?_
      refine lv_goto (tgt := 70) hx hb dX3_link_18 (by decide) ?_
      refine q_put hM hG (C := RX3) (T := TX3) (n := 24) hinX3 tyX3 tyX3_ok nmX3 0 rfl rfl 17 (by decide) wRX3_76 rfl rfl rfl (Nat.le_of_ble_eq_true rfl) (ws1 := (mNet g h N tk dom gr va dr off rt cnt lk dl td K X ds 1)) rfl dX3_link_70 (fun H locs hG => ?_)
      refine lv_aload_n hx hb dX3_link_73 rfl (lv_at hl 0 rfl) ?_
      refine q_get hM hG (C := RX3) (T := TX3) (n := 24) hinX3 0 rfl rfl 17 (by decide) wRX3_76 rfl (v := .int 1) rfl dX3_link_74 ?_
      refine lv_if_le (tgt := 82) hx hb dX3_link_77 (by decide) (fun c9 => False.elim (by revert c9; decide)) (fun _ => ?_)
      refine lv_iconst (v := 0) hx hb dX3_link_80 (by decide) ?_
      exact hRet 0 (1, lk, dl, td, cnt) _ _ _ _ _ _ (⟨Or.inl ⟨rfl, fun h9 => hp_11 h9.2⟩, fun h9 => absurd (show (1 : Int32) = 0 from h9) (by decide), fun _ => ⟨rfl, rfl, rfl, rfl⟩⟩) hG (Nat.le_of_ble_eq_true rfl) (Nat.le_of_ble_eq_true rfl) dX3_link_81
  · refine lv_if_eq (tgt := 17) hx hb dX3_link_6 (by decide) (fun _ => ?_) (fun c9 => False.elim (by revert c9; decide))
    refine lv_iconst (v := 1) hx hb dX3_link_17 (by decide) ?_
    refine lv_goto (tgt := 70) hx hb dX3_link_18 (by decide) ?_
    refine q_put hM hG (C := RX3) (T := TX3) (n := 24) hinX3 tyX3 tyX3_ok nmX3 0 rfl rfl 17 (by decide) wRX3_76 rfl rfl rfl (Nat.le_of_ble_eq_true rfl) (ws1 := (mNet g h N tk dom gr va dr off rt cnt lk dl td K X ds 1)) rfl dX3_link_70 (fun H locs hG => ?_)
    refine lv_aload_n hx hb dX3_link_73 rfl (lv_at hl 0 rfl) ?_
    refine q_get hM hG (C := RX3) (T := TX3) (n := 24) hinX3 0 rfl rfl 17 (by decide) wRX3_76 rfl (v := .int 1) rfl dX3_link_74 ?_
    refine lv_if_le (tgt := 82) hx hb dX3_link_77 (by decide) (fun c9 => False.elim (by revert c9; decide)) (fun _ => ?_)
    refine lv_iconst (v := 0) hx hb dX3_link_80 (by decide) ?_
    exact hRet 0 (1, lk, dl, td, cnt) _ _ _ _ _ _ (⟨Or.inl ⟨rfl, fun h9 => hp_3 h9.1⟩, fun h9 => absurd (show (1 : Int32) = 0 from h9) (by decide), fun _ => ⟨rfl, rfl, rfl, rfl⟩⟩) hG (Nat.le_of_ble_eq_true rfl) (Nat.le_of_ble_eq_true rfl) dX3_link_81

set_option maxHeartbeats 4000000 in
set_option maxRecDepth 100000 in
theorem c_X3_cut (l : Launch) (g : EN) (h : Nat → Nat) (N : Nat) (tk : Int32) (dom : Nat → Int32) (gr : Nat → Int32) (va : Nat → Int32) (dr : Nat → Int32) (off : Nat → Int64) (rt : Nat → Int64) (cnt : Int32) (lk : Nat → Int32) (dl : Nat → Int32) (td : Nat → Int32) (K : KM) (X : KM) (ds : Nat → Int32) (thr : Int32) (x y : Int32) (hN : N ≤ 10) (hlk : b01 lk)  : Ci l yX3_cut wsX3_cut ({ frames := 2, cells := 0, slots := 0, locals := 43 }) g [.ref (h 0), .int x, .int y] (mNet g h N tk dom gr va dr off rt cnt lk dl td K X ds thr) (fun (r : Int32) (u : Int32 × (Nat → Int32) × (Int32) × (KM)) => cd2 u.1 (okN N x ∧ okN N y) (lkd lk x y) ∧ (u.1 = 0 → ∃ i j, i < N ∧ j < N ∧ x = nI i ∧ y = nI j ∧ u.2.1 = upd (upd lk (i * 10 + j) 0) (j * 10 + i) 0 ∧ u.2.2.1 = cnt - 1 ∧ u.2.2.2 = mfp gr va (mfp gr va K i j) j i ∧ r = cnt - 1) ∧ (¬ u.1 = 0 → u.2.1 = lk ∧ u.2.2.1 = cnt ∧ u.2.2.2 = K)) (fun (u : Int32 × (Nat → Int32) × (Int32) × (KM)) => (mNet g h N tk dom gr va dr off rt u.2.2.1 u.2.1 dl td u.2.2.2 X ds u.1)) := by
  refine Ci.of (cc := cX3_cut) (maxL := 3) (by decide) rfl (Nat.le_of_ble_eq_true rfl) ?_
  intro p e s m args below meth c A Q ls hM hG hRet hl
  have hx := hM.1
  have hb := hM.2.1
  have hown := hM.2.2.2.1
  have hts := hM.2.2.2.2
  have wRX3_29 : Cond.fieldLink RX3 29 "TimeNetModel" "isLinked" "[Z" ∈ wsX3_cut := by decide +kernel
  have wRX3_76 : Cond.fieldLink RX3 76 "TimeNetModel" "thrown" "I" ∈ wsX3_cut := by decide +kernel
  have wRX3_51 : Cond.fieldLink RX3 51 "TimeNetModel" "parents" "[I" ∈ wsX3_cut := by decide +kernel
  have wRX3_94 : Cond.fieldLink RX3 94 "TimeNetModel" "linkMany" "I" ∈ wsX3_cut := by decide +kernel
  have hinX3 : ∀ w ∈ wsX30, w ∈ wsX3_cut := by decide +kernel
  have hl : lv_has ls 3 [(0, .ref (h 0)), (1, .int x), (2, .int y)] := hl
  refine lv_aload_n hx hb dX3_cut_0 rfl (lv_at hl 0 rfl) ?_
  refine lv_aload_n hx hb dX3_cut_1 rfl (lv_at hl 0 rfl) ?_
  refine lv_iload_n hx hb dX3_cut_2 rfl (lv_at hl 1 rfl) ?_
  refine q_calli (n := 1) (As := [.int x]) (rest := [.ref (h 0)]) hM hl.1 hG (c_X3_isNode l g h N tk dom gr va dr off rt cnt lk dl td K X ds thr x hN) rfl gX3_cut_X3_isNode (by decide +kernel) ⟨Nat.le_of_ble_eq_true rfl, Nat.le_of_ble_eq_true rfl⟩ 0 rfl rfl rfl rfl rfl (Nat.le_of_ble_eq_true rfl) dX3_cut_3 (c1 := 0) (s1 := 0) rfl rfl ⟨Nat.le_of_ble_eq_true rfl, Nat.le_of_ble_eq_true rfl⟩ (fun r_3 u_3 H locs hp_3 hG => ?_)
  rcases hp_3 with ⟨rfl, hp_3⟩ | ⟨rfl, hp_3⟩
  · obtain ⟨i, hi, rfl⟩ := hp_3
    have hix : i < 10 := by omega
    refine lv_if_eq (tgt := 17) hx hb dX3_cut_6 (by decide) (fun c9 => False.elim (by revert c9; decide)) (fun _ => ?_)
    refine lv_aload_n hx hb dX3_cut_9 rfl (lv_at hl 0 rfl) ?_
    refine lv_iload_n hx hb dX3_cut_10 rfl (lv_at hl 2 rfl) ?_
    refine q_calli (n := 1) (As := [.int y]) (rest := [.ref (h 0)]) hM hl.1 hG (c_X3_isNode l g h N tk dom gr va dr off rt cnt lk dl td K X ds thr y hN) rfl gX3_cut_X3_isNode (by decide +kernel) ⟨Nat.le_of_ble_eq_true rfl, Nat.le_of_ble_eq_true rfl⟩ 0 rfl rfl rfl rfl rfl (Nat.le_of_ble_eq_true rfl) dX3_cut_11 (c1 := 0) (s1 := 0) rfl rfl ⟨Nat.le_of_ble_eq_true rfl, Nat.le_of_ble_eq_true rfl⟩ (fun r_11 u_11 H locs hp_11 hG => ?_)
    rcases hp_11 with ⟨rfl, hp_11⟩ | ⟨rfl, hp_11⟩
    · obtain ⟨j, hj, rfl⟩ := hp_11
      have hjx : j < 10 := by omega
      refine lv_if_ne (tgt := 21) hx hb dX3_cut_14 (by decide) (fun _ => ?_) (fun c9 => False.elim (by revert c9; decide))
      refine lv_aload_n hx hb dX3_cut_21 rfl (lv_at hl 0 rfl) ?_
      refine q_get hM hG (C := RX3) (T := TX3) (n := 24) hinX3 0 rfl rfl 8 (by decide) wRX3_29 rfl (v := .ref (h 7)) rfl dX3_cut_22 ?_
      refine lv_bipush (v := 10) hx hb dX3_cut_25 (by decide) ?_
      refine lv_iload_n hx hb dX3_cut_27 rfl (lv_at hl 1 rfl) ?_
      refine lv_imul hx hb dX3_cut_28 ?_
      refine lv_iload_n hx hb dX3_cut_29 rfl (lv_at hl 2 rfl) ?_
      refine lv_iadd hx hb dX3_cut_30 ?_
      refine q_ren (ix_mul' i j) ?_
      refine q_zald hM hG 7 rfl (by omega) (by decide) dX3_cut_31 ?_
      refine lv_if_ne (tgt := 39) hx hb dX3_cut_32 (by decide) (fun c_32 => ?_) (fun c_32 => ?_)
      · refine lv_iconst (v := 0) hx hb dX3_cut_39 (by decide) ?_
        refine q_put hM hG (C := RX3) (T := TX3) (n := 24) hinX3 tyX3 tyX3_ok nmX3 0 rfl rfl 17 (by decide) wRX3_76 rfl rfl rfl (Nat.le_of_ble_eq_true rfl) (ws1 := (mNet g h N tk dom gr va dr off rt cnt lk dl td K X ds 0)) rfl dX3_cut_40 (fun H locs hG => ?_)
        refine lv_aload_n hx hb dX3_cut_43 rfl (lv_at hl 0 rfl) ?_
        refine q_get hM hG (C := RX3) (T := TX3) (n := 24) hinX3 0 rfl rfl 17 (by decide) wRX3_76 rfl (v := .int 0) rfl dX3_cut_44 ?_
        refine lv_if_le (tgt := 52) hx hb dX3_cut_47 (by decide) (fun _ => ?_) (fun c9 => False.elim (by revert c9; decide))
        refine lv_aload_n hx hb dX3_cut_52 rfl (lv_at hl 0 rfl) ?_
        refine q_get hM hG (C := RX3) (T := TX3) (n := 24) hinX3 0 rfl rfl 8 (by decide) wRX3_29 rfl (v := .ref (h 7)) rfl dX3_cut_53 ?_
        refine lv_bipush (v := 10) hx hb dX3_cut_56 (by decide) ?_
        refine lv_iload_n hx hb dX3_cut_58 rfl (lv_at hl 1 rfl) ?_
        refine lv_imul hx hb dX3_cut_59 ?_
        refine lv_iload_n hx hb dX3_cut_60 rfl (lv_at hl 2 rfl) ?_
        refine lv_iadd hx hb dX3_cut_61 ?_
        refine q_ren (ix_mul' i j) ?_
        refine lv_iconst (v := 0) hx hb dX3_cut_62 (by decide) ?_
        refine q_zast hM hG 7 rfl (by omega) (by decide) (by first | exact Or.inl rfl | exact Or.inr rfl) (ws1 := (mNet g h N tk dom gr va dr off rt cnt (upd lk (i * 10 + j) 0) dl td K X ds 0)) rfl dX3_cut_63 (fun H locs hG => ?_)
        refine lv_aload_n hx hb dX3_cut_64 rfl (lv_at hl 0 rfl) ?_
        refine q_get hM hG (C := RX3) (T := TX3) (n := 24) hinX3 0 rfl rfl 8 (by decide) wRX3_29 rfl (v := .ref (h 7)) rfl dX3_cut_65 ?_
        refine lv_bipush (v := 10) hx hb dX3_cut_68 (by decide) ?_
        refine lv_iload_n hx hb dX3_cut_70 rfl (lv_at hl 2 rfl) ?_
        refine lv_imul hx hb dX3_cut_71 ?_
        refine lv_iload_n hx hb dX3_cut_72 rfl (lv_at hl 1 rfl) ?_
        refine lv_iadd hx hb dX3_cut_73 ?_
        refine q_ren (ix_mul' j i) ?_
        refine lv_iconst (v := 0) hx hb dX3_cut_74 (by decide) ?_
        refine q_zast hM hG 7 rfl (by omega) (by decide) (by first | exact Or.inl rfl | exact Or.inr rfl) (ws1 := (mNet g h N tk dom gr va dr off rt cnt (upd (upd lk (i * 10 + j) 0) (j * 10 + i) 0) dl td K X ds 0)) rfl dX3_cut_75 (fun H locs hG => ?_)
        refine lv_aload_n hx hb dX3_cut_76 rfl (lv_at hl 0 rfl) ?_
        refine q_get hM hG (C := RX3) (T := TX3) (n := 24) hinX3 0 rfl rfl 15 (by decide) wRX3_51 rfl (v := .ref (h 14)) rfl dX3_cut_77 ?_
        refine lv_iload_n hx hb dX3_cut_80 rfl (lv_at hl 1 rfl) ?_
        refine q_iald hM hG 14 rfl hix (by decide) dX3_cut_81 ?_
        refine lv_iload_n hx hb dX3_cut_82 rfl (lv_at hl 2 rfl) ?_
        refine lv_icmp_ne (tgt := 91) hx hb dX3_cut_83 (by decide) (fun c_83 => ?_) (fun c_83 => ?_)
        · refine lv_aload_n hx hb dX3_cut_91 rfl (lv_at hl 0 rfl) ?_
          refine q_get hM hG (C := RX3) (T := TX3) (n := 24) hinX3 0 rfl rfl 15 (by decide) wRX3_51 rfl (v := .ref (h 14)) rfl dX3_cut_92 ?_
          refine lv_iload_n hx hb dX3_cut_95 rfl (lv_at hl 2 rfl) ?_
          refine q_iald hM hG 14 rfl hjx (by decide) dX3_cut_96 ?_
          refine lv_iload_n hx hb dX3_cut_97 rfl (lv_at hl 1 rfl) ?_
          refine lv_icmp_ne (tgt := 106) hx hb dX3_cut_98 (by decide) (fun c_98 => ?_) (fun c_98 => ?_)
          · refine lv_aload_n hx hb dX3_cut_106 rfl (lv_at hl 0 rfl) ?_
            refine lv_dup hx hb dX3_cut_107 rfl ?_
            refine q_get hM hG (C := RX3) (T := TX3) (n := 24) hinX3 0 rfl rfl 1 (by decide) wRX3_94 rfl (v := .int cnt) rfl dX3_cut_108 ?_
            refine lv_iconst (v := 1) hx hb dX3_cut_111 (by decide) ?_
            refine lv_isub hx hb dX3_cut_112 ?_
            refine q_put hM hG (C := RX3) (T := TX3) (n := 24) hinX3 tyX3 tyX3_ok nmX3 0 rfl rfl 1 (by decide) wRX3_94 rfl rfl rfl (Nat.le_of_ble_eq_true rfl) (ws1 := (mNet g h N tk dom gr va dr off rt (cnt - 1) (upd (upd lk (i * 10 + j) 0) (j * 10 + i) 0) dl td K X ds 0)) rfl dX3_cut_113 (fun H locs hG => ?_)
            refine lv_aload_n hx hb dX3_cut_116 rfl (lv_at hl 0 rfl) ?_
            refine q_get hM hG (C := RX3) (T := TX3) (n := 24) hinX3 0 rfl rfl 1 (by decide) wRX3_94 rfl (v := .int (cnt - 1)) rfl dX3_cut_117 ?_
            exact hRet (cnt - 1) (0, (upd (upd lk (i * 10 + j) 0) (j * 10 + i) 0), (cnt - 1), K) _ _ _ _ _ _ (⟨Or.inr (Or.inr ⟨rfl, ⟨⟨i, hi, rfl⟩, ⟨j, hj, rfl⟩⟩, ((lkd_n hix hjx).mpr ((hlk _).resolve_left c_32))⟩), fun _ => ⟨i, j, hi, hj, rfl, rfl, rfl, rfl, by have e1 : K = mfp gr va K i j := (if_neg c_83).symm; rw [← e1]; exact (if_neg c_98).symm, rfl⟩, fun h9 => absurd rfl h9⟩) hG (Nat.le_of_ble_eq_true rfl) (Nat.le_of_ble_eq_true rfl) dX3_cut_120
          · refine lv_aload_n hx hb dX3_cut_101 rfl (lv_at hl 0 rfl) ?_
            refine lv_iload_n hx hb dX3_cut_102 rfl (lv_at hl 2 rfl) ?_
            refine q_callv (n := 1) (As := [.int (nI j)]) (rest := []) hM hl.1 hG (c_X3_knowItself l g h N tk dom gr va dr off rt cnt (upd (upd lk (i * 10 + j) 0) (j * 10 + i) 0) dl td K X ds 0 j hjx) rfl gX3_cut_X3_knowItself (by decide +kernel) ⟨Nat.le_of_ble_eq_true rfl, Nat.le_of_ble_eq_true rfl⟩ 0 rfl rfl rfl rfl rfl (Nat.le_of_ble_eq_true rfl) dX3_cut_103 (c1 := 0) (s1 := 0) rfl rfl ⟨Nat.le_of_ble_eq_true rfl, Nat.le_of_ble_eq_true rfl⟩ (fun u_103 H locs hp_103 hG => ?_)
            refine lv_aload_n hx hb dX3_cut_106 rfl (lv_at hl 0 rfl) ?_
            refine lv_dup hx hb dX3_cut_107 rfl ?_
            refine q_get hM hG (C := RX3) (T := TX3) (n := 24) hinX3 0 rfl rfl 1 (by decide) wRX3_94 rfl (v := .int cnt) rfl dX3_cut_108 ?_
            refine lv_iconst (v := 1) hx hb dX3_cut_111 (by decide) ?_
            refine lv_isub hx hb dX3_cut_112 ?_
            refine q_put hM hG (C := RX3) (T := TX3) (n := 24) hinX3 tyX3 tyX3_ok nmX3 0 rfl rfl 1 (by decide) wRX3_94 rfl rfl rfl (Nat.le_of_ble_eq_true rfl) (ws1 := (mNet g h N tk dom gr va dr off rt (cnt - 1) (upd (upd lk (i * 10 + j) 0) (j * 10 + i) 0) dl td u_103 X ds 0)) rfl dX3_cut_113 (fun H locs hG => ?_)
            refine lv_aload_n hx hb dX3_cut_116 rfl (lv_at hl 0 rfl) ?_
            refine q_get hM hG (C := RX3) (T := TX3) (n := 24) hinX3 0 rfl rfl 1 (by decide) wRX3_94 rfl (v := .int (cnt - 1)) rfl dX3_cut_117 ?_
            exact hRet (cnt - 1) (0, (upd (upd lk (i * 10 + j) 0) (j * 10 + i) 0), (cnt - 1), u_103) _ _ _ _ _ _ (⟨Or.inr (Or.inr ⟨rfl, ⟨⟨i, hi, rfl⟩, ⟨j, hj, rfl⟩⟩, ((lkd_n hix hjx).mpr ((hlk _).resolve_left c_32))⟩), fun _ => ⟨i, j, hi, hj, rfl, rfl, rfl, rfl, by have e1 : K = mfp gr va K i j := (if_neg c_83).symm; rw [← e1]; exact hp_103.trans (if_pos c_98).symm, rfl⟩, fun h9 => absurd rfl h9⟩) hG (Nat.le_of_ble_eq_true rfl) (Nat.le_of_ble_eq_true rfl) dX3_cut_120
        · refine lv_aload_n hx hb dX3_cut_86 rfl (lv_at hl 0 rfl) ?_
          refine lv_iload_n hx hb dX3_cut_87 rfl (lv_at hl 1 rfl) ?_
          refine q_callv (n := 1) (As := [.int (nI i)]) (rest := []) hM hl.1 hG (c_X3_knowItself l g h N tk dom gr va dr off rt cnt (upd (upd lk (i * 10 + j) 0) (j * 10 + i) 0) dl td K X ds 0 i hix) rfl gX3_cut_X3_knowItself (by decide +kernel) ⟨Nat.le_of_ble_eq_true rfl, Nat.le_of_ble_eq_true rfl⟩ 0 rfl rfl rfl rfl rfl (Nat.le_of_ble_eq_true rfl) dX3_cut_88 (c1 := 0) (s1 := 0) rfl rfl ⟨Nat.le_of_ble_eq_true rfl, Nat.le_of_ble_eq_true rfl⟩ (fun u_88 H locs hp_88 hG => ?_)
          refine lv_aload_n hx hb dX3_cut_91 rfl (lv_at hl 0 rfl) ?_
          refine q_get hM hG (C := RX3) (T := TX3) (n := 24) hinX3 0 rfl rfl 15 (by decide) wRX3_51 rfl (v := .ref (h 14)) rfl dX3_cut_92 ?_
          refine lv_iload_n hx hb dX3_cut_95 rfl (lv_at hl 2 rfl) ?_
          refine q_iald hM hG 14 rfl hjx (by decide) dX3_cut_96 ?_
          refine lv_iload_n hx hb dX3_cut_97 rfl (lv_at hl 1 rfl) ?_
          refine lv_icmp_ne (tgt := 106) hx hb dX3_cut_98 (by decide) (fun c_98 => ?_) (fun c_98 => ?_)
          · refine lv_aload_n hx hb dX3_cut_106 rfl (lv_at hl 0 rfl) ?_
            refine lv_dup hx hb dX3_cut_107 rfl ?_
            refine q_get hM hG (C := RX3) (T := TX3) (n := 24) hinX3 0 rfl rfl 1 (by decide) wRX3_94 rfl (v := .int cnt) rfl dX3_cut_108 ?_
            refine lv_iconst (v := 1) hx hb dX3_cut_111 (by decide) ?_
            refine lv_isub hx hb dX3_cut_112 ?_
            refine q_put hM hG (C := RX3) (T := TX3) (n := 24) hinX3 tyX3 tyX3_ok nmX3 0 rfl rfl 1 (by decide) wRX3_94 rfl rfl rfl (Nat.le_of_ble_eq_true rfl) (ws1 := (mNet g h N tk dom gr va dr off rt (cnt - 1) (upd (upd lk (i * 10 + j) 0) (j * 10 + i) 0) dl td u_88 X ds 0)) rfl dX3_cut_113 (fun H locs hG => ?_)
            refine lv_aload_n hx hb dX3_cut_116 rfl (lv_at hl 0 rfl) ?_
            refine q_get hM hG (C := RX3) (T := TX3) (n := 24) hinX3 0 rfl rfl 1 (by decide) wRX3_94 rfl (v := .int (cnt - 1)) rfl dX3_cut_117 ?_
            exact hRet (cnt - 1) (0, (upd (upd lk (i * 10 + j) 0) (j * 10 + i) 0), (cnt - 1), u_88) _ _ _ _ _ _ (⟨Or.inr (Or.inr ⟨rfl, ⟨⟨i, hi, rfl⟩, ⟨j, hj, rfl⟩⟩, ((lkd_n hix hjx).mpr ((hlk _).resolve_left c_32))⟩), fun _ => ⟨i, j, hi, hj, rfl, rfl, rfl, rfl, by have e1 : u_88 = mfp gr va K i j := hp_88.trans (if_pos c_83).symm; rw [← e1]; exact (if_neg c_98).symm, rfl⟩, fun h9 => absurd rfl h9⟩) hG (Nat.le_of_ble_eq_true rfl) (Nat.le_of_ble_eq_true rfl) dX3_cut_120
          · refine lv_aload_n hx hb dX3_cut_101 rfl (lv_at hl 0 rfl) ?_
            refine lv_iload_n hx hb dX3_cut_102 rfl (lv_at hl 2 rfl) ?_
            refine q_callv (n := 1) (As := [.int (nI j)]) (rest := []) hM hl.1 hG (c_X3_knowItself l g h N tk dom gr va dr off rt cnt (upd (upd lk (i * 10 + j) 0) (j * 10 + i) 0) dl td u_88 X ds 0 j hjx) rfl gX3_cut_X3_knowItself (by decide +kernel) ⟨Nat.le_of_ble_eq_true rfl, Nat.le_of_ble_eq_true rfl⟩ 0 rfl rfl rfl rfl rfl (Nat.le_of_ble_eq_true rfl) dX3_cut_103 (c1 := 0) (s1 := 0) rfl rfl ⟨Nat.le_of_ble_eq_true rfl, Nat.le_of_ble_eq_true rfl⟩ (fun u_103 H locs hp_103 hG => ?_)
            refine lv_aload_n hx hb dX3_cut_106 rfl (lv_at hl 0 rfl) ?_
            refine lv_dup hx hb dX3_cut_107 rfl ?_
            refine q_get hM hG (C := RX3) (T := TX3) (n := 24) hinX3 0 rfl rfl 1 (by decide) wRX3_94 rfl (v := .int cnt) rfl dX3_cut_108 ?_
            refine lv_iconst (v := 1) hx hb dX3_cut_111 (by decide) ?_
            refine lv_isub hx hb dX3_cut_112 ?_
            refine q_put hM hG (C := RX3) (T := TX3) (n := 24) hinX3 tyX3 tyX3_ok nmX3 0 rfl rfl 1 (by decide) wRX3_94 rfl rfl rfl (Nat.le_of_ble_eq_true rfl) (ws1 := (mNet g h N tk dom gr va dr off rt (cnt - 1) (upd (upd lk (i * 10 + j) 0) (j * 10 + i) 0) dl td u_103 X ds 0)) rfl dX3_cut_113 (fun H locs hG => ?_)
            refine lv_aload_n hx hb dX3_cut_116 rfl (lv_at hl 0 rfl) ?_
            refine q_get hM hG (C := RX3) (T := TX3) (n := 24) hinX3 0 rfl rfl 1 (by decide) wRX3_94 rfl (v := .int (cnt - 1)) rfl dX3_cut_117 ?_
            exact hRet (cnt - 1) (0, (upd (upd lk (i * 10 + j) 0) (j * 10 + i) 0), (cnt - 1), u_103) _ _ _ _ _ _ (⟨Or.inr (Or.inr ⟨rfl, ⟨⟨i, hi, rfl⟩, ⟨j, hj, rfl⟩⟩, ((lkd_n hix hjx).mpr ((hlk _).resolve_left c_32))⟩), fun _ => ⟨i, j, hi, hj, rfl, rfl, rfl, rfl, by have e1 : u_88 = mfp gr va K i j := hp_88.trans (if_pos c_83).symm; rw [← e1]; exact hp_103.trans (if_pos c_98).symm, rfl⟩, fun h9 => absurd rfl h9⟩) hG (Nat.le_of_ble_eq_true rfl) (Nat.le_of_ble_eq_true rfl) dX3_cut_120
      · refine lv_iconst (v := 2) hx hb dX3_cut_35 (by decide) ?_
        refine lv_goto (tgt := 40) hx hb dX3_cut_36 (by decide) ?_
        refine q_put hM hG (C := RX3) (T := TX3) (n := 24) hinX3 tyX3 tyX3_ok nmX3 0 rfl rfl 17 (by decide) wRX3_76 rfl rfl rfl (Nat.le_of_ble_eq_true rfl) (ws1 := (mNet g h N tk dom gr va dr off rt cnt lk dl td K X ds 2)) rfl dX3_cut_40 (fun H locs hG => ?_)
        refine lv_aload_n hx hb dX3_cut_43 rfl (lv_at hl 0 rfl) ?_
        refine q_get hM hG (C := RX3) (T := TX3) (n := 24) hinX3 0 rfl rfl 17 (by decide) wRX3_76 rfl (v := .int 2) rfl dX3_cut_44 ?_
        refine lv_if_le (tgt := 52) hx hb dX3_cut_47 (by decide) (fun c9 => False.elim (by revert c9; decide)) (fun _ => ?_)
        refine lv_iconst (v := 0) hx hb dX3_cut_50 (by decide) ?_
        exact hRet 0 (2, lk, cnt, K) _ _ _ _ _ _ (⟨Or.inr (Or.inl ⟨rfl, ⟨⟨i, hi, rfl⟩, ⟨j, hj, rfl⟩⟩, (fun h9 => absurd ((lkd_n hix hjx).mp h9) (by rw [c_32]; decide))⟩), fun h9 => absurd (show (2 : Int32) = 0 from h9) (by decide), fun _ => ⟨rfl, rfl, rfl⟩⟩) hG (Nat.le_of_ble_eq_true rfl) (Nat.le_of_ble_eq_true rfl) dX3_cut_51
    · refine lv_if_ne (tgt := 21) hx hb dX3_cut_14 (by decide) (fun c9 => False.elim (by revert c9; decide)) (fun _ => ?_)
      refine lv_iconst (v := 1) hx hb dX3_cut_17 (by decide) ?_
      refine lv_goto (tgt := 40) hx hb dX3_cut_18 (by decide) ?_
      refine q_put hM hG (C := RX3) (T := TX3) (n := 24) hinX3 tyX3 tyX3_ok nmX3 0 rfl rfl 17 (by decide) wRX3_76 rfl rfl rfl (Nat.le_of_ble_eq_true rfl) (ws1 := (mNet g h N tk dom gr va dr off rt cnt lk dl td K X ds 1)) rfl dX3_cut_40 (fun H locs hG => ?_)
      refine lv_aload_n hx hb dX3_cut_43 rfl (lv_at hl 0 rfl) ?_
      refine q_get hM hG (C := RX3) (T := TX3) (n := 24) hinX3 0 rfl rfl 17 (by decide) wRX3_76 rfl (v := .int 1) rfl dX3_cut_44 ?_
      refine lv_if_le (tgt := 52) hx hb dX3_cut_47 (by decide) (fun c9 => False.elim (by revert c9; decide)) (fun _ => ?_)
      refine lv_iconst (v := 0) hx hb dX3_cut_50 (by decide) ?_
      exact hRet 0 (1, lk, cnt, K) _ _ _ _ _ _ (⟨Or.inl ⟨rfl, fun h9 => hp_11 h9.2⟩, fun h9 => absurd (show (1 : Int32) = 0 from h9) (by decide), fun _ => ⟨rfl, rfl, rfl⟩⟩) hG (Nat.le_of_ble_eq_true rfl) (Nat.le_of_ble_eq_true rfl) dX3_cut_51
  · refine lv_if_eq (tgt := 17) hx hb dX3_cut_6 (by decide) (fun _ => ?_) (fun c9 => False.elim (by revert c9; decide))
    refine lv_iconst (v := 1) hx hb dX3_cut_17 (by decide) ?_
    refine lv_goto (tgt := 40) hx hb dX3_cut_18 (by decide) ?_
    refine q_put hM hG (C := RX3) (T := TX3) (n := 24) hinX3 tyX3 tyX3_ok nmX3 0 rfl rfl 17 (by decide) wRX3_76 rfl rfl rfl (Nat.le_of_ble_eq_true rfl) (ws1 := (mNet g h N tk dom gr va dr off rt cnt lk dl td K X ds 1)) rfl dX3_cut_40 (fun H locs hG => ?_)
    refine lv_aload_n hx hb dX3_cut_43 rfl (lv_at hl 0 rfl) ?_
    refine q_get hM hG (C := RX3) (T := TX3) (n := 24) hinX3 0 rfl rfl 17 (by decide) wRX3_76 rfl (v := .int 1) rfl dX3_cut_44 ?_
    refine lv_if_le (tgt := 52) hx hb dX3_cut_47 (by decide) (fun c9 => False.elim (by revert c9; decide)) (fun _ => ?_)
    refine lv_iconst (v := 0) hx hb dX3_cut_50 (by decide) ?_
    exact hRet 0 (1, lk, cnt, K) _ _ _ _ _ _ (⟨Or.inl ⟨rfl, fun h9 => hp_3 h9.1⟩, fun h9 => absurd (show (1 : Int32) = 0 from h9) (by decide), fun _ => ⟨rfl, rfl, rfl⟩⟩) hG (Nat.le_of_ble_eq_true rfl) (Nat.le_of_ble_eq_true rfl) dX3_cut_51

set_option maxHeartbeats 4000000 in
set_option maxRecDepth 100000 in
theorem c_X3_tell (l : Launch) (g : EN) (h : Nat → Nat) (N : Nat) (tk : Int32) (dom : Nat → Int32) (gr : Nat → Int32) (va : Nat → Int32) (dr : Nat → Int32) (off : Nat → Int64) (rt : Nat → Int64) (cnt : Int32) (lk : Nat → Int32) (dl : Nat → Int32) (td : Nat → Int32) (K : KM) (X : KM) (ds : Nat → Int32) (thr : Int32) (x y a : Int32) (hN : N ≤ 10) (hlk : b01 lk)  : Ci l yX3_tell wsX3_tell ({ frames := 2, cells := 0, slots := 0, locals := 43 }) g [.ref (h 0), .int x, .int y, .int a] (mNet g h N tk dom gr va dr off rt cnt lk dl td K X ds thr) (fun (r : Int32) (u : Int32 × (Nat → Int32)) => cd3 u.1 (okN N x ∧ okN N y) (inR (-100000) a 100000) (lkd lk x y) ∧ (u.1 = 0 → ∃ i j, i < N ∧ j < N ∧ x = nI i ∧ y = nI j ∧ r = td (i * 10 + j) ∧ u.2 = upd (upd td (i * 10 + j) a) (j * 10 + i) (-a)) ∧ (¬ u.1 = 0 → u.2 = td)) (fun (u : Int32 × (Nat → Int32)) => (mNet g h N tk dom gr va dr off rt cnt lk dl u.2 K X ds u.1)) := by
  refine Ci.of (cc := cX3_tell) (maxL := 5) (by decide) rfl (Nat.le_of_ble_eq_true rfl) ?_
  intro p e s m args below meth c A Q ls hM hG hRet hl
  have hx := hM.1
  have hb := hM.2.1
  have hown := hM.2.2.2.1
  have hts := hM.2.2.2.2
  have wRX3_29 : Cond.fieldLink RX3 29 "TimeNetModel" "isLinked" "[Z" ∈ wsX3_tell := by decide +kernel
  have wRX3_76 : Cond.fieldLink RX3 76 "TimeNetModel" "thrown" "I" ∈ wsX3_tell := by decide +kernel
  have wRX3_36 : Cond.fieldLink RX3 36 "TimeNetModel" "differences" "[I" ∈ wsX3_tell := by decide +kernel
  have hinX3 : ∀ w ∈ wsX30, w ∈ wsX3_tell := by decide +kernel
  have hl : lv_has ls 5 [(0, .ref (h 0)), (1, .int x), (2, .int y), (3, .int a)] := hl
  refine lv_aload_n hx hb dX3_tell_0 rfl (lv_at hl 0 rfl) ?_
  refine lv_aload_n hx hb dX3_tell_1 rfl (lv_at hl 0 rfl) ?_
  refine lv_iload_n hx hb dX3_tell_2 rfl (lv_at hl 1 rfl) ?_
  refine q_calli (n := 1) (As := [.int x]) (rest := [.ref (h 0)]) hM hl.1 hG (c_X3_isNode l g h N tk dom gr va dr off rt cnt lk dl td K X ds thr x hN) rfl gX3_tell_X3_isNode (by decide +kernel) ⟨Nat.le_of_ble_eq_true rfl, Nat.le_of_ble_eq_true rfl⟩ 0 rfl rfl rfl rfl rfl (Nat.le_of_ble_eq_true rfl) dX3_tell_3 (c1 := 0) (s1 := 0) rfl rfl ⟨Nat.le_of_ble_eq_true rfl, Nat.le_of_ble_eq_true rfl⟩ (fun r_3 u_3 H locs hp_3 hG => ?_)
  rcases hp_3 with ⟨rfl, hp_3⟩ | ⟨rfl, hp_3⟩
  · obtain ⟨i, hi, rfl⟩ := hp_3
    have hix : i < 10 := by omega
    refine lv_if_eq (tgt := 17) hx hb dX3_tell_6 (by decide) (fun c9 => False.elim (by revert c9; decide)) (fun _ => ?_)
    refine lv_aload_n hx hb dX3_tell_9 rfl (lv_at hl 0 rfl) ?_
    refine lv_iload_n hx hb dX3_tell_10 rfl (lv_at hl 2 rfl) ?_
    refine q_calli (n := 1) (As := [.int y]) (rest := [.ref (h 0)]) hM hl.1 hG (c_X3_isNode l g h N tk dom gr va dr off rt cnt lk dl td K X ds thr y hN) rfl gX3_tell_X3_isNode (by decide +kernel) ⟨Nat.le_of_ble_eq_true rfl, Nat.le_of_ble_eq_true rfl⟩ 0 rfl rfl rfl rfl rfl (Nat.le_of_ble_eq_true rfl) dX3_tell_11 (c1 := 0) (s1 := 0) rfl rfl ⟨Nat.le_of_ble_eq_true rfl, Nat.le_of_ble_eq_true rfl⟩ (fun r_11 u_11 H locs hp_11 hG => ?_)
    rcases hp_11 with ⟨rfl, hp_11⟩ | ⟨rfl, hp_11⟩
    · obtain ⟨j, hj, rfl⟩ := hp_11
      have hjx : j < 10 := by omega
      refine lv_if_ne (tgt := 21) hx hb dX3_tell_14 (by decide) (fun _ => ?_) (fun c9 => False.elim (by revert c9; decide))
      refine lv_iload_n hx hb dX3_tell_21 rfl (lv_at hl 3 rfl) ?_
      refine lv_ldc (v := (-100000)) hx hb hown (hts (.constant RX3 97 (-100000)) (by decide +kernel)) dX3_tell_22 ?_
      refine lv_ldc (v := 100000) hx hb hown (hts (.constant RX3 93 100000) (by decide +kernel)) dX3_tell_24 ?_
      refine q_callSi (n := 3) (As := [.int a, .int (-100000), .int 100000]) (rest := [.ref (h 0)]) hM hl.1 hG (c_X3_in l g h N tk dom gr va dr off rt cnt lk dl td K X ds thr a (-100000) 100000) rfl gX3_tell_X3_in (by decide +kernel) ⟨Nat.le_of_ble_eq_true rfl, Nat.le_of_ble_eq_true rfl⟩ rfl rfl (Nat.le_of_ble_eq_true rfl) dX3_tell_26 (c1 := 0) (s1 := 0) rfl rfl ⟨Nat.le_of_ble_eq_true rfl, Nat.le_of_ble_eq_true rfl⟩ (fun r_26 u_26 H locs hp_26 hG => ?_)
      rcases hp_26 with ⟨rfl, hp_26⟩ | ⟨rfl, hp_26⟩
      · refine lv_if_ne (tgt := 36) hx hb dX3_tell_29 (by decide) (fun _ => ?_) (fun c9 => False.elim (by revert c9; decide))
        refine lv_aload_n hx hb dX3_tell_36 rfl (lv_at hl 0 rfl) ?_
        refine q_get hM hG (C := RX3) (T := TX3) (n := 24) hinX3 0 rfl rfl 8 (by decide) wRX3_29 rfl (v := .ref (h 7)) rfl dX3_tell_37 ?_
        refine lv_bipush (v := 10) hx hb dX3_tell_40 (by decide) ?_
        refine lv_iload_n hx hb dX3_tell_42 rfl (lv_at hl 1 rfl) ?_
        refine lv_imul hx hb dX3_tell_43 ?_
        refine lv_iload_n hx hb dX3_tell_44 rfl (lv_at hl 2 rfl) ?_
        refine lv_iadd hx hb dX3_tell_45 ?_
        refine q_ren (ix_mul' i j) ?_
        refine q_zald hM hG 7 rfl (by omega) (by decide) dX3_tell_46 ?_
        refine lv_if_ne (tgt := 54) hx hb dX3_tell_47 (by decide) (fun c_47 => ?_) (fun c_47 => ?_)
        · refine lv_iconst (v := 0) hx hb dX3_tell_54 (by decide) ?_
          refine q_put hM hG (C := RX3) (T := TX3) (n := 24) hinX3 tyX3 tyX3_ok nmX3 0 rfl rfl 17 (by decide) wRX3_76 rfl rfl rfl (Nat.le_of_ble_eq_true rfl) (ws1 := (mNet g h N tk dom gr va dr off rt cnt lk dl td K X ds 0)) rfl dX3_tell_55 (fun H locs hG => ?_)
          refine lv_aload_n hx hb dX3_tell_58 rfl (lv_at hl 0 rfl) ?_
          refine q_get hM hG (C := RX3) (T := TX3) (n := 24) hinX3 0 rfl rfl 17 (by decide) wRX3_76 rfl (v := .int 0) rfl dX3_tell_59 ?_
          refine lv_if_le (tgt := 67) hx hb dX3_tell_62 (by decide) (fun _ => ?_) (fun c9 => False.elim (by revert c9; decide))
          refine lv_aload_n hx hb dX3_tell_67 rfl (lv_at hl 0 rfl) ?_
          refine q_get hM hG (C := RX3) (T := TX3) (n := 24) hinX3 0 rfl rfl 10 (by decide) wRX3_36 rfl (v := .ref (h 9)) rfl dX3_tell_68 ?_
          refine lv_bipush (v := 10) hx hb dX3_tell_71 (by decide) ?_
          refine lv_iload_n hx hb dX3_tell_73 rfl (lv_at hl 1 rfl) ?_
          refine lv_imul hx hb dX3_tell_74 ?_
          refine lv_iload_n hx hb dX3_tell_75 rfl (lv_at hl 2 rfl) ?_
          refine lv_iadd hx hb dX3_tell_76 ?_
          refine q_ren (ix_mul' i j) ?_
          refine q_iald hM hG 9 rfl (by omega) (by decide) dX3_tell_77 ?_
          refine lv_istore (lv' := [(4, .int (td (i * 10 + j))), (0, .ref (h 0)), (1, .int (nI i)), (2, .int (nI j)), (3, .int a)]) hx hb dX3_tell_78 hl (by decide) rfl (fun ls hl => ?_)
          refine lv_aload_n hx hb dX3_tell_80 rfl (lv_at hl 1 rfl) ?_
          refine q_get hM hG (C := RX3) (T := TX3) (n := 24) hinX3 0 rfl rfl 10 (by decide) wRX3_36 rfl (v := .ref (h 9)) rfl dX3_tell_81 ?_
          refine lv_bipush (v := 10) hx hb dX3_tell_84 (by decide) ?_
          refine lv_iload_n hx hb dX3_tell_86 rfl (lv_at hl 2 rfl) ?_
          refine lv_imul hx hb dX3_tell_87 ?_
          refine lv_iload_n hx hb dX3_tell_88 rfl (lv_at hl 3 rfl) ?_
          refine lv_iadd hx hb dX3_tell_89 ?_
          refine q_ren (ix_mul' i j) ?_
          refine lv_iload_n hx hb dX3_tell_90 rfl (lv_at hl 4 rfl) ?_
          refine q_iast hM hG 9 rfl (by omega) (by decide) (ws1 := (mNet g h N tk dom gr va dr off rt cnt lk dl (upd td (i * 10 + j) a) K X ds 0)) rfl dX3_tell_91 (fun H locs hG => ?_)
          refine lv_aload_n hx hb dX3_tell_92 rfl (lv_at hl 1 rfl) ?_
          refine q_get hM hG (C := RX3) (T := TX3) (n := 24) hinX3 0 rfl rfl 10 (by decide) wRX3_36 rfl (v := .ref (h 9)) rfl dX3_tell_93 ?_
          refine lv_bipush (v := 10) hx hb dX3_tell_96 (by decide) ?_
          refine lv_iload_n hx hb dX3_tell_98 rfl (lv_at hl 3 rfl) ?_
          refine lv_imul hx hb dX3_tell_99 ?_
          refine lv_iload_n hx hb dX3_tell_100 rfl (lv_at hl 2 rfl) ?_
          refine lv_iadd hx hb dX3_tell_101 ?_
          refine q_ren (ix_mul' j i) ?_
          refine lv_iload_n hx hb dX3_tell_102 rfl (lv_at hl 4 rfl) ?_
          refine lv_ineg hx hb dX3_tell_103 ?_
          refine q_iast hM hG 9 rfl (by omega) (by decide) (ws1 := (mNet g h N tk dom gr va dr off rt cnt lk dl (upd (upd td (i * 10 + j) a) (j * 10 + i) (-a)) K X ds 0)) rfl dX3_tell_104 (fun H locs hG => ?_)
          refine lv_iload hx hb dX3_tell_105 (lv_at hl 0 rfl) ?_
          exact hRet (td (i * 10 + j)) (0, (upd (upd td (i * 10 + j) a) (j * 10 + i) (-a))) _ _ _ _ _ _ (⟨Or.inr (Or.inr (Or.inr ⟨rfl, ⟨⟨i, hi, rfl⟩, ⟨j, hj, rfl⟩⟩, hp_26, ((lkd_n hix hjx).mpr ((hlk _).resolve_left c_47))⟩)), fun _ => ⟨i, j, hi, hj, rfl, rfl, rfl, rfl⟩, fun h9 => absurd rfl h9⟩) hG (Nat.le_of_ble_eq_true rfl) (Nat.le_of_ble_eq_true rfl) dX3_tell_107
        · refine lv_iconst (v := 3) hx hb dX3_tell_50 (by decide) ?_
          refine lv_goto (tgt := 55) hx hb dX3_tell_51 (by decide) ?_
          refine q_put hM hG (C := RX3) (T := TX3) (n := 24) hinX3 tyX3 tyX3_ok nmX3 0 rfl rfl 17 (by decide) wRX3_76 rfl rfl rfl (Nat.le_of_ble_eq_true rfl) (ws1 := (mNet g h N tk dom gr va dr off rt cnt lk dl td K X ds 3)) rfl dX3_tell_55 (fun H locs hG => ?_)
          refine lv_aload_n hx hb dX3_tell_58 rfl (lv_at hl 0 rfl) ?_
          refine q_get hM hG (C := RX3) (T := TX3) (n := 24) hinX3 0 rfl rfl 17 (by decide) wRX3_76 rfl (v := .int 3) rfl dX3_tell_59 ?_
          refine lv_if_le (tgt := 67) hx hb dX3_tell_62 (by decide) (fun c9 => False.elim (by revert c9; decide)) (fun _ => ?_)
          refine lv_iconst (v := 0) hx hb dX3_tell_65 (by decide) ?_
          exact hRet 0 (3, td) _ _ _ _ _ _ (⟨Or.inr (Or.inr (Or.inl ⟨rfl, ⟨⟨i, hi, rfl⟩, ⟨j, hj, rfl⟩⟩, hp_26, (fun h9 => absurd ((lkd_n hix hjx).mp h9) (by rw [c_47]; decide))⟩)), fun h9 => absurd (show (3 : Int32) = 0 from h9) (by decide), fun _ => rfl⟩) hG (Nat.le_of_ble_eq_true rfl) (Nat.le_of_ble_eq_true rfl) dX3_tell_66
      · refine lv_if_ne (tgt := 36) hx hb dX3_tell_29 (by decide) (fun c9 => False.elim (by revert c9; decide)) (fun _ => ?_)
        refine lv_iconst (v := 2) hx hb dX3_tell_32 (by decide) ?_
        refine lv_goto (tgt := 55) hx hb dX3_tell_33 (by decide) ?_
        refine q_put hM hG (C := RX3) (T := TX3) (n := 24) hinX3 tyX3 tyX3_ok nmX3 0 rfl rfl 17 (by decide) wRX3_76 rfl rfl rfl (Nat.le_of_ble_eq_true rfl) (ws1 := (mNet g h N tk dom gr va dr off rt cnt lk dl td K X ds 2)) rfl dX3_tell_55 (fun H locs hG => ?_)
        refine lv_aload_n hx hb dX3_tell_58 rfl (lv_at hl 0 rfl) ?_
        refine q_get hM hG (C := RX3) (T := TX3) (n := 24) hinX3 0 rfl rfl 17 (by decide) wRX3_76 rfl (v := .int 2) rfl dX3_tell_59 ?_
        refine lv_if_le (tgt := 67) hx hb dX3_tell_62 (by decide) (fun c9 => False.elim (by revert c9; decide)) (fun _ => ?_)
        refine lv_iconst (v := 0) hx hb dX3_tell_65 (by decide) ?_
        exact hRet 0 (2, td) _ _ _ _ _ _ (⟨Or.inr (Or.inl ⟨rfl, ⟨⟨i, hi, rfl⟩, ⟨j, hj, rfl⟩⟩, hp_26⟩), fun h9 => absurd (show (2 : Int32) = 0 from h9) (by decide), fun _ => rfl⟩) hG (Nat.le_of_ble_eq_true rfl) (Nat.le_of_ble_eq_true rfl) dX3_tell_66
    · refine lv_if_ne (tgt := 21) hx hb dX3_tell_14 (by decide) (fun c9 => False.elim (by revert c9; decide)) (fun _ => ?_)
      refine lv_iconst (v := 1) hx hb dX3_tell_17 (by decide) ?_
      refine lv_goto (tgt := 55) hx hb dX3_tell_18 (by decide) ?_
      refine q_put hM hG (C := RX3) (T := TX3) (n := 24) hinX3 tyX3 tyX3_ok nmX3 0 rfl rfl 17 (by decide) wRX3_76 rfl rfl rfl (Nat.le_of_ble_eq_true rfl) (ws1 := (mNet g h N tk dom gr va dr off rt cnt lk dl td K X ds 1)) rfl dX3_tell_55 (fun H locs hG => ?_)
      refine lv_aload_n hx hb dX3_tell_58 rfl (lv_at hl 0 rfl) ?_
      refine q_get hM hG (C := RX3) (T := TX3) (n := 24) hinX3 0 rfl rfl 17 (by decide) wRX3_76 rfl (v := .int 1) rfl dX3_tell_59 ?_
      refine lv_if_le (tgt := 67) hx hb dX3_tell_62 (by decide) (fun c9 => False.elim (by revert c9; decide)) (fun _ => ?_)
      refine lv_iconst (v := 0) hx hb dX3_tell_65 (by decide) ?_
      exact hRet 0 (1, td) _ _ _ _ _ _ (⟨Or.inl ⟨rfl, fun h9 => hp_11 h9.2⟩, fun h9 => absurd (show (1 : Int32) = 0 from h9) (by decide), fun _ => rfl⟩) hG (Nat.le_of_ble_eq_true rfl) (Nat.le_of_ble_eq_true rfl) dX3_tell_66
  · refine lv_if_eq (tgt := 17) hx hb dX3_tell_6 (by decide) (fun _ => ?_) (fun c9 => False.elim (by revert c9; decide))
    refine lv_iconst (v := 1) hx hb dX3_tell_17 (by decide) ?_
    refine lv_goto (tgt := 55) hx hb dX3_tell_18 (by decide) ?_
    refine q_put hM hG (C := RX3) (T := TX3) (n := 24) hinX3 tyX3 tyX3_ok nmX3 0 rfl rfl 17 (by decide) wRX3_76 rfl rfl rfl (Nat.le_of_ble_eq_true rfl) (ws1 := (mNet g h N tk dom gr va dr off rt cnt lk dl td K X ds 1)) rfl dX3_tell_55 (fun H locs hG => ?_)
    refine lv_aload_n hx hb dX3_tell_58 rfl (lv_at hl 0 rfl) ?_
    refine q_get hM hG (C := RX3) (T := TX3) (n := 24) hinX3 0 rfl rfl 17 (by decide) wRX3_76 rfl (v := .int 1) rfl dX3_tell_59 ?_
    refine lv_if_le (tgt := 67) hx hb dX3_tell_62 (by decide) (fun c9 => False.elim (by revert c9; decide)) (fun _ => ?_)
    refine lv_iconst (v := 0) hx hb dX3_tell_65 (by decide) ?_
    exact hRet 0 (1, td) _ _ _ _ _ _ (⟨Or.inl ⟨rfl, fun h9 => hp_3 h9.1⟩, fun h9 => absurd (show (1 : Int32) = 0 from h9) (by decide), fun _ => rfl⟩) hG (Nat.le_of_ble_eq_true rfl) (Nat.le_of_ble_eq_true rfl) dX3_tell_66

set_option maxHeartbeats 4000000 in
set_option maxRecDepth 100000 in
theorem c_X3_tick (l : Launch) (g : EN) (h : Nat → Nat) (N : Nat) (tk : Int32) (dom : Nat → Int32) (gr : Nat → Int32) (va : Nat → Int32) (dr : Nat → Int32) (off : Nat → Int64) (rt : Nat → Int64) (cnt : Int32) (lk : Nat → Int32) (dl : Nat → Int32) (td : Nat → Int32) (K : KM) (X : KM) (ds : Nat → Int32) (thr : Int32) (t : Int32) (hN : N ≤ 10) (hlk : b01 lk)  : Ci l yX3_tick wsX3_tick ({ frames := 3, cells := 0, slots := 0, locals := 66 }) g [.ref (h 0), .int t] (mNet g h N tk dom gr va dr off rt cnt lk dl td K X ds thr) (fun (r : Int32) (u : Int32 × Int32 × OR × KM × KM) => cd1 u.1 (inR 1 t 50) ∧ (u.1 = 0 → ∃ T, T ≤ 50 ∧ t = nI T ∧ (u.2.2.1, u.2.2.2.1) = mtkN dom lk gr va dr dl td N ((off, rt), K) T ∧ u.2.1 = tk + t ∧ r = tk + t) ∧ (¬ u.1 = 0 → u.2 = (tk, (off, rt), K, X))) (fun (u : Int32 × Int32 × OR × KM × KM) => (mNet g h N u.2.1 dom gr va dr u.2.2.1.1 u.2.2.1.2 cnt lk dl td u.2.2.2.1 u.2.2.2.2 ds u.1)) := by
  refine Ci.of (cc := cX3_tick) (maxL := 5) (by decide) rfl (Nat.le_of_ble_eq_true rfl) ?_
  intro p e s m args below meth c A Q ls hM hG hRet hl
  have hx := hM.1
  have hb := hM.2.1
  have hown := hM.2.2.2.1
  have hts := hM.2.2.2.2
  have wRX3_76 : Cond.fieldLink RX3 76 "TimeNetModel" "thrown" "I" ∈ wsX3_tick := by decide +kernel
  have wRX3_118 : Cond.fieldLink RX3 118 "TimeNetModel" "tickMany" "I" ∈ wsX3_tick := by decide +kernel
  have wRX3_72 : Cond.fieldLink RX3 72 "TimeNetModel" "nodeMany" "I" ∈ wsX3_tick := by decide +kernel
  have wRX3_51 : Cond.fieldLink RX3 51 "TimeNetModel" "parents" "[I" ∈ wsX3_tick := by decide +kernel
  have wRX3_48 : Cond.fieldLink RX3 48 "TimeNetModel" "knownSteps" "[I" ∈ wsX3_tick := by decide +kernel
  have wRX3_22 : Cond.fieldLink RX3 22 "TimeNetModel" "offsets" "[J" ∈ wsX3_tick := by decide +kernel
  have wRX3_19 : Cond.fieldLink RX3 19 "TimeNetModel" "drifts" "[I" ∈ wsX3_tick := by decide +kernel
  have wRX3_26 : Cond.fieldLink RX3 26 "TimeNetModel" "rates" "[J" ∈ wsX3_tick := by decide +kernel
  have hinX3 : ∀ w ∈ wsX30, w ∈ wsX3_tick := by decide +kernel
  have hl : lv_has ls 5 [(0, .ref (h 0)), (1, .int t)] := hl
  refine lv_aload_n hx hb dX3_tick_0 rfl (lv_at hl 0 rfl) ?_
  refine lv_iload_n hx hb dX3_tick_1 rfl (lv_at hl 1 rfl) ?_
  refine lv_iconst (v := 1) hx hb dX3_tick_2 (by decide) ?_
  refine lv_bipush (v := 50) hx hb dX3_tick_3 (by decide) ?_
  refine q_callSi (n := 3) (As := [.int t, .int 1, .int 50]) (rest := [.ref (h 0)]) hM hl.1 hG (c_X3_in l g h N tk dom gr va dr off rt cnt lk dl td K X ds thr t 1 50) rfl gX3_tick_X3_in (by decide +kernel) ⟨Nat.le_of_ble_eq_true rfl, Nat.le_of_ble_eq_true rfl⟩ rfl rfl (Nat.le_of_ble_eq_true rfl) dX3_tick_5 (c1 := 0) (s1 := 0) rfl rfl ⟨Nat.le_of_ble_eq_true rfl, Nat.le_of_ble_eq_true rfl⟩ (fun r_5 u_5 H locs hp_5 hG => ?_)
  rcases hp_5 with ⟨rfl, hp_5⟩ | ⟨rfl, hp_5⟩
  · obtain ⟨T, hT1, hT5, rfl⟩ := tick_of hp_5
    refine lv_if_eq (tgt := 15) hx hb dX3_tick_8 (by decide) (fun c9 => False.elim (by revert c9; decide)) (fun _ => ?_)
    refine lv_iconst (v := 0) hx hb dX3_tick_11 (by decide) ?_
    refine lv_goto (tgt := 16) hx hb dX3_tick_12 (by decide) ?_
    refine q_put hM hG (C := RX3) (T := TX3) (n := 24) hinX3 tyX3 tyX3_ok nmX3 0 rfl rfl 17 (by decide) wRX3_76 rfl rfl rfl (Nat.le_of_ble_eq_true rfl) (ws1 := (mNet g h N tk dom gr va dr off rt cnt lk dl td K X ds 0)) rfl dX3_tick_16 (fun H locs hG => ?_)
    refine lv_iconst (v := 0) hx hb dX3_tick_19 (by decide) ?_
    refine lv_istore_n (lv' := [(2, .int 0), (0, .ref (h 0)), (1, .int (nI T))]) hx hb dX3_tick_20 rfl hl (by decide) rfl (fun ls hl => ?_)
    have loop_21 : ∀ (n9 k : Nat) (tk1 : Int32) (of0 : Nat → Int64) (rt0 : Nat → Int64) (K1 : KM) (X1 : KM), k ≤ T → T < k + n9 → (((of0, rt0), K1) = mtkN dom lk gr va dr dl td N ((off, rt), K) k ∧ tk1 = tk + nI k) → ∀ (H : Heap) (locs : List Loc), cC g (mNet g h N tk1 dom gr va dr of0 rt0 cnt lk dl td K1 X1 ds 0) A s H locs → ∀ (ls : Array Slot), lv_has ls 5 [(2, .int (nI k)), (0, .ref (h 0)), (1, .int (nI T))] → W p l e ({ frames := 3, cells := 0, slots := 0, locals := 66 } : Room) s m args below meth c H locs 0 0 Q (F0 m 21 ls []) := by
      intro n9
      induction n9 with
      | zero => intro k tk1 of0 rt0 K1 X1 h1 h2; exact absurd h2 (by omega)
      | succ n9 ih_21 =>
        intro k tk1 of0 rt0 K1 X1 hle_k hlt9 hinv_k H locs hG ls hl
        refine lv_iload_n hx hb dX3_tick_21 rfl (lv_at hl 0 rfl) ?_
        refine lv_iload_n hx hb dX3_tick_22 rfl (lv_at hl 2 rfl) ?_
        refine lv_icmp_ge (tgt := 152) hx hb dX3_tick_23 (by decide) (fun c_23 => ?_) (fun c_23 => ?_)
        · have hk : k = T := by have h9 := ctr_ge (a := k) (b := T) (by omega) (by omega) c_23; omega
          refine lv_aload_n hx hb dX3_tick_152 rfl (lv_at hl 1 rfl) ?_
          refine q_get hM hG (C := RX3) (T := TX3) (n := 24) hinX3 0 rfl rfl 17 (by decide) wRX3_76 rfl (v := .int 0) rfl dX3_tick_153 ?_
          refine lv_if_ne (tgt := 166) hx hb dX3_tick_156 (by decide) (fun c9 => False.elim (by revert c9; decide)) (fun _ => ?_)
          refine lv_aload_n hx hb dX3_tick_159 rfl (lv_at hl 1 rfl) ?_
          refine q_get hM hG (C := RX3) (T := TX3) (n := 24) hinX3 0 rfl rfl 16 (by decide) wRX3_118 rfl (v := .int tk1) rfl dX3_tick_160 ?_
          refine lv_goto (tgt := 167) hx hb dX3_tick_163 (by decide) ?_
          exact hRet tk1 (0, tk1, (of0, rt0), K1, X1) _ _ _ _ _ _ (⟨Or.inr ⟨rfl, hp_5⟩, fun _ => ⟨T, hT5, rfl, by rw [hk] at hinv_k; exact hinv_k.1, by rw [hk] at hinv_k; exact hinv_k.2, by rw [hk] at hinv_k; exact hinv_k.2⟩, fun h9 => absurd rfl h9⟩) hG (Nat.le_of_ble_eq_true rfl) (Nat.le_of_ble_eq_true rfl) dX3_tick_167
        · have hk : k < T := ctr_lt (by omega) (by omega) c_23
          refine lv_aload_n hx hb dX3_tick_26 rfl (lv_at hl 1 rfl) ?_
          refine q_get hM hG (C := RX3) (T := TX3) (n := 24) hinX3 0 rfl rfl 17 (by decide) wRX3_76 rfl (v := .int 0) rfl dX3_tick_27 ?_
          refine lv_if_ne (tgt := 152) hx hb dX3_tick_30 (by decide) (fun c9 => False.elim (by revert c9; decide)) (fun _ => ?_)
          refine lv_iconst (v := 0) hx hb dX3_tick_33 (by decide) ?_
          refine lv_istore_n (lv' := [(3, .int 0), (2, .int (nI k)), (0, .ref (h 0)), (1, .int (nI T))]) hx hb dX3_tick_34 rfl hl (by decide) rfl (fun ls hl => ?_)
          have loop_35 : ∀ (n9 i : Nat) (of1 : Nat → Int64), i ≤ N → N < i + n9 → (of1 = drf dr rt0 of0 i) → ∀ (H : Heap) (locs : List Loc), cC g (mNet g h N tk1 dom gr va dr of1 rt0 cnt lk dl td K1 X1 ds 0) A s H locs → ∀ (ls : Array Slot), lv_has ls 5 [(3, .int (nI i)), (2, .int (nI k)), (0, .ref (h 0)), (1, .int (nI T))] → W p l e ({ frames := 3, cells := 0, slots := 0, locals := 66 } : Room) s m args below meth c H locs 0 0 Q (F0 m 35 ls []) := by
            intro n9
            induction n9 with
            | zero => intro i of1 h1 h2; exact absurd h2 (by omega)
            | succ n9 ih_35 =>
              intro i of1 hle_i hlt9 hinv_i H locs hG ls hl
              refine lv_iload_n hx hb dX3_tick_35 rfl (lv_at hl 0 rfl) ?_
              refine lv_aload_n hx hb dX3_tick_36 rfl (lv_at hl 2 rfl) ?_
              refine q_get hM hG (C := RX3) (T := TX3) (n := 24) hinX3 0 rfl rfl 0 (by decide) wRX3_72 rfl (v := .int (nI N)) rfl dX3_tick_37 ?_
              refine lv_icmp_ge (tgt := 72) hx hb dX3_tick_40 (by decide) (fun c_40 => ?_) (fun c_40 => ?_)
              · have hi : i = N := by have h9 := ctr_ge (a := i) (b := N) (by omega) (by omega) c_40; omega
                refine lv_aload_n hx hb dX3_tick_72 rfl (lv_at hl 2 rfl) ?_
                refine q_callv (n := 0) (As := []) (rest := []) hM hl.1 hG (c_X3_announce l g h N tk1 dom gr va dr of1 rt0 cnt lk dl td K1 X1 ds 0 hN hlk) rfl gX3_tick_X3_announce (by decide +kernel) ⟨Nat.le_of_ble_eq_true rfl, Nat.le_of_ble_eq_true rfl⟩ 0 rfl rfl rfl rfl rfl (Nat.le_of_ble_eq_true rfl) dX3_tick_73 (c1 := 0) (s1 := 0) rfl rfl ⟨Nat.le_of_ble_eq_true rfl, Nat.le_of_ble_eq_true rfl⟩ (fun u_73 H locs hp_73 hG => ?_)
                have par73 : parOK N u_73.1.2.2.2.2 := by rw [show u_73.1 = mAnn dom lk gr va N K1 from hp_73]; exact mAnn_par
                refine lv_iconst (v := 1) hx hb dX3_tick_76 (by decide) ?_
                refine lv_istore_n (lv' := [(3, .int 1), (2, .int (nI k)), (0, .ref (h 0)), (1, .int (nI T))]) hx hb dX3_tick_77 rfl hl (by decide) rfl (fun ls hl => ?_)
                have loop_78 : ∀ (n9 d : Nat) (of2 : Nat → Int64) (rt2 : Nat → Int64), d ≤ 10 → 10 < d + n9 → (∃ d0, d = d0 + 1 ∧ (of2, rt2) = stD N u_73.1.2.2.2.1 u_73.1.2.2.2.2 dl td (drf dr rt0 of0 N, rt0) d0) → ∀ (H : Heap) (locs : List Loc), cC g (mNet g h N tk1 dom gr va dr of2 rt2 cnt lk dl td u_73.1 u_73.2 ds 0) A s H locs → ∀ (ls : Array Slot), lv_has ls 5 [(3, .int (nI d)), (2, .int (nI k)), (0, .ref (h 0)), (1, .int (nI T))] → W p l e ({ frames := 3, cells := 0, slots := 0, locals := 66 } : Room) s m args below meth c H locs 0 0 Q (F0 m 78 ls []) := by
                  intro n9
                  induction n9 with
                  | zero => intro d of2 rt2 h1 h2; exact absurd h2 (by omega)
                  | succ n9 ih_78 =>
                    intro d of2 rt2 hle_d hlt9 hinv_d H locs hG ls hl
                    refine lv_iload_n hx hb dX3_tick_78 rfl (lv_at hl 0 rfl) ?_
                    refine lv_bipush (v := 9) hx hb dX3_tick_79 (by decide) ?_
                    refine lv_icmp_gt (tgt := 136) hx hb dX3_tick_81 (by decide) (fun c_81 => ?_) (fun c_81 => ?_)
                    · have hd : d = 10 := by have h9 : ¬ nI d ≤ nI 9 := nlt c_81; have h8 : ¬ d ≤ 9 := fun h7 => h9 ((nI_leI (by omega) (by omega)).mpr h7); omega
                      refine lv_aload_n hx hb dX3_tick_136 rfl (lv_at hl 2 rfl) ?_
                      refine lv_dup hx hb dX3_tick_137 rfl ?_
                      refine q_get hM hG (C := RX3) (T := TX3) (n := 24) hinX3 0 rfl rfl 16 (by decide) wRX3_118 rfl (v := .int tk1) rfl dX3_tick_138 ?_
                      refine lv_iconst (v := 1) hx hb dX3_tick_141 (by decide) ?_
                      refine lv_iadd hx hb dX3_tick_142 ?_
                      refine q_put hM hG (C := RX3) (T := TX3) (n := 24) hinX3 tyX3 tyX3_ok nmX3 0 rfl rfl 16 (by decide) wRX3_118 rfl rfl rfl (Nat.le_of_ble_eq_true rfl) (ws1 := (mNet g h N (tk1 + 1) dom gr va dr of2 rt2 cnt lk dl td u_73.1 u_73.2 ds 0)) rfl dX3_tick_143 (fun H locs hG => ?_)
                      refine lv_iinc (v := (nI (k + 1))) (lv' := [(2, .int (nI (k + 1))), (3, .int (nI d)), (0, .ref (h 0)), (1, .int (nI T))]) hx hb dX3_tick_146 hl (k := 1) rfl (nI_1 k) (by decide) rfl (fun ls hl => ?_)
                      refine lv_goto (tgt := 21) hx hb dX3_tick_149 (by decide) ?_
                      exact ih_21 (k + 1) (tk1 + 1) of2 rt2 u_73.1 u_73.2 (by omega) (by omega) (⟨by rw [show u_73.1 = mAnn dom lk gr va N K1 from hp_73] at hinv_d; obtain ⟨d0, e0, h0⟩ := hinv_d; have e1 : d0 = 9 := (by omega); subst e1; rw [hi] at hinv_i; subst hinv_i; show _ = mtk1 dom lk gr va dr dl td N (mtkN dom lk gr va dr dl td N ((off, rt), K) k); rw [← hinv_k.1]; simp only [mtk1]; rw [← h0, show u_73.1 = mAnn dom lk gr va N K1 from hp_73], by rw [hinv_k.2]; simp only [nI_succ, Int32.add_assoc]⟩) _ _ hG _ (lv_sub hl [0, 2, 3] rfl)
                    · have hd : d < 10 := by have h9 : nI d ≤ nI 9 := Int32.not_lt.mp c_81; have h8 := (nI_leI (by omega) (by omega)).mp h9; omega
                      refine lv_iconst (v := 0) hx hb dX3_tick_84 (by decide) ?_
                      refine lv_istore (lv' := [(4, .int 0), (3, .int (nI d)), (2, .int (nI k)), (0, .ref (h 0)), (1, .int (nI T))]) hx hb dX3_tick_85 hl (by decide) rfl (fun ls hl => ?_)
                      have loop_87 : ∀ (n9 z : Nat) (of3 : Nat → Int64) (rt3 : Nat → Int64), z ≤ N → N < z + n9 → ((of3, rt3) = stN N u_73.1.2.2.2.1 u_73.1.2.2.2.2 dl td d (of2, rt2) z) → ∀ (H : Heap) (locs : List Loc), cC g (mNet g h N tk1 dom gr va dr of3 rt3 cnt lk dl td u_73.1 u_73.2 ds 0) A s H locs → ∀ (ls : Array Slot), lv_has ls 5 [(4, .int (nI z)), (3, .int (nI d)), (2, .int (nI k)), (0, .ref (h 0)), (1, .int (nI T))] → W p l e ({ frames := 3, cells := 0, slots := 0, locals := 66 } : Room) s m args below meth c H locs 0 0 Q (F0 m 87 ls []) := by
                        intro n9
                        induction n9 with
                        | zero => intro z of3 rt3 h1 h2; exact absurd h2 (by omega)
                        | succ n9 ih_87 =>
                          intro z of3 rt3 hle_z hlt9 hinv_z H locs hG ls hl
                          refine lv_iload hx hb dX3_tick_87 (lv_at hl 0 rfl) ?_
                          refine lv_aload_n hx hb dX3_tick_89 rfl (lv_at hl 3 rfl) ?_
                          refine q_get hM hG (C := RX3) (T := TX3) (n := 24) hinX3 0 rfl rfl 0 (by decide) wRX3_72 rfl (v := .int (nI N)) rfl dX3_tick_90 ?_
                          refine lv_icmp_ge (tgt := 130) hx hb dX3_tick_93 (by decide) (fun c_93 => ?_) (fun c_93 => ?_)
                          · have hz : z = N := by have h9 := ctr_ge (a := z) (b := N) (by omega) (by omega) c_93; omega
                            refine lv_iinc (v := (nI (d + 1))) (lv' := [(3, .int (nI (d + 1))), (4, .int (nI z)), (2, .int (nI k)), (0, .ref (h 0)), (1, .int (nI T))]) hx hb dX3_tick_130 hl (k := 1) rfl (nI_1 d) (by decide) rfl (fun ls hl => ?_)
                            refine lv_goto (tgt := 78) hx hb dX3_tick_133 (by decide) ?_
                            exact ih_78 (d + 1) of3 rt3 (by omega) (by omega) (by obtain ⟨d0, e0, h0⟩ := hinv_d; subst e0; rw [hz] at hinv_z; exact ⟨d0 + 1, rfl, hinv_z.trans (by rw [h0]; rfl)⟩) _ _ hG _ (lv_sub hl [0, 2, 3, 4] rfl)
                          · have hz : z < N := ctr_lt (by omega) (by omega) c_93
                            have hzx : z < 10 := by omega
                            refine lv_aload_n hx hb dX3_tick_96 rfl (lv_at hl 3 rfl) ?_
                            refine q_get hM hG (C := RX3) (T := TX3) (n := 24) hinX3 0 rfl rfl 15 (by decide) wRX3_51 rfl (v := .ref (h 14)) rfl dX3_tick_97 ?_
                            refine lv_iload hx hb dX3_tick_100 (lv_at hl 0 rfl) ?_
                            refine q_iald hM hG 14 rfl hzx (by decide) dX3_tick_102 ?_
                            refine lv_iconst (v := (-1)) hx hb dX3_tick_103 (by decide) ?_
                            refine lv_icmp_eq (tgt := 124) hx hb dX3_tick_104 (by decide) (fun c_104 => ?_) (fun c_104 => ?_)
                            · refine lv_iinc (v := (nI (z + 1))) (lv' := [(4, .int (nI (z + 1))), (3, .int (nI d)), (2, .int (nI k)), (0, .ref (h 0)), (1, .int (nI T))]) hx hb dX3_tick_124 hl (k := 0) rfl (nI_1 z) (by decide) rfl (fun ls hl => ?_)
                              refine lv_goto (tgt := 87) hx hb dX3_tick_127 (by decide) ?_
                              exact ih_87 (z + 1) of3 rt3 (by omega) (by omega) (hinv_z.trans (stN_skip hN (Or.inl c_104)).symm) _ _ hG _ (lv_sub hl [0, 1, 2, 3, 4] rfl)
                            · obtain ⟨q, hq, eq9⟩ := (par73 z hz).resolve_left c_104
                              have hqx : q < 10 := by omega
                              refine lv_aload_n hx hb dX3_tick_107 rfl (lv_at hl 3 rfl) ?_
                              refine q_get hM hG (C := RX3) (T := TX3) (n := 24) hinX3 0 rfl rfl 14 (by decide) wRX3_48 rfl (v := .ref (h 13)) rfl dX3_tick_108 ?_
                              refine lv_iload hx hb dX3_tick_111 (lv_at hl 0 rfl) ?_
                              refine q_iald hM hG 13 rfl hzx (by decide) dX3_tick_113 ?_
                              refine lv_iload_n hx hb dX3_tick_114 rfl (lv_at hl 1 rfl) ?_
                              refine lv_icmp_ne (tgt := 124) hx hb dX3_tick_115 (by decide) (fun c_115 => ?_) (fun c_115 => ?_)
                              · refine lv_iinc (v := (nI (z + 1))) (lv' := [(4, .int (nI (z + 1))), (3, .int (nI d)), (2, .int (nI k)), (0, .ref (h 0)), (1, .int (nI T))]) hx hb dX3_tick_124 hl (k := 0) rfl (nI_1 z) (by decide) rfl (fun ls hl => ?_)
                                refine lv_goto (tgt := 87) hx hb dX3_tick_127 (by decide) ?_
                                exact ih_87 (z + 1) of3 rt3 (by omega) (by omega) (hinv_z.trans (stN_skip hN (Or.inr c_115)).symm) _ _ hG _ (lv_sub hl [0, 1, 2, 3, 4] rfl)
                              · refine lv_aload_n hx hb dX3_tick_118 rfl (lv_at hl 3 rfl) ?_
                                refine lv_iload hx hb dX3_tick_119 (lv_at hl 0 rfl) ?_
                                refine q_callv (n := 1) (As := [.int (nI z)]) (rest := []) hM hl.1 hG (c_X3_steer l g h N tk1 dom gr va dr of3 rt3 cnt lk dl td u_73.1 u_73.2 ds 0 z q hzx hqx eq9) rfl gX3_tick_X3_steer (by decide +kernel) ⟨Nat.le_of_ble_eq_true rfl, Nat.le_of_ble_eq_true rfl⟩ 0 rfl rfl rfl rfl rfl (Nat.le_of_ble_eq_true rfl) dX3_tick_121 (c1 := 0) (s1 := 0) rfl rfl ⟨Nat.le_of_ble_eq_true rfl, Nat.le_of_ble_eq_true rfl⟩ (fun u_121 H locs hp_121 hG => ?_)
                                refine lv_iinc (v := (nI (z + 1))) (lv' := [(4, .int (nI (z + 1))), (3, .int (nI d)), (2, .int (nI k)), (0, .ref (h 0)), (1, .int (nI T))]) hx hb dX3_tick_124 hl (k := 0) rfl (nI_1 z) (by decide) rfl (fun ls hl => ?_)
                                refine lv_goto (tgt := 87) hx hb dX3_tick_127 (by decide) ?_
                                exact ih_87 (z + 1) u_121.1 u_121.2 (by omega) (by omega) (by show u_121 = _; rw [hp_121, hinv_z]; exact (stN_take hN hq eq9 c_115).symm) _ _ hG _ (lv_sub hl [0, 1, 2, 3, 4] rfl)
                      exact loop_87 (N + 1) 0 of2 rt2 (by omega) (by omega) rfl _ _ hG _ (lv_sub hl [0, 1, 2, 3, 4] rfl)
                exact loop_78 (10 + 1) 1 of1 rt0 (by omega) (by omega) (⟨0, rfl, by rw [hi] at hinv_i; rw [hinv_i]; rfl⟩) _ _ hG _ (lv_sub hl [0, 1, 2, 3] rfl)
              · have hi : i < N := ctr_lt (by omega) (by omega) c_40
                have hix : i < 10 := by omega
                refine lv_aload_n hx hb dX3_tick_43 rfl (lv_at hl 2 rfl) ?_
                refine q_get hM hG (C := RX3) (T := TX3) (n := 24) hinX3 0 rfl rfl 6 (by decide) wRX3_22 rfl (v := .ref (h 5)) rfl dX3_tick_44 ?_
                refine lv_iload_n hx hb dX3_tick_47 rfl (lv_at hl 0 rfl) ?_
                refine lv_dup2_11 hx hb dX3_tick_48 rfl rfl ?_
                refine q_lald hM hG 5 rfl hix (by decide) dX3_tick_49 ?_
                refine lv_aload_n hx hb dX3_tick_50 rfl (lv_at hl 2 rfl) ?_
                refine q_get hM hG (C := RX3) (T := TX3) (n := 24) hinX3 0 rfl rfl 5 (by decide) wRX3_19 rfl (v := .ref (h 4)) rfl dX3_tick_51 ?_
                refine lv_iload_n hx hb dX3_tick_54 rfl (lv_at hl 0 rfl) ?_
                refine q_iald hM hG 4 rfl hix (by decide) dX3_tick_55 ?_
                refine lv_i2l hx hb dX3_tick_56 rfl ?_
                refine lv_aload_n hx hb dX3_tick_57 rfl (lv_at hl 2 rfl) ?_
                refine q_get hM hG (C := RX3) (T := TX3) (n := 24) hinX3 0 rfl rfl 7 (by decide) wRX3_26 rfl (v := .ref (h 6)) rfl dX3_tick_58 ?_
                refine lv_iload_n hx hb dX3_tick_61 rfl (lv_at hl 0 rfl) ?_
                refine q_lald hM hG 6 rfl hix (by decide) dX3_tick_62 ?_
                refine lv_ladd hx hb dX3_tick_63 ?_
                refine lv_ladd hx hb dX3_tick_64 ?_
                refine q_last hM hG 5 rfl hix (by decide) (ws1 := (mNet g h N tk1 dom gr va dr (vp_updL of1 i ((of1 i) + ((dr i).toInt64 + (rt0 i)))) rt0 cnt lk dl td K1 X1 ds 0)) rfl dX3_tick_65 (fun H locs hG => ?_)
                refine lv_iinc (v := (nI (i + 1))) (lv' := [(3, .int (nI (i + 1))), (2, .int (nI k)), (0, .ref (h 0)), (1, .int (nI T))]) hx hb dX3_tick_66 hl (k := 0) rfl (nI_1 i) (by decide) rfl (fun ls hl => ?_)
                refine lv_goto (tgt := 35) hx hb dX3_tick_69 (by decide) ?_
                exact ih_35 (i + 1) (vp_updL of1 i ((of1 i) + ((dr i).toInt64 + (rt0 i)))) (by omega) (by omega) (by rw [hinv_i]; rfl) _ _ hG _ (lv_sub hl [0, 1, 2, 3] rfl)
          exact loop_35 (N + 1) 0 of0 (by omega) (by omega) rfl _ _ hG _ (lv_sub hl [0, 1, 2, 3] rfl)
    exact loop_21 (T + 1) 0 tk off rt K X (by omega) (by omega) (⟨rfl, by simp [nI_0]⟩) _ _ hG _ (lv_sub hl [0, 1, 2] rfl)
  · refine lv_if_eq (tgt := 15) hx hb dX3_tick_8 (by decide) (fun _ => ?_) (fun c9 => False.elim (by revert c9; decide))
    refine lv_iconst (v := 1) hx hb dX3_tick_15 (by decide) ?_
    refine q_put hM hG (C := RX3) (T := TX3) (n := 24) hinX3 tyX3 tyX3_ok nmX3 0 rfl rfl 17 (by decide) wRX3_76 rfl rfl rfl (Nat.le_of_ble_eq_true rfl) (ws1 := (mNet g h N tk dom gr va dr off rt cnt lk dl td K X ds 1)) rfl dX3_tick_16 (fun H locs hG => ?_)
    refine lv_iconst (v := 0) hx hb dX3_tick_19 (by decide) ?_
    refine lv_istore_n (lv' := [(2, .int 0), (0, .ref (h 0)), (1, .int t)]) hx hb dX3_tick_20 rfl hl (by decide) rfl (fun ls hl => ?_)
    refine lv_iload_n hx hb dX3_tick_21 rfl (lv_at hl 0 rfl) ?_
    refine lv_iload_n hx hb dX3_tick_22 rfl (lv_at hl 2 rfl) ?_
    refine lv_icmp_ge (tgt := 152) hx hb dX3_tick_23 (by decide) (fun c_23 => ?_) (fun c_23 => ?_)
    · refine lv_aload_n hx hb dX3_tick_152 rfl (lv_at hl 1 rfl) ?_
      refine q_get hM hG (C := RX3) (T := TX3) (n := 24) hinX3 0 rfl rfl 17 (by decide) wRX3_76 rfl (v := .int 1) rfl dX3_tick_153 ?_
      refine lv_if_ne (tgt := 166) hx hb dX3_tick_156 (by decide) (fun _ => ?_) (fun c9 => False.elim (by revert c9; decide))
      refine lv_iconst (v := 0) hx hb dX3_tick_166 (by decide) ?_
      exact hRet 0 (1, tk, (off, rt), K, X) _ _ _ _ _ _ (⟨Or.inl ⟨rfl, hp_5⟩, fun h9 => absurd (show (1 : Int32) = 0 from h9) (by decide), fun _ => rfl⟩) hG (Nat.le_of_ble_eq_true rfl) (Nat.le_of_ble_eq_true rfl) dX3_tick_167
    · refine lv_aload_n hx hb dX3_tick_26 rfl (lv_at hl 1 rfl) ?_
      refine q_get hM hG (C := RX3) (T := TX3) (n := 24) hinX3 0 rfl rfl 17 (by decide) wRX3_76 rfl (v := .int 1) rfl dX3_tick_27 ?_
      refine lv_if_ne (tgt := 152) hx hb dX3_tick_30 (by decide) (fun _ => ?_) (fun c9 => False.elim (by revert c9; decide))
      refine lv_aload_n hx hb dX3_tick_152 rfl (lv_at hl 1 rfl) ?_
      refine q_get hM hG (C := RX3) (T := TX3) (n := 24) hinX3 0 rfl rfl 17 (by decide) wRX3_76 rfl (v := .int 1) rfl dX3_tick_153 ?_
      refine lv_if_ne (tgt := 166) hx hb dX3_tick_156 (by decide) (fun _ => ?_) (fun c9 => False.elim (by revert c9; decide))
      refine lv_iconst (v := 0) hx hb dX3_tick_166 (by decide) ?_
      exact hRet 0 (1, tk, (off, rt), K, X) _ _ _ _ _ _ (⟨Or.inl ⟨rfl, hp_5⟩, fun h9 => absurd (show (1 : Int32) = 0 from h9) (by decide), fun _ => rfl⟩) hG (Nat.le_of_ble_eq_true rfl) (Nat.le_of_ble_eq_true rfl) dX3_tick_167

set_option maxHeartbeats 4000000 in
set_option maxRecDepth 100000 in
theorem c_X3_nodes (l : Launch) (g : EN) (h : Nat → Nat) (N : Nat) (tk : Int32) (dom : Nat → Int32) (gr : Nat → Int32) (va : Nat → Int32) (dr : Nat → Int32) (off : Nat → Int64) (rt : Nat → Int64) (cnt : Int32) (lk : Nat → Int32) (dl : Nat → Int32) (td : Nat → Int32) (K : KM) (X : KM) (ds : Nat → Int32) (thr : Int32)   : Ci l yX3_nodes wsX3_nodes ({ frames := 0, cells := 0, slots := 0, locals := 0 }) g [.ref (h 0)] (mNet g h N tk dom gr va dr off rt cnt lk dl td K X ds thr) (fun (r : Int32) (_ : Unit) => r = nI N) (fun (_ : Unit) => (mNet g h N tk dom gr va dr off rt cnt lk dl td K X ds 0)) := by
  refine Ci.of (cc := cX3_nodes) (maxL := 1) (by decide) rfl (Nat.le_of_ble_eq_true rfl) ?_
  intro p e s m args below meth c A Q ls hM hG hRet hl
  have hx := hM.1
  have hb := hM.2.1
  have hown := hM.2.2.2.1
  have hts := hM.2.2.2.2
  have wRX3_76 : Cond.fieldLink RX3 76 "TimeNetModel" "thrown" "I" ∈ wsX3_nodes := by decide +kernel
  have wRX3_72 : Cond.fieldLink RX3 72 "TimeNetModel" "nodeMany" "I" ∈ wsX3_nodes := by decide +kernel
  have hinX3 : ∀ w ∈ wsX30, w ∈ wsX3_nodes := by decide +kernel
  have hl : lv_has ls 1 [(0, .ref (h 0))] := hl
  refine lv_aload_n hx hb dX3_nodes_0 rfl (lv_at hl 0 rfl) ?_
  refine lv_iconst (v := 0) hx hb dX3_nodes_1 (by decide) ?_
  refine q_put hM hG (C := RX3) (T := TX3) (n := 24) hinX3 tyX3 tyX3_ok nmX3 0 rfl rfl 17 (by decide) wRX3_76 rfl rfl rfl (Nat.le_of_ble_eq_true rfl) (ws1 := (mNet g h N tk dom gr va dr off rt cnt lk dl td K X ds 0)) rfl dX3_nodes_2 (fun H locs hG => ?_)
  refine lv_aload_n hx hb dX3_nodes_5 rfl (lv_at hl 0 rfl) ?_
  refine q_get hM hG (C := RX3) (T := TX3) (n := 24) hinX3 0 rfl rfl 0 (by decide) wRX3_72 rfl (v := .int (nI N)) rfl dX3_nodes_6 ?_
  exact hRet (nI N) () _ _ _ _ _ _ rfl hG (Nat.le_of_ble_eq_true rfl) (Nat.le_of_ble_eq_true rfl) dX3_nodes_9

set_option maxHeartbeats 4000000 in
set_option maxRecDepth 100000 in
theorem c_X3_links (l : Launch) (g : EN) (h : Nat → Nat) (N : Nat) (tk : Int32) (dom : Nat → Int32) (gr : Nat → Int32) (va : Nat → Int32) (dr : Nat → Int32) (off : Nat → Int64) (rt : Nat → Int64) (cnt : Int32) (lk : Nat → Int32) (dl : Nat → Int32) (td : Nat → Int32) (K : KM) (X : KM) (ds : Nat → Int32) (thr : Int32)   : Ci l yX3_links wsX3_links ({ frames := 0, cells := 0, slots := 0, locals := 0 }) g [.ref (h 0)] (mNet g h N tk dom gr va dr off rt cnt lk dl td K X ds thr) (fun (r : Int32) (_ : Unit) => r = cnt) (fun (_ : Unit) => (mNet g h N tk dom gr va dr off rt cnt lk dl td K X ds 0)) := by
  refine Ci.of (cc := cX3_links) (maxL := 1) (by decide) rfl (Nat.le_of_ble_eq_true rfl) ?_
  intro p e s m args below meth c A Q ls hM hG hRet hl
  have hx := hM.1
  have hb := hM.2.1
  have hown := hM.2.2.2.1
  have hts := hM.2.2.2.2
  have wRX3_76 : Cond.fieldLink RX3 76 "TimeNetModel" "thrown" "I" ∈ wsX3_links := by decide +kernel
  have wRX3_94 : Cond.fieldLink RX3 94 "TimeNetModel" "linkMany" "I" ∈ wsX3_links := by decide +kernel
  have hinX3 : ∀ w ∈ wsX30, w ∈ wsX3_links := by decide +kernel
  have hl : lv_has ls 1 [(0, .ref (h 0))] := hl
  refine lv_aload_n hx hb dX3_links_0 rfl (lv_at hl 0 rfl) ?_
  refine lv_iconst (v := 0) hx hb dX3_links_1 (by decide) ?_
  refine q_put hM hG (C := RX3) (T := TX3) (n := 24) hinX3 tyX3 tyX3_ok nmX3 0 rfl rfl 17 (by decide) wRX3_76 rfl rfl rfl (Nat.le_of_ble_eq_true rfl) (ws1 := (mNet g h N tk dom gr va dr off rt cnt lk dl td K X ds 0)) rfl dX3_links_2 (fun H locs hG => ?_)
  refine lv_aload_n hx hb dX3_links_5 rfl (lv_at hl 0 rfl) ?_
  refine q_get hM hG (C := RX3) (T := TX3) (n := 24) hinX3 0 rfl rfl 1 (by decide) wRX3_94 rfl (v := .int cnt) rfl dX3_links_6 ?_
  exact hRet cnt () _ _ _ _ _ _ rfl hG (Nat.le_of_ble_eq_true rfl) (Nat.le_of_ble_eq_true rfl) dX3_links_9

set_option maxHeartbeats 4000000 in
set_option maxRecDepth 100000 in
theorem c_X3_best (l : Launch) (g : EN) (h : Nat → Nat) (N : Nat) (tk : Int32) (dom : Nat → Int32) (gr : Nat → Int32) (va : Nat → Int32) (dr : Nat → Int32) (off : Nat → Int64) (rt : Nat → Int64) (cnt : Int32) (lk : Nat → Int32) (dl : Nat → Int32) (td : Nat → Int32) (K : KM) (X : KM) (ds : Nat → Int32) (thr : Int32) (x : Int32) (hN : N ≤ 10)  : Ci l yX3_best wsX3_best ({ frames := 3, cells := 0, slots := 0, locals := 64 }) g [.ref (h 0), .int x] (mNet g h N tk dom gr va dr off rt cnt lk dl td K X ds thr) (fun (r : Int32) (u : Int32) => cd1 u (okN N x) ∧ (u = 0 → ∃ i, i < N ∧ x = nI i ∧ r = K.1 i) ∧ (¬ u = 0 → True)) (fun (u : Int32) => (mNet g h N tk dom gr va dr off rt cnt lk dl td K X ds u)) := by
  refine Ci.of (cc := cX3_best) (maxL := 2) (by decide) rfl (Nat.le_of_ble_eq_true rfl) ?_
  intro p e s m args below meth c A Q ls hM hG hRet hl
  have hx := hM.1
  have hb := hM.2.1
  have hown := hM.2.2.2.1
  have hts := hM.2.2.2.2
  have wRX3_39 : Cond.fieldLink RX3 39 "TimeNetModel" "knownNode" "[I" ∈ wsX3_best := by decide +kernel
  have hinX3 : ∀ w ∈ wsX30, w ∈ wsX3_best := by decide +kernel
  have hl : lv_has ls 2 [(0, .ref (h 0)), (1, .int x)] := hl
  refine lv_aload_n hx hb dX3_best_0 rfl (lv_at hl 0 rfl) ?_
  refine lv_iload_n hx hb dX3_best_1 rfl (lv_at hl 1 rfl) ?_
  refine q_calli (n := 1) (As := [.int x]) (rest := []) hM hl.1 hG (c_X3_asksFor l g h N tk dom gr va dr off rt cnt lk dl td K X ds thr x hN) rfl gX3_best_X3_asksFor (by decide +kernel) ⟨Nat.le_of_ble_eq_true rfl, Nat.le_of_ble_eq_true rfl⟩ 0 rfl rfl rfl rfl rfl (Nat.le_of_ble_eq_true rfl) dX3_best_2 (c1 := 0) (s1 := 0) rfl rfl ⟨Nat.le_of_ble_eq_true rfl, Nat.le_of_ble_eq_true rfl⟩ (fun r_2 u_2 H locs hp_2 hG => ?_)
  rcases hp_2 with ⟨rfl, rfl, hp_2⟩ | ⟨rfl, rfl, hp_2⟩
  · obtain ⟨i, hi, rfl⟩ := hp_2
    have hix : i < 10 := by omega
    refine lv_if_eq (tgt := 17) hx hb dX3_best_5 (by decide) (fun c9 => False.elim (by revert c9; decide)) (fun _ => ?_)
    refine lv_aload_n hx hb dX3_best_8 rfl (lv_at hl 0 rfl) ?_
    refine q_get hM hG (C := RX3) (T := TX3) (n := 24) hinX3 0 rfl rfl 11 (by decide) wRX3_39 rfl (v := .ref (h 10)) rfl dX3_best_9 ?_
    refine lv_iload_n hx hb dX3_best_12 rfl (lv_at hl 1 rfl) ?_
    refine q_iald hM hG 10 rfl hix (by decide) dX3_best_13 ?_
    refine lv_goto (tgt := 18) hx hb dX3_best_14 (by decide) ?_
    exact hRet (K.1 i) 0 _ _ _ _ _ _ (⟨Or.inr ⟨rfl, ⟨i, hi, rfl⟩⟩, fun _ => ⟨i, hi, rfl, rfl⟩, fun h9 => absurd rfl h9⟩) hG (Nat.le_of_ble_eq_true rfl) (Nat.le_of_ble_eq_true rfl) dX3_best_18
  · refine lv_if_eq (tgt := 17) hx hb dX3_best_5 (by decide) (fun _ => ?_) (fun c9 => False.elim (by revert c9; decide))
    refine lv_iconst (v := 0) hx hb dX3_best_17 (by decide) ?_
    exact hRet 0 1 _ _ _ _ _ _ (⟨Or.inl ⟨rfl, hp_2⟩, fun h9 => absurd (show (1 : Int32) = 0 from h9) (by decide), fun _ => trivial⟩) hG (Nat.le_of_ble_eq_true rfl) (Nat.le_of_ble_eq_true rfl) dX3_best_18

set_option maxHeartbeats 4000000 in
set_option maxRecDepth 100000 in
theorem c_X3_steps (l : Launch) (g : EN) (h : Nat → Nat) (N : Nat) (tk : Int32) (dom : Nat → Int32) (gr : Nat → Int32) (va : Nat → Int32) (dr : Nat → Int32) (off : Nat → Int64) (rt : Nat → Int64) (cnt : Int32) (lk : Nat → Int32) (dl : Nat → Int32) (td : Nat → Int32) (K : KM) (X : KM) (ds : Nat → Int32) (thr : Int32) (x : Int32) (hN : N ≤ 10)  : Ci l yX3_steps wsX3_steps ({ frames := 3, cells := 0, slots := 0, locals := 64 }) g [.ref (h 0), .int x] (mNet g h N tk dom gr va dr off rt cnt lk dl td K X ds thr) (fun (r : Int32) (u : Int32) => cd1 u (okN N x) ∧ (u = 0 → ∃ i, i < N ∧ x = nI i ∧ r = K.2.2.2.1 i) ∧ (¬ u = 0 → True)) (fun (u : Int32) => (mNet g h N tk dom gr va dr off rt cnt lk dl td K X ds u)) := by
  refine Ci.of (cc := cX3_steps) (maxL := 2) (by decide) rfl (Nat.le_of_ble_eq_true rfl) ?_
  intro p e s m args below meth c A Q ls hM hG hRet hl
  have hx := hM.1
  have hb := hM.2.1
  have hown := hM.2.2.2.1
  have hts := hM.2.2.2.2
  have wRX3_48 : Cond.fieldLink RX3 48 "TimeNetModel" "knownSteps" "[I" ∈ wsX3_steps := by decide +kernel
  have hinX3 : ∀ w ∈ wsX30, w ∈ wsX3_steps := by decide +kernel
  have hl : lv_has ls 2 [(0, .ref (h 0)), (1, .int x)] := hl
  refine lv_aload_n hx hb dX3_steps_0 rfl (lv_at hl 0 rfl) ?_
  refine lv_iload_n hx hb dX3_steps_1 rfl (lv_at hl 1 rfl) ?_
  refine q_calli (n := 1) (As := [.int x]) (rest := []) hM hl.1 hG (c_X3_asksFor l g h N tk dom gr va dr off rt cnt lk dl td K X ds thr x hN) rfl gX3_steps_X3_asksFor (by decide +kernel) ⟨Nat.le_of_ble_eq_true rfl, Nat.le_of_ble_eq_true rfl⟩ 0 rfl rfl rfl rfl rfl (Nat.le_of_ble_eq_true rfl) dX3_steps_2 (c1 := 0) (s1 := 0) rfl rfl ⟨Nat.le_of_ble_eq_true rfl, Nat.le_of_ble_eq_true rfl⟩ (fun r_2 u_2 H locs hp_2 hG => ?_)
  rcases hp_2 with ⟨rfl, rfl, hp_2⟩ | ⟨rfl, rfl, hp_2⟩
  · obtain ⟨i, hi, rfl⟩ := hp_2
    have hix : i < 10 := by omega
    refine lv_if_eq (tgt := 17) hx hb dX3_steps_5 (by decide) (fun c9 => False.elim (by revert c9; decide)) (fun _ => ?_)
    refine lv_aload_n hx hb dX3_steps_8 rfl (lv_at hl 0 rfl) ?_
    refine q_get hM hG (C := RX3) (T := TX3) (n := 24) hinX3 0 rfl rfl 14 (by decide) wRX3_48 rfl (v := .ref (h 13)) rfl dX3_steps_9 ?_
    refine lv_iload_n hx hb dX3_steps_12 rfl (lv_at hl 1 rfl) ?_
    refine q_iald hM hG 13 rfl hix (by decide) dX3_steps_13 ?_
    refine lv_goto (tgt := 18) hx hb dX3_steps_14 (by decide) ?_
    exact hRet (K.2.2.2.1 i) 0 _ _ _ _ _ _ (⟨Or.inr ⟨rfl, ⟨i, hi, rfl⟩⟩, fun _ => ⟨i, hi, rfl, rfl⟩, fun h9 => absurd rfl h9⟩) hG (Nat.le_of_ble_eq_true rfl) (Nat.le_of_ble_eq_true rfl) dX3_steps_18
  · refine lv_if_eq (tgt := 17) hx hb dX3_steps_5 (by decide) (fun _ => ?_) (fun c9 => False.elim (by revert c9; decide))
    refine lv_iconst (v := 0) hx hb dX3_steps_17 (by decide) ?_
    exact hRet 0 1 _ _ _ _ _ _ (⟨Or.inl ⟨rfl, hp_2⟩, fun h9 => absurd (show (1 : Int32) = 0 from h9) (by decide), fun _ => trivial⟩) hG (Nat.le_of_ble_eq_true rfl) (Nat.le_of_ble_eq_true rfl) dX3_steps_18

set_option maxHeartbeats 4000000 in
set_option maxRecDepth 100000 in
theorem c_X3_parent (l : Launch) (g : EN) (h : Nat → Nat) (N : Nat) (tk : Int32) (dom : Nat → Int32) (gr : Nat → Int32) (va : Nat → Int32) (dr : Nat → Int32) (off : Nat → Int64) (rt : Nat → Int64) (cnt : Int32) (lk : Nat → Int32) (dl : Nat → Int32) (td : Nat → Int32) (K : KM) (X : KM) (ds : Nat → Int32) (thr : Int32) (x : Int32) (hN : N ≤ 10)  : Ci l yX3_parent wsX3_parent ({ frames := 3, cells := 0, slots := 0, locals := 64 }) g [.ref (h 0), .int x] (mNet g h N tk dom gr va dr off rt cnt lk dl td K X ds thr) (fun (r : Int32) (u : Int32) => cd1 u (okN N x) ∧ (u = 0 → ∃ i, i < N ∧ x = nI i ∧ r = K.2.2.2.2 i) ∧ (¬ u = 0 → True)) (fun (u : Int32) => (mNet g h N tk dom gr va dr off rt cnt lk dl td K X ds u)) := by
  refine Ci.of (cc := cX3_parent) (maxL := 2) (by decide) rfl (Nat.le_of_ble_eq_true rfl) ?_
  intro p e s m args below meth c A Q ls hM hG hRet hl
  have hx := hM.1
  have hb := hM.2.1
  have hown := hM.2.2.2.1
  have hts := hM.2.2.2.2
  have wRX3_51 : Cond.fieldLink RX3 51 "TimeNetModel" "parents" "[I" ∈ wsX3_parent := by decide +kernel
  have hinX3 : ∀ w ∈ wsX30, w ∈ wsX3_parent := by decide +kernel
  have hl : lv_has ls 2 [(0, .ref (h 0)), (1, .int x)] := hl
  refine lv_aload_n hx hb dX3_parent_0 rfl (lv_at hl 0 rfl) ?_
  refine lv_iload_n hx hb dX3_parent_1 rfl (lv_at hl 1 rfl) ?_
  refine q_calli (n := 1) (As := [.int x]) (rest := []) hM hl.1 hG (c_X3_asksFor l g h N tk dom gr va dr off rt cnt lk dl td K X ds thr x hN) rfl gX3_parent_X3_asksFor (by decide +kernel) ⟨Nat.le_of_ble_eq_true rfl, Nat.le_of_ble_eq_true rfl⟩ 0 rfl rfl rfl rfl rfl (Nat.le_of_ble_eq_true rfl) dX3_parent_2 (c1 := 0) (s1 := 0) rfl rfl ⟨Nat.le_of_ble_eq_true rfl, Nat.le_of_ble_eq_true rfl⟩ (fun r_2 u_2 H locs hp_2 hG => ?_)
  rcases hp_2 with ⟨rfl, rfl, hp_2⟩ | ⟨rfl, rfl, hp_2⟩
  · obtain ⟨i, hi, rfl⟩ := hp_2
    have hix : i < 10 := by omega
    refine lv_if_eq (tgt := 17) hx hb dX3_parent_5 (by decide) (fun c9 => False.elim (by revert c9; decide)) (fun _ => ?_)
    refine lv_aload_n hx hb dX3_parent_8 rfl (lv_at hl 0 rfl) ?_
    refine q_get hM hG (C := RX3) (T := TX3) (n := 24) hinX3 0 rfl rfl 15 (by decide) wRX3_51 rfl (v := .ref (h 14)) rfl dX3_parent_9 ?_
    refine lv_iload_n hx hb dX3_parent_12 rfl (lv_at hl 1 rfl) ?_
    refine q_iald hM hG 14 rfl hix (by decide) dX3_parent_13 ?_
    refine lv_goto (tgt := 18) hx hb dX3_parent_14 (by decide) ?_
    exact hRet (K.2.2.2.2 i) 0 _ _ _ _ _ _ (⟨Or.inr ⟨rfl, ⟨i, hi, rfl⟩⟩, fun _ => ⟨i, hi, rfl, rfl⟩, fun h9 => absurd rfl h9⟩) hG (Nat.le_of_ble_eq_true rfl) (Nat.le_of_ble_eq_true rfl) dX3_parent_18
  · refine lv_if_eq (tgt := 17) hx hb dX3_parent_5 (by decide) (fun _ => ?_) (fun c9 => False.elim (by revert c9; decide))
    refine lv_iconst (v := 0) hx hb dX3_parent_17 (by decide) ?_
    exact hRet 0 1 _ _ _ _ _ _ (⟨Or.inl ⟨rfl, hp_2⟩, fun h9 => absurd (show (1 : Int32) = 0 from h9) (by decide), fun _ => trivial⟩) hG (Nat.le_of_ble_eq_true rfl) (Nat.le_of_ble_eq_true rfl) dX3_parent_18

set_option maxHeartbeats 4000000 in
set_option maxRecDepth 100000 in
theorem c_X3_offset (l : Launch) (g : EN) (h : Nat → Nat) (N : Nat) (tk : Int32) (dom : Nat → Int32) (gr : Nat → Int32) (va : Nat → Int32) (dr : Nat → Int32) (off : Nat → Int64) (rt : Nat → Int64) (cnt : Int32) (lk : Nat → Int32) (dl : Nat → Int32) (td : Nat → Int32) (K : KM) (X : KM) (ds : Nat → Int32) (thr : Int32) (x : Int32) (hN : N ≤ 10)  : Cl l yX3_offset wsX3_offset ({ frames := 3, cells := 0, slots := 0, locals := 64 }) g [.ref (h 0), .int x] (mNet g h N tk dom gr va dr off rt cnt lk dl td K X ds thr) (fun (r : Int64) (u : Int32) => cd1 u (okN N x) ∧ (u = 0 → ∃ i, i < N ∧ x = nI i ∧ r = off i) ∧ (¬ u = 0 → True)) (fun (u : Int32) => (mNet g h N tk dom gr va dr off rt cnt lk dl td K X ds u)) := by
  refine Cl.of (cc := cX3_offset) (maxL := 2) (by decide) rfl (Nat.le_of_ble_eq_true rfl) ?_
  intro p e s m args below meth c A Q ls hM hG hRet hl
  have hx := hM.1
  have hb := hM.2.1
  have hown := hM.2.2.2.1
  have hts := hM.2.2.2.2
  have wRX3_22 : Cond.fieldLink RX3 22 "TimeNetModel" "offsets" "[J" ∈ wsX3_offset := by decide +kernel
  have hinX3 : ∀ w ∈ wsX30, w ∈ wsX3_offset := by decide +kernel
  have hl : lv_has ls 2 [(0, .ref (h 0)), (1, .int x)] := hl
  refine lv_aload_n hx hb dX3_offset_0 rfl (lv_at hl 0 rfl) ?_
  refine lv_iload_n hx hb dX3_offset_1 rfl (lv_at hl 1 rfl) ?_
  refine q_calli (n := 1) (As := [.int x]) (rest := []) hM hl.1 hG (c_X3_asksFor l g h N tk dom gr va dr off rt cnt lk dl td K X ds thr x hN) rfl gX3_offset_X3_asksFor (by decide +kernel) ⟨Nat.le_of_ble_eq_true rfl, Nat.le_of_ble_eq_true rfl⟩ 0 rfl rfl rfl rfl rfl (Nat.le_of_ble_eq_true rfl) dX3_offset_2 (c1 := 0) (s1 := 0) rfl rfl ⟨Nat.le_of_ble_eq_true rfl, Nat.le_of_ble_eq_true rfl⟩ (fun r_2 u_2 H locs hp_2 hG => ?_)
  rcases hp_2 with ⟨rfl, rfl, hp_2⟩ | ⟨rfl, rfl, hp_2⟩
  · obtain ⟨i, hi, rfl⟩ := hp_2
    have hix : i < 10 := by omega
    refine lv_if_eq (tgt := 17) hx hb dX3_offset_5 (by decide) (fun c9 => False.elim (by revert c9; decide)) (fun _ => ?_)
    refine lv_aload_n hx hb dX3_offset_8 rfl (lv_at hl 0 rfl) ?_
    refine q_get hM hG (C := RX3) (T := TX3) (n := 24) hinX3 0 rfl rfl 6 (by decide) wRX3_22 rfl (v := .ref (h 5)) rfl dX3_offset_9 ?_
    refine lv_iload_n hx hb dX3_offset_12 rfl (lv_at hl 1 rfl) ?_
    refine q_lald hM hG 5 rfl hix (by decide) dX3_offset_13 ?_
    refine lv_goto (tgt := 18) hx hb dX3_offset_14 (by decide) ?_
    exact hRet (off i) 0 _ _ _ _ _ _ (⟨Or.inr ⟨rfl, ⟨i, hi, rfl⟩⟩, fun _ => ⟨i, hi, rfl, rfl⟩, fun h9 => absurd rfl h9⟩) hG (Nat.le_of_ble_eq_true rfl) (Nat.le_of_ble_eq_true rfl) dX3_offset_18
  · refine lv_if_eq (tgt := 17) hx hb dX3_offset_5 (by decide) (fun _ => ?_) (fun c9 => False.elim (by revert c9; decide))
    refine lv_lconst (v := 0) hx hb dX3_offset_17 (by decide) ?_
    exact hRet 0 1 _ _ _ _ _ _ (⟨Or.inl ⟨rfl, hp_2⟩, fun h9 => absurd (show (1 : Int32) = 0 from h9) (by decide), fun _ => trivial⟩) hG (Nat.le_of_ble_eq_true rfl) (Nat.le_of_ble_eq_true rfl) dX3_offset_18

set_option maxHeartbeats 4000000 in
set_option maxRecDepth 100000 in
theorem c_X3_rate (l : Launch) (g : EN) (h : Nat → Nat) (N : Nat) (tk : Int32) (dom : Nat → Int32) (gr : Nat → Int32) (va : Nat → Int32) (dr : Nat → Int32) (off : Nat → Int64) (rt : Nat → Int64) (cnt : Int32) (lk : Nat → Int32) (dl : Nat → Int32) (td : Nat → Int32) (K : KM) (X : KM) (ds : Nat → Int32) (thr : Int32) (x : Int32) (hN : N ≤ 10)  : Cl l yX3_rate wsX3_rate ({ frames := 3, cells := 0, slots := 0, locals := 64 }) g [.ref (h 0), .int x] (mNet g h N tk dom gr va dr off rt cnt lk dl td K X ds thr) (fun (r : Int64) (u : Int32) => cd1 u (okN N x) ∧ (u = 0 → ∃ i, i < N ∧ x = nI i ∧ r = rt i) ∧ (¬ u = 0 → True)) (fun (u : Int32) => (mNet g h N tk dom gr va dr off rt cnt lk dl td K X ds u)) := by
  refine Cl.of (cc := cX3_rate) (maxL := 2) (by decide) rfl (Nat.le_of_ble_eq_true rfl) ?_
  intro p e s m args below meth c A Q ls hM hG hRet hl
  have hx := hM.1
  have hb := hM.2.1
  have hown := hM.2.2.2.1
  have hts := hM.2.2.2.2
  have wRX3_26 : Cond.fieldLink RX3 26 "TimeNetModel" "rates" "[J" ∈ wsX3_rate := by decide +kernel
  have hinX3 : ∀ w ∈ wsX30, w ∈ wsX3_rate := by decide +kernel
  have hl : lv_has ls 2 [(0, .ref (h 0)), (1, .int x)] := hl
  refine lv_aload_n hx hb dX3_rate_0 rfl (lv_at hl 0 rfl) ?_
  refine lv_iload_n hx hb dX3_rate_1 rfl (lv_at hl 1 rfl) ?_
  refine q_calli (n := 1) (As := [.int x]) (rest := []) hM hl.1 hG (c_X3_asksFor l g h N tk dom gr va dr off rt cnt lk dl td K X ds thr x hN) rfl gX3_rate_X3_asksFor (by decide +kernel) ⟨Nat.le_of_ble_eq_true rfl, Nat.le_of_ble_eq_true rfl⟩ 0 rfl rfl rfl rfl rfl (Nat.le_of_ble_eq_true rfl) dX3_rate_2 (c1 := 0) (s1 := 0) rfl rfl ⟨Nat.le_of_ble_eq_true rfl, Nat.le_of_ble_eq_true rfl⟩ (fun r_2 u_2 H locs hp_2 hG => ?_)
  rcases hp_2 with ⟨rfl, rfl, hp_2⟩ | ⟨rfl, rfl, hp_2⟩
  · obtain ⟨i, hi, rfl⟩ := hp_2
    have hix : i < 10 := by omega
    refine lv_if_eq (tgt := 17) hx hb dX3_rate_5 (by decide) (fun c9 => False.elim (by revert c9; decide)) (fun _ => ?_)
    refine lv_aload_n hx hb dX3_rate_8 rfl (lv_at hl 0 rfl) ?_
    refine q_get hM hG (C := RX3) (T := TX3) (n := 24) hinX3 0 rfl rfl 7 (by decide) wRX3_26 rfl (v := .ref (h 6)) rfl dX3_rate_9 ?_
    refine lv_iload_n hx hb dX3_rate_12 rfl (lv_at hl 1 rfl) ?_
    refine q_lald hM hG 6 rfl hix (by decide) dX3_rate_13 ?_
    refine lv_goto (tgt := 18) hx hb dX3_rate_14 (by decide) ?_
    exact hRet (rt i) 0 _ _ _ _ _ _ (⟨Or.inr ⟨rfl, ⟨i, hi, rfl⟩⟩, fun _ => ⟨i, hi, rfl, rfl⟩, fun h9 => absurd rfl h9⟩) hG (Nat.le_of_ble_eq_true rfl) (Nat.le_of_ble_eq_true rfl) dX3_rate_18
  · refine lv_if_eq (tgt := 17) hx hb dX3_rate_5 (by decide) (fun _ => ?_) (fun c9 => False.elim (by revert c9; decide))
    refine lv_lconst (v := 0) hx hb dX3_rate_17 (by decide) ?_
    exact hRet 0 1 _ _ _ _ _ _ (⟨Or.inl ⟨rfl, hp_2⟩, fun h9 => absurd (show (1 : Int32) = 0 from h9) (by decide), fun _ => trivial⟩) hG (Nat.le_of_ble_eq_true rfl) (Nat.le_of_ble_eq_true rfl) dX3_rate_18

set_option maxHeartbeats 4000000 in
set_option maxRecDepth 100000 in
theorem c_X3_port (l : Launch) (g : EN) (h : Nat → Nat) (N : Nat) (tk : Int32) (dom : Nat → Int32) (gr : Nat → Int32) (va : Nat → Int32) (dr : Nat → Int32) (off : Nat → Int64) (rt : Nat → Int64) (cnt : Int32) (lk : Nat → Int32) (dl : Nat → Int32) (td : Nat → Int32) (K : KM) (X : KM) (ds : Nat → Int32) (thr : Int32) (x y : Int32) (hN : N ≤ 10) (hlk : b01 lk)  : Ci l yX3_port wsX3_port ({ frames := 2, cells := 0, slots := 0, locals := 43 }) g [.ref (h 0), .int x, .int y] (mNet g h N tk dom gr va dr off rt cnt lk dl td K X ds thr) (fun (r : Int32) (u : Int32) => cd1 u (okN N x ∧ okN N y) ∧ (u = 0 → ∃ i j, i < N ∧ j < N ∧ x = nI i ∧ y = nI j ∧ r = prt dom lk K.2.2.2.1 K.2.2.2.2 i j) ∧ (¬ u = 0 → True)) (fun (u : Int32) => (mNet g h N tk dom gr va dr off rt cnt lk dl td K X ds u)) := by
  refine Ci.of (cc := cX3_port) (maxL := 4) (by decide) rfl (Nat.le_of_ble_eq_true rfl) ?_
  intro p e s m args below meth c A Q ls hM hG hRet hl
  have hx := hM.1
  have hb := hM.2.1
  have hown := hM.2.2.2.1
  have hts := hM.2.2.2.2
  have wRX3_76 : Cond.fieldLink RX3 76 "TimeNetModel" "thrown" "I" ∈ wsX3_port := by decide +kernel
  have wRX3_51 : Cond.fieldLink RX3 51 "TimeNetModel" "parents" "[I" ∈ wsX3_port := by decide +kernel
  have wRX3_48 : Cond.fieldLink RX3 48 "TimeNetModel" "knownSteps" "[I" ∈ wsX3_port := by decide +kernel
  have hinX3 : ∀ w ∈ wsX30, w ∈ wsX3_port := by decide +kernel
  have hl : lv_has ls 4 [(0, .ref (h 0)), (1, .int x), (2, .int y)] := hl
  refine lv_aload_n hx hb dX3_port_0 rfl (lv_at hl 0 rfl) ?_
  refine lv_aload_n hx hb dX3_port_1 rfl (lv_at hl 0 rfl) ?_
  refine lv_iload_n hx hb dX3_port_2 rfl (lv_at hl 1 rfl) ?_
  refine q_calli (n := 1) (As := [.int x]) (rest := [.ref (h 0)]) hM hl.1 hG (c_X3_isNode l g h N tk dom gr va dr off rt cnt lk dl td K X ds thr x hN) rfl gX3_port_X3_isNode (by decide +kernel) ⟨Nat.le_of_ble_eq_true rfl, Nat.le_of_ble_eq_true rfl⟩ 0 rfl rfl rfl rfl rfl (Nat.le_of_ble_eq_true rfl) dX3_port_3 (c1 := 0) (s1 := 0) rfl rfl ⟨Nat.le_of_ble_eq_true rfl, Nat.le_of_ble_eq_true rfl⟩ (fun r_3 u_3 H locs hp_3 hG => ?_)
  rcases hp_3 with ⟨rfl, hp_3⟩ | ⟨rfl, hp_3⟩
  · obtain ⟨i, hi, rfl⟩ := hp_3
    have hix : i < 10 := by omega
    refine lv_if_eq (tgt := 21) hx hb dX3_port_6 (by decide) (fun c9 => False.elim (by revert c9; decide)) (fun _ => ?_)
    refine lv_aload_n hx hb dX3_port_9 rfl (lv_at hl 0 rfl) ?_
    refine lv_iload_n hx hb dX3_port_10 rfl (lv_at hl 2 rfl) ?_
    refine q_calli (n := 1) (As := [.int y]) (rest := [.ref (h 0)]) hM hl.1 hG (c_X3_isNode l g h N tk dom gr va dr off rt cnt lk dl td K X ds thr y hN) rfl gX3_port_X3_isNode (by decide +kernel) ⟨Nat.le_of_ble_eq_true rfl, Nat.le_of_ble_eq_true rfl⟩ 0 rfl rfl rfl rfl rfl (Nat.le_of_ble_eq_true rfl) dX3_port_11 (c1 := 0) (s1 := 0) rfl rfl ⟨Nat.le_of_ble_eq_true rfl, Nat.le_of_ble_eq_true rfl⟩ (fun r_11 u_11 H locs hp_11 hG => ?_)
    rcases hp_11 with ⟨rfl, hp_11⟩ | ⟨rfl, hp_11⟩
    · obtain ⟨j, hj, rfl⟩ := hp_11
      have hjx : j < 10 := by omega
      refine lv_if_eq (tgt := 21) hx hb dX3_port_14 (by decide) (fun c9 => False.elim (by revert c9; decide)) (fun _ => ?_)
      refine lv_iconst (v := 0) hx hb dX3_port_17 (by decide) ?_
      refine lv_goto (tgt := 22) hx hb dX3_port_18 (by decide) ?_
      refine q_put hM hG (C := RX3) (T := TX3) (n := 24) hinX3 tyX3 tyX3_ok nmX3 0 rfl rfl 17 (by decide) wRX3_76 rfl rfl rfl (Nat.le_of_ble_eq_true rfl) (ws1 := (mNet g h N tk dom gr va dr off rt cnt lk dl td K X ds 0)) rfl dX3_port_22 (fun H locs hG => ?_)
      refine lv_aload_n hx hb dX3_port_25 rfl (lv_at hl 0 rfl) ?_
      refine q_get hM hG (C := RX3) (T := TX3) (n := 24) hinX3 0 rfl rfl 17 (by decide) wRX3_76 rfl (v := .int 0) rfl dX3_port_26 ?_
      refine lv_if_gt (tgt := 41) hx hb dX3_port_29 (by decide) (fun c9 => False.elim (by revert c9; decide)) (fun _ => ?_)
      refine lv_aload_n hx hb dX3_port_32 rfl (lv_at hl 0 rfl) ?_
      refine lv_iload_n hx hb dX3_port_33 rfl (lv_at hl 1 rfl) ?_
      refine lv_iload_n hx hb dX3_port_34 rfl (lv_at hl 2 rfl) ?_
      refine q_calli (n := 2) (As := [.int (nI i), .int (nI j)]) (rest := []) hM hl.1 hG (c_X3_areNeighbours l g h N tk dom gr va dr off rt cnt lk dl td K X ds 0 i j hix hjx hlk) rfl gX3_port_X3_areNeighbours (by decide +kernel) ⟨Nat.le_of_ble_eq_true rfl, Nat.le_of_ble_eq_true rfl⟩ 0 rfl rfl rfl rfl rfl (Nat.le_of_ble_eq_true rfl) dX3_port_35 (c1 := 0) (s1 := 0) rfl rfl ⟨Nat.le_of_ble_eq_true rfl, Nat.le_of_ble_eq_true rfl⟩ (fun r_35 u_35 H locs hp_35 hG => ?_)
      rcases hp_35 with ⟨rfl, hp_35⟩ | ⟨rfl, hp_35⟩
      · refine lv_if_ne (tgt := 43) hx hb dX3_port_38 (by decide) (fun _ => ?_) (fun c9 => False.elim (by revert c9; decide))
        refine lv_aload_n hx hb dX3_port_43 rfl (lv_at hl 0 rfl) ?_
        refine q_get hM hG (C := RX3) (T := TX3) (n := 24) hinX3 0 rfl rfl 15 (by decide) wRX3_51 rfl (v := .ref (h 14)) rfl dX3_port_44 ?_
        refine lv_iload_n hx hb dX3_port_47 rfl (lv_at hl 1 rfl) ?_
        refine q_iald hM hG 14 rfl hix (by decide) dX3_port_48 ?_
        refine lv_iload_n hx hb dX3_port_49 rfl (lv_at hl 2 rfl) ?_
        refine lv_icmp_ne (tgt := 55) hx hb dX3_port_50 (by decide) (fun c_50 => ?_) (fun c_50 => ?_)
        · refine lv_aload_n hx hb dX3_port_55 rfl (lv_at hl 0 rfl) ?_
          refine q_get hM hG (C := RX3) (T := TX3) (n := 24) hinX3 0 rfl rfl 14 (by decide) wRX3_48 rfl (v := .ref (h 13)) rfl dX3_port_56 ?_
          refine lv_iload_n hx hb dX3_port_59 rfl (lv_at hl 1 rfl) ?_
          refine q_iald hM hG 13 rfl hix (by decide) dX3_port_60 ?_
          refine lv_aload_n hx hb dX3_port_61 rfl (lv_at hl 0 rfl) ?_
          refine q_get hM hG (C := RX3) (T := TX3) (n := 24) hinX3 0 rfl rfl 14 (by decide) wRX3_48 rfl (v := .ref (h 13)) rfl dX3_port_62 ?_
          refine lv_iload_n hx hb dX3_port_65 rfl (lv_at hl 2 rfl) ?_
          refine q_iald hM hG 13 rfl hjx (by decide) dX3_port_66 ?_
          refine lv_icmp_lt (tgt := 90) hx hb dX3_port_67 (by decide) (fun c_67 => ?_) (fun c_67 => ?_)
          · refine lv_iconst (v := 1) hx hb dX3_port_90 (by decide) ?_
            refine lv_goto (tgt := 95) hx hb dX3_port_91 (by decide) ?_
            refine lv_istore_n (lv' := [(3, .int 1), (0, .ref (h 0)), (1, .int (nI i)), (2, .int (nI j))]) hx hb dX3_port_95 rfl hl (by decide) rfl (fun ls hl => ?_)
            refine lv_aload_n hx hb dX3_port_96 rfl (lv_at hl 1 rfl) ?_
            refine q_get hM hG (C := RX3) (T := TX3) (n := 24) hinX3 0 rfl rfl 15 (by decide) wRX3_51 rfl (v := .ref (h 14)) rfl dX3_port_97 ?_
            refine lv_iload_n hx hb dX3_port_100 rfl (lv_at hl 3 rfl) ?_
            refine q_iald hM hG 14 rfl hjx (by decide) dX3_port_101 ?_
            refine lv_iload_n hx hb dX3_port_102 rfl (lv_at hl 2 rfl) ?_
            refine lv_icmp_eq (tgt := 110) hx hb dX3_port_103 (by decide) (fun c_103 => ?_) (fun c_103 => ?_)
            · refine lv_iconst (v := 2) hx hb dX3_port_110 (by decide) ?_
              refine lv_goto (tgt := 115) hx hb dX3_port_111 (by decide) ?_
              exact hRet 2 0 _ _ _ _ _ _ (⟨Or.inr ⟨rfl, ⟨⟨i, hi, rfl⟩, ⟨j, hj, rfl⟩⟩⟩, fun _ => ⟨i, j, hi, hj, rfl, rfl, by unfold prt; rw [if_neg (fun h9 => h9 hp_35), if_neg c_50, if_pos (Or.inl c_103)]⟩, fun h9 => absurd rfl h9⟩) hG (Nat.le_of_ble_eq_true rfl) (Nat.le_of_ble_eq_true rfl) dX3_port_115
            · refine lv_iload_n hx hb dX3_port_106 rfl (lv_at hl 0 rfl) ?_
              refine lv_if_eq (tgt := 114) hx hb dX3_port_107 (by decide) (fun c9 => False.elim (by revert c9; decide)) (fun _ => ?_)
              refine lv_iconst (v := 2) hx hb dX3_port_110 (by decide) ?_
              refine lv_goto (tgt := 115) hx hb dX3_port_111 (by decide) ?_
              exact hRet 2 0 _ _ _ _ _ _ (⟨Or.inr ⟨rfl, ⟨⟨i, hi, rfl⟩, ⟨j, hj, rfl⟩⟩⟩, fun _ => ⟨i, j, hi, hj, rfl, rfl, by unfold prt; rw [if_neg (fun h9 => h9 hp_35), if_neg c_50, if_pos (Or.inr (Or.inl c_67))]⟩, fun h9 => absurd rfl h9⟩) hG (Nat.le_of_ble_eq_true rfl) (Nat.le_of_ble_eq_true rfl) dX3_port_115
          · refine lv_aload_n hx hb dX3_port_70 rfl (lv_at hl 0 rfl) ?_
            refine q_get hM hG (C := RX3) (T := TX3) (n := 24) hinX3 0 rfl rfl 14 (by decide) wRX3_48 rfl (v := .ref (h 13)) rfl dX3_port_71 ?_
            refine lv_iload_n hx hb dX3_port_74 rfl (lv_at hl 1 rfl) ?_
            refine q_iald hM hG 13 rfl hix (by decide) dX3_port_75 ?_
            refine lv_aload_n hx hb dX3_port_76 rfl (lv_at hl 0 rfl) ?_
            refine q_get hM hG (C := RX3) (T := TX3) (n := 24) hinX3 0 rfl rfl 14 (by decide) wRX3_48 rfl (v := .ref (h 13)) rfl dX3_port_77 ?_
            refine lv_iload_n hx hb dX3_port_80 rfl (lv_at hl 2 rfl) ?_
            refine q_iald hM hG 13 rfl hjx (by decide) dX3_port_81 ?_
            refine lv_icmp_ne (tgt := 94) hx hb dX3_port_82 (by decide) (fun c_82 => ?_) (fun c_82 => ?_)
            · refine lv_iconst (v := 0) hx hb dX3_port_94 (by decide) ?_
              refine lv_istore_n (lv' := [(3, .int 0), (0, .ref (h 0)), (1, .int (nI i)), (2, .int (nI j))]) hx hb dX3_port_95 rfl hl (by decide) rfl (fun ls hl => ?_)
              refine lv_aload_n hx hb dX3_port_96 rfl (lv_at hl 1 rfl) ?_
              refine q_get hM hG (C := RX3) (T := TX3) (n := 24) hinX3 0 rfl rfl 15 (by decide) wRX3_51 rfl (v := .ref (h 14)) rfl dX3_port_97 ?_
              refine lv_iload_n hx hb dX3_port_100 rfl (lv_at hl 3 rfl) ?_
              refine q_iald hM hG 14 rfl hjx (by decide) dX3_port_101 ?_
              refine lv_iload_n hx hb dX3_port_102 rfl (lv_at hl 2 rfl) ?_
              refine lv_icmp_eq (tgt := 110) hx hb dX3_port_103 (by decide) (fun c_103 => ?_) (fun c_103 => ?_)
              · refine lv_iconst (v := 2) hx hb dX3_port_110 (by decide) ?_
                refine lv_goto (tgt := 115) hx hb dX3_port_111 (by decide) ?_
                exact hRet 2 0 _ _ _ _ _ _ (⟨Or.inr ⟨rfl, ⟨⟨i, hi, rfl⟩, ⟨j, hj, rfl⟩⟩⟩, fun _ => ⟨i, j, hi, hj, rfl, rfl, by unfold prt; rw [if_neg (fun h9 => h9 hp_35), if_neg c_50, if_pos (Or.inl c_103)]⟩, fun h9 => absurd rfl h9⟩) hG (Nat.le_of_ble_eq_true rfl) (Nat.le_of_ble_eq_true rfl) dX3_port_115
              · refine lv_iload_n hx hb dX3_port_106 rfl (lv_at hl 0 rfl) ?_
                refine lv_if_eq (tgt := 114) hx hb dX3_port_107 (by decide) (fun _ => ?_) (fun c9 => False.elim (by revert c9; decide))
                refine lv_iconst (v := 3) hx hb dX3_port_114 (by decide) ?_
                exact hRet 3 0 _ _ _ _ _ _ (⟨Or.inr ⟨rfl, ⟨⟨i, hi, rfl⟩, ⟨j, hj, rfl⟩⟩⟩, fun _ => ⟨i, j, hi, hj, rfl, rfl, by unfold prt; rw [if_neg (fun h9 => h9 hp_35), if_neg c_50, if_neg (fun h9 => h9.elim c_103 (fun h9 => h9.elim c_67 (fun h8 => c_82 h8.1)))]⟩, fun h9 => absurd rfl h9⟩) hG (Nat.le_of_ble_eq_true rfl) (Nat.le_of_ble_eq_true rfl) dX3_port_115
            · refine lv_iload_n hx hb dX3_port_85 rfl (lv_at hl 1 rfl) ?_
              refine lv_iload_n hx hb dX3_port_86 rfl (lv_at hl 2 rfl) ?_
              refine lv_icmp_ge (tgt := 94) hx hb dX3_port_87 (by decide) (fun c_87 => ?_) (fun c_87 => ?_)
              · refine lv_iconst (v := 0) hx hb dX3_port_94 (by decide) ?_
                refine lv_istore_n (lv' := [(3, .int 0), (0, .ref (h 0)), (1, .int (nI i)), (2, .int (nI j))]) hx hb dX3_port_95 rfl hl (by decide) rfl (fun ls hl => ?_)
                refine lv_aload_n hx hb dX3_port_96 rfl (lv_at hl 1 rfl) ?_
                refine q_get hM hG (C := RX3) (T := TX3) (n := 24) hinX3 0 rfl rfl 15 (by decide) wRX3_51 rfl (v := .ref (h 14)) rfl dX3_port_97 ?_
                refine lv_iload_n hx hb dX3_port_100 rfl (lv_at hl 3 rfl) ?_
                refine q_iald hM hG 14 rfl hjx (by decide) dX3_port_101 ?_
                refine lv_iload_n hx hb dX3_port_102 rfl (lv_at hl 2 rfl) ?_
                refine lv_icmp_eq (tgt := 110) hx hb dX3_port_103 (by decide) (fun c_103 => ?_) (fun c_103 => ?_)
                · refine lv_iconst (v := 2) hx hb dX3_port_110 (by decide) ?_
                  refine lv_goto (tgt := 115) hx hb dX3_port_111 (by decide) ?_
                  exact hRet 2 0 _ _ _ _ _ _ (⟨Or.inr ⟨rfl, ⟨⟨i, hi, rfl⟩, ⟨j, hj, rfl⟩⟩⟩, fun _ => ⟨i, j, hi, hj, rfl, rfl, by unfold prt; rw [if_neg (fun h9 => h9 hp_35), if_neg c_50, if_pos (Or.inl c_103)]⟩, fun h9 => absurd rfl h9⟩) hG (Nat.le_of_ble_eq_true rfl) (Nat.le_of_ble_eq_true rfl) dX3_port_115
                · refine lv_iload_n hx hb dX3_port_106 rfl (lv_at hl 0 rfl) ?_
                  refine lv_if_eq (tgt := 114) hx hb dX3_port_107 (by decide) (fun _ => ?_) (fun c9 => False.elim (by revert c9; decide))
                  refine lv_iconst (v := 3) hx hb dX3_port_114 (by decide) ?_
                  exact hRet 3 0 _ _ _ _ _ _ (⟨Or.inr ⟨rfl, ⟨⟨i, hi, rfl⟩, ⟨j, hj, rfl⟩⟩⟩, fun _ => ⟨i, j, hi, hj, rfl, rfl, by unfold prt; rw [if_neg (fun h9 => h9 hp_35), if_neg c_50, if_neg (fun h9 => h9.elim c_103 (fun h9 => h9.elim c_67 (fun h8 => absurd (ctr_ge (by omega) (by omega) c_87) (by omega))))]⟩, fun h9 => absurd rfl h9⟩) hG (Nat.le_of_ble_eq_true rfl) (Nat.le_of_ble_eq_true rfl) dX3_port_115
              · refine lv_iconst (v := 1) hx hb dX3_port_90 (by decide) ?_
                refine lv_goto (tgt := 95) hx hb dX3_port_91 (by decide) ?_
                refine lv_istore_n (lv' := [(3, .int 1), (0, .ref (h 0)), (1, .int (nI i)), (2, .int (nI j))]) hx hb dX3_port_95 rfl hl (by decide) rfl (fun ls hl => ?_)
                refine lv_aload_n hx hb dX3_port_96 rfl (lv_at hl 1 rfl) ?_
                refine q_get hM hG (C := RX3) (T := TX3) (n := 24) hinX3 0 rfl rfl 15 (by decide) wRX3_51 rfl (v := .ref (h 14)) rfl dX3_port_97 ?_
                refine lv_iload_n hx hb dX3_port_100 rfl (lv_at hl 3 rfl) ?_
                refine q_iald hM hG 14 rfl hjx (by decide) dX3_port_101 ?_
                refine lv_iload_n hx hb dX3_port_102 rfl (lv_at hl 2 rfl) ?_
                refine lv_icmp_eq (tgt := 110) hx hb dX3_port_103 (by decide) (fun c_103 => ?_) (fun c_103 => ?_)
                · refine lv_iconst (v := 2) hx hb dX3_port_110 (by decide) ?_
                  refine lv_goto (tgt := 115) hx hb dX3_port_111 (by decide) ?_
                  exact hRet 2 0 _ _ _ _ _ _ (⟨Or.inr ⟨rfl, ⟨⟨i, hi, rfl⟩, ⟨j, hj, rfl⟩⟩⟩, fun _ => ⟨i, j, hi, hj, rfl, rfl, by unfold prt; rw [if_neg (fun h9 => h9 hp_35), if_neg c_50, if_pos (Or.inl c_103)]⟩, fun h9 => absurd rfl h9⟩) hG (Nat.le_of_ble_eq_true rfl) (Nat.le_of_ble_eq_true rfl) dX3_port_115
                · refine lv_iload_n hx hb dX3_port_106 rfl (lv_at hl 0 rfl) ?_
                  refine lv_if_eq (tgt := 114) hx hb dX3_port_107 (by decide) (fun c9 => False.elim (by revert c9; decide)) (fun _ => ?_)
                  refine lv_iconst (v := 2) hx hb dX3_port_110 (by decide) ?_
                  refine lv_goto (tgt := 115) hx hb dX3_port_111 (by decide) ?_
                  exact hRet 2 0 _ _ _ _ _ _ (⟨Or.inr ⟨rfl, ⟨⟨i, hi, rfl⟩, ⟨j, hj, rfl⟩⟩⟩, fun _ => ⟨i, j, hi, hj, rfl, rfl, by unfold prt; rw [if_neg (fun h9 => h9 hp_35), if_neg c_50, if_pos (Or.inr (Or.inr ⟨c_82, ctr_lt (by omega) (by omega) c_87⟩))]⟩, fun h9 => absurd rfl h9⟩) hG (Nat.le_of_ble_eq_true rfl) (Nat.le_of_ble_eq_true rfl) dX3_port_115
        · refine lv_iconst (v := 1) hx hb dX3_port_53 (by decide) ?_
          exact hRet 1 0 _ _ _ _ _ _ (⟨Or.inr ⟨rfl, ⟨⟨i, hi, rfl⟩, ⟨j, hj, rfl⟩⟩⟩, fun _ => ⟨i, j, hi, hj, rfl, rfl, by unfold prt; rw [if_neg (fun h9 => h9 hp_35), if_pos c_50]⟩, fun h9 => absurd rfl h9⟩) hG (Nat.le_of_ble_eq_true rfl) (Nat.le_of_ble_eq_true rfl) dX3_port_54
      · refine lv_if_ne (tgt := 43) hx hb dX3_port_38 (by decide) (fun c9 => False.elim (by revert c9; decide)) (fun _ => ?_)
        refine lv_iconst (v := 0) hx hb dX3_port_41 (by decide) ?_
        exact hRet 0 0 _ _ _ _ _ _ (⟨Or.inr ⟨rfl, ⟨⟨i, hi, rfl⟩, ⟨j, hj, rfl⟩⟩⟩, fun _ => ⟨i, j, hi, hj, rfl, rfl, by unfold prt; rw [if_pos hp_35]⟩, fun h9 => absurd rfl h9⟩) hG (Nat.le_of_ble_eq_true rfl) (Nat.le_of_ble_eq_true rfl) dX3_port_42
    · refine lv_if_eq (tgt := 21) hx hb dX3_port_14 (by decide) (fun _ => ?_) (fun c9 => False.elim (by revert c9; decide))
      refine lv_iconst (v := 1) hx hb dX3_port_21 (by decide) ?_
      refine q_put hM hG (C := RX3) (T := TX3) (n := 24) hinX3 tyX3 tyX3_ok nmX3 0 rfl rfl 17 (by decide) wRX3_76 rfl rfl rfl (Nat.le_of_ble_eq_true rfl) (ws1 := (mNet g h N tk dom gr va dr off rt cnt lk dl td K X ds 1)) rfl dX3_port_22 (fun H locs hG => ?_)
      refine lv_aload_n hx hb dX3_port_25 rfl (lv_at hl 0 rfl) ?_
      refine q_get hM hG (C := RX3) (T := TX3) (n := 24) hinX3 0 rfl rfl 17 (by decide) wRX3_76 rfl (v := .int 1) rfl dX3_port_26 ?_
      refine lv_if_gt (tgt := 41) hx hb dX3_port_29 (by decide) (fun _ => ?_) (fun c9 => False.elim (by revert c9; decide))
      refine lv_iconst (v := 0) hx hb dX3_port_41 (by decide) ?_
      exact hRet 0 1 _ _ _ _ _ _ (⟨Or.inl ⟨rfl, fun h9 => hp_11 h9.2⟩, fun h9 => absurd (show (1 : Int32) = 0 from h9) (by decide), fun _ => trivial⟩) hG (Nat.le_of_ble_eq_true rfl) (Nat.le_of_ble_eq_true rfl) dX3_port_42
  · refine lv_if_eq (tgt := 21) hx hb dX3_port_6 (by decide) (fun _ => ?_) (fun c9 => False.elim (by revert c9; decide))
    refine lv_iconst (v := 1) hx hb dX3_port_21 (by decide) ?_
    refine q_put hM hG (C := RX3) (T := TX3) (n := 24) hinX3 tyX3 tyX3_ok nmX3 0 rfl rfl 17 (by decide) wRX3_76 rfl rfl rfl (Nat.le_of_ble_eq_true rfl) (ws1 := (mNet g h N tk dom gr va dr off rt cnt lk dl td K X ds 1)) rfl dX3_port_22 (fun H locs hG => ?_)
    refine lv_aload_n hx hb dX3_port_25 rfl (lv_at hl 0 rfl) ?_
    refine q_get hM hG (C := RX3) (T := TX3) (n := 24) hinX3 0 rfl rfl 17 (by decide) wRX3_76 rfl (v := .int 1) rfl dX3_port_26 ?_
    refine lv_if_gt (tgt := 41) hx hb dX3_port_29 (by decide) (fun _ => ?_) (fun c9 => False.elim (by revert c9; decide))
    refine lv_iconst (v := 0) hx hb dX3_port_41 (by decide) ?_
    exact hRet 0 1 _ _ _ _ _ _ (⟨Or.inl ⟨rfl, fun h9 => hp_3 h9.1⟩, fun h9 => absurd (show (1 : Int32) = 0 from h9) (by decide), fun _ => trivial⟩) hG (Nat.le_of_ble_eq_true rfl) (Nat.le_of_ble_eq_true rfl) dX3_port_42

set_option maxHeartbeats 4000000 in
set_option maxRecDepth 100000 in
theorem c_X3_bestByGraph (l : Launch) (g : EN) (h : Nat → Nat) (N : Nat) (tk : Int32) (dom : Nat → Int32) (gr : Nat → Int32) (va : Nat → Int32) (dr : Nat → Int32) (off : Nat → Int64) (rt : Nat → Int64) (cnt : Int32) (lk : Nat → Int32) (dl : Nat → Int32) (td : Nat → Int32) (K : KM) (X : KM) (ds : Nat → Int32) (thr : Int32) (x : Int32) (hN : N ≤ 10) (hlk : b01 lk) (hsy : sym lk) (hg : rng gr va)  : Ci l yX3_bestByGraph wsX3_bestByGraph ({ frames := 3, cells := 0, slots := 0, locals := 72 }) g [.ref (h 0), .int x] (mNet g h N tk dom gr va dr off rt cnt lk dl td K X ds thr) (fun (r : Int32) (u : Int32 × (Nat → Int32)) => cd1 u.1 (okN N x) ∧ (u.1 = 0 → ∃ i, i < N ∧ x = nI i ∧ ∃ w d, bestBy N dom lk gr va i w d ∧ r = nI w)) (fun (u : Int32 × (Nat → Int32)) => (mNet g h N tk dom gr va dr off rt cnt lk dl td K X u.2 u.1)) := by
  refine Ci.of (cc := cX3_bestByGraph) (maxL := 2) (by decide) rfl (Nat.le_of_ble_eq_true rfl) ?_
  intro p e s m args below meth c A Q ls hM hG hRet hl
  have hx := hM.1
  have hb := hM.2.1
  have hown := hM.2.2.2.1
  have hts := hM.2.2.2.2
  have hl : lv_has ls 2 [(0, .ref (h 0)), (1, .int x)] := hl
  refine lv_aload_n hx hb dX3_bestByGraph_0 rfl (lv_at hl 0 rfl) ?_
  refine lv_iload_n hx hb dX3_bestByGraph_1 rfl (lv_at hl 1 rfl) ?_
  refine q_calli (n := 1) (As := [.int x]) (rest := []) hM hl.1 hG (c_X3_asksFor l g h N tk dom gr va dr off rt cnt lk dl td K X ds thr x hN) rfl gX3_bestByGraph_X3_asksFor (by decide +kernel) ⟨Nat.le_of_ble_eq_true rfl, Nat.le_of_ble_eq_true rfl⟩ 0 rfl rfl rfl rfl rfl (Nat.le_of_ble_eq_true rfl) dX3_bestByGraph_2 (c1 := 0) (s1 := 0) rfl rfl ⟨Nat.le_of_ble_eq_true rfl, Nat.le_of_ble_eq_true rfl⟩ (fun r_2 u_2 H locs hp_2 hG => ?_)
  rcases hp_2 with ⟨rfl, rfl, hp_2⟩ | ⟨rfl, rfl, hp_2⟩
  · obtain ⟨i, hi, rfl⟩ := hp_2
    have hix : i < 10 := by omega
    refine lv_if_eq (tgt := 16) hx hb dX3_bestByGraph_5 (by decide) (fun c9 => False.elim (by revert c9; decide)) (fun _ => ?_)
    refine lv_aload_n hx hb dX3_bestByGraph_8 rfl (lv_at hl 0 rfl) ?_
    refine lv_iload_n hx hb dX3_bestByGraph_9 rfl (lv_at hl 1 rfl) ?_
    refine q_calli (n := 1) (As := [.int (nI i)]) (rest := []) hM hl.1 hG (c_X3_bestReached l g h N tk dom gr va dr off rt cnt lk dl td K X ds 0 i hi hN hlk hsy hg) rfl gX3_bestByGraph_X3_bestReached (by decide +kernel) ⟨Nat.le_of_ble_eq_true rfl, Nat.le_of_ble_eq_true rfl⟩ 0 rfl rfl rfl rfl rfl (Nat.le_of_ble_eq_true rfl) dX3_bestByGraph_10 (c1 := 0) (s1 := 0) rfl rfl ⟨Nat.le_of_ble_eq_true rfl, Nat.le_of_ble_eq_true rfl⟩ (fun r_10 u_10 H locs hp_10 hG => ?_)
    obtain ⟨rfl, hd_10, hb_10⟩ := hp_10
    refine lv_goto (tgt := 17) hx hb dX3_bestByGraph_13 (by decide) ?_
    exact hRet (nI u_10.2) (0, u_10.1) _ _ _ _ _ _ (⟨Or.inr ⟨rfl, ⟨i, hi, rfl⟩⟩, fun _ => ⟨i, hi, rfl, u_10.2, u_10.1 u_10.2, ⟨u_10.1, hd_10, hb_10, rfl⟩, rfl⟩⟩) hG (Nat.le_of_ble_eq_true rfl) (Nat.le_of_ble_eq_true rfl) dX3_bestByGraph_17
  · refine lv_if_eq (tgt := 16) hx hb dX3_bestByGraph_5 (by decide) (fun _ => ?_) (fun c9 => False.elim (by revert c9; decide))
    refine lv_iconst (v := 0) hx hb dX3_bestByGraph_16 (by decide) ?_
    exact hRet 0 (1, ds) _ _ _ _ _ _ (⟨Or.inl ⟨rfl, hp_2⟩, fun h9 => absurd (show (1 : Int32) = 0 from h9) (by decide)⟩) hG (Nat.le_of_ble_eq_true rfl) (Nat.le_of_ble_eq_true rfl) dX3_bestByGraph_17

set_option maxHeartbeats 4000000 in
set_option maxRecDepth 100000 in
theorem c_X3_stepsByGraph (l : Launch) (g : EN) (h : Nat → Nat) (N : Nat) (tk : Int32) (dom : Nat → Int32) (gr : Nat → Int32) (va : Nat → Int32) (dr : Nat → Int32) (off : Nat → Int64) (rt : Nat → Int64) (cnt : Int32) (lk : Nat → Int32) (dl : Nat → Int32) (td : Nat → Int32) (K : KM) (X : KM) (ds : Nat → Int32) (thr : Int32) (x : Int32) (hN : N ≤ 10) (hlk : b01 lk) (hsy : sym lk) (hg : rng gr va)  : Ci l yX3_stepsByGraph wsX3_stepsByGraph ({ frames := 3, cells := 0, slots := 0, locals := 72 }) g [.ref (h 0), .int x] (mNet g h N tk dom gr va dr off rt cnt lk dl td K X ds thr) (fun (r : Int32) (u : Int32 × (Nat → Int32)) => cd1 u.1 (okN N x) ∧ (u.1 = 0 → ∃ i, i < N ∧ x = nI i ∧ ∃ w d, bestBy N dom lk gr va i w d ∧ r = d)) (fun (u : Int32 × (Nat → Int32)) => (mNet g h N tk dom gr va dr off rt cnt lk dl td K X u.2 u.1)) := by
  refine Ci.of (cc := cX3_stepsByGraph) (maxL := 2) (by decide) rfl (Nat.le_of_ble_eq_true rfl) ?_
  intro p e s m args below meth c A Q ls hM hG hRet hl
  have hx := hM.1
  have hb := hM.2.1
  have hown := hM.2.2.2.1
  have hts := hM.2.2.2.2
  have wRX3_69 : Cond.fieldLink RX3 69 "TimeNetModel" "distances" "[I" ∈ wsX3_stepsByGraph := by decide +kernel
  have hinX3 : ∀ w ∈ wsX30, w ∈ wsX3_stepsByGraph := by decide +kernel
  have hl : lv_has ls 2 [(0, .ref (h 0)), (1, .int x)] := hl
  refine lv_aload_n hx hb dX3_stepsByGraph_0 rfl (lv_at hl 0 rfl) ?_
  refine lv_iload_n hx hb dX3_stepsByGraph_1 rfl (lv_at hl 1 rfl) ?_
  refine q_calli (n := 1) (As := [.int x]) (rest := []) hM hl.1 hG (c_X3_asksFor l g h N tk dom gr va dr off rt cnt lk dl td K X ds thr x hN) rfl gX3_stepsByGraph_X3_asksFor (by decide +kernel) ⟨Nat.le_of_ble_eq_true rfl, Nat.le_of_ble_eq_true rfl⟩ 0 rfl rfl rfl rfl rfl (Nat.le_of_ble_eq_true rfl) dX3_stepsByGraph_2 (c1 := 0) (s1 := 0) rfl rfl ⟨Nat.le_of_ble_eq_true rfl, Nat.le_of_ble_eq_true rfl⟩ (fun r_2 u_2 H locs hp_2 hG => ?_)
  rcases hp_2 with ⟨rfl, rfl, hp_2⟩ | ⟨rfl, rfl, hp_2⟩
  · obtain ⟨i, hi, rfl⟩ := hp_2
    have hix : i < 10 := by omega
    refine lv_if_eq (tgt := 21) hx hb dX3_stepsByGraph_5 (by decide) (fun c9 => False.elim (by revert c9; decide)) (fun _ => ?_)
    refine lv_aload_n hx hb dX3_stepsByGraph_8 rfl (lv_at hl 0 rfl) ?_
    refine q_get hM hG (C := RX3) (T := TX3) (n := 24) hinX3 0 rfl rfl 23 (by decide) wRX3_69 rfl (v := .ref (h 20)) rfl dX3_stepsByGraph_9 ?_
    refine lv_aload_n hx hb dX3_stepsByGraph_12 rfl (lv_at hl 0 rfl) ?_
    refine lv_iload_n hx hb dX3_stepsByGraph_13 rfl (lv_at hl 1 rfl) ?_
    refine q_calli (n := 1) (As := [.int (nI i)]) (rest := [.ref (h 20)]) hM hl.1 hG (c_X3_bestReached l g h N tk dom gr va dr off rt cnt lk dl td K X ds 0 i hi hN hlk hsy hg) rfl gX3_stepsByGraph_X3_bestReached (by decide +kernel) ⟨Nat.le_of_ble_eq_true rfl, Nat.le_of_ble_eq_true rfl⟩ 0 rfl rfl rfl rfl rfl (Nat.le_of_ble_eq_true rfl) dX3_stepsByGraph_14 (c1 := 0) (s1 := 0) rfl rfl ⟨Nat.le_of_ble_eq_true rfl, Nat.le_of_ble_eq_true rfl⟩ (fun r_14 u_14 H locs hp_14 hG => ?_)
    obtain ⟨rfl, hd_14, hb_14⟩ := hp_14
    refine q_iald hM hG 20 rfl (by have h9 := hb_14.1; omega) (by decide) dX3_stepsByGraph_17 ?_
    refine lv_goto (tgt := 22) hx hb dX3_stepsByGraph_18 (by decide) ?_
    exact hRet (u_14.1 u_14.2) (0, u_14.1) _ _ _ _ _ _ (⟨Or.inr ⟨rfl, ⟨i, hi, rfl⟩⟩, fun _ => ⟨i, hi, rfl, u_14.2, u_14.1 u_14.2, ⟨u_14.1, hd_14, hb_14, rfl⟩, rfl⟩⟩) hG (Nat.le_of_ble_eq_true rfl) (Nat.le_of_ble_eq_true rfl) dX3_stepsByGraph_22
  · refine lv_if_eq (tgt := 21) hx hb dX3_stepsByGraph_5 (by decide) (fun _ => ?_) (fun c9 => False.elim (by revert c9; decide))
    refine lv_iconst (v := 0) hx hb dX3_stepsByGraph_21 (by decide) ?_
    exact hRet 0 (1, ds) _ _ _ _ _ _ (⟨Or.inl ⟨rfl, hp_2⟩, fun h9 => absurd (show (1 : Int32) = 0 from h9) (by decide)⟩) hG (Nat.le_of_ble_eq_true rfl) (Nat.le_of_ble_eq_true rfl) dX3_stepsByGraph_22

set_option maxHeartbeats 4000000 in
set_option maxRecDepth 100000 in
theorem c_X3_isSettled (l : Launch) (g : EN) (h : Nat → Nat) (N : Nat) (tk : Int32) (dom : Nat → Int32) (gr : Nat → Int32) (va : Nat → Int32) (dr : Nat → Int32) (off : Nat → Int64) (rt : Nat → Int64) (cnt : Int32) (lk : Nat → Int32) (dl : Nat → Int32) (td : Nat → Int32) (K : KM) (X : KM) (ds : Nat → Int32) (thr : Int32) (hN : N ≤ 10) (hlk : b01 lk) (hsy : sym lk) (hg : rng gr va)  : Ci l yX3_isSettled wsX3_isSettled ({ frames := 3, cells := 0, slots := 0, locals := 72 }) g [.ref (h 0)] (mNet g h N tk dom gr va dr off rt cnt lk dl td K X ds thr) (fun (r : Int32) (_ : Nat → Int32) => bP r (∀ j, j < N → stl N dom lk gr va K.1 K.2.2.2.1 j)) (fun (u : Nat → Int32) => (mNet g h N tk dom gr va dr off rt cnt lk dl td K X u 0)) := by
  refine Cz.of (cc := cX3_isSettled) (maxL := 4) (by decide) rfl (Nat.le_of_ble_eq_true rfl) (fun r u h => bP.b h) ?_
  intro p e s m args below meth c A Q ls hM hG hRet hl
  have hx := hM.1
  have hb := hM.2.1
  have hown := hM.2.2.2.1
  have hts := hM.2.2.2.2
  have wRX3_76 : Cond.fieldLink RX3 76 "TimeNetModel" "thrown" "I" ∈ wsX3_isSettled := by decide +kernel
  have wRX3_72 : Cond.fieldLink RX3 72 "TimeNetModel" "nodeMany" "I" ∈ wsX3_isSettled := by decide +kernel
  have wRX3_39 : Cond.fieldLink RX3 39 "TimeNetModel" "knownNode" "[I" ∈ wsX3_isSettled := by decide +kernel
  have wRX3_48 : Cond.fieldLink RX3 48 "TimeNetModel" "knownSteps" "[I" ∈ wsX3_isSettled := by decide +kernel
  have wRX3_69 : Cond.fieldLink RX3 69 "TimeNetModel" "distances" "[I" ∈ wsX3_isSettled := by decide +kernel
  have hinX3 : ∀ w ∈ wsX30, w ∈ wsX3_isSettled := by decide +kernel
  have hl : lv_has ls 4 [(0, .ref (h 0))] := hl
  refine lv_aload_n hx hb dX3_isSettled_0 rfl (lv_at hl 0 rfl) ?_
  refine lv_iconst (v := 0) hx hb dX3_isSettled_1 (by decide) ?_
  refine q_put hM hG (C := RX3) (T := TX3) (n := 24) hinX3 tyX3 tyX3_ok nmX3 0 rfl rfl 17 (by decide) wRX3_76 rfl rfl rfl (Nat.le_of_ble_eq_true rfl) (ws1 := (mNet g h N tk dom gr va dr off rt cnt lk dl td K X ds 0)) rfl dX3_isSettled_2 (fun H locs hG => ?_)
  refine lv_iconst (v := 1) hx hb dX3_isSettled_5 (by decide) ?_
  refine lv_istore_n (lv' := [(1, .int 1), (0, .ref (h 0))]) hx hb dX3_isSettled_6 rfl hl (by decide) rfl (fun ls hl => ?_)
  refine lv_iconst (v := 0) hx hb dX3_isSettled_7 (by decide) ?_
  refine lv_istore_n (lv' := [(2, .int 0), (1, .int 1), (0, .ref (h 0))]) hx hb dX3_isSettled_8 rfl hl (by decide) rfl (fun ls hl => ?_)
  have loop_9 : ∀ (n9 i : Nat) (f1 : Nat → Int32) (is : Int32), i ≤ N → N < i + n9 → (bP is (∀ j, j < i → stl N dom lk gr va K.1 K.2.2.2.1 j)) → ∀ (H : Heap) (locs : List Loc), cC g (mNet g h N tk dom gr va dr off rt cnt lk dl td K X f1 0) A s H locs → ∀ (ls : Array Slot), lv_has ls 4 [(2, .int (nI i)), (1, .int is), (0, .ref (h 0))] → W p l e ({ frames := 3, cells := 0, slots := 0, locals := 72 } : Room) s m args below meth c H locs 0 0 Q (F0 m 9 ls []) := by
    intro n9
    induction n9 with
    | zero => intro i f1 is h1 h2; exact absurd h2 (by omega)
    | succ n9 ih_9 =>
      intro i f1 is hle_i hlt9 hinv_i H locs hG ls hl
      refine lv_iload_n hx hb dX3_isSettled_9 rfl (lv_at hl 0 rfl) ?_
      refine lv_aload_n hx hb dX3_isSettled_10 rfl (lv_at hl 2 rfl) ?_
      refine q_get hM hG (C := RX3) (T := TX3) (n := 24) hinX3 0 rfl rfl 0 (by decide) wRX3_72 rfl (v := .int (nI N)) rfl dX3_isSettled_11 ?_
      refine lv_icmp_ge (tgt := 64) hx hb dX3_isSettled_14 (by decide) (fun c_14 => ?_) (fun c_14 => ?_)
      · have hi : i = N := by have h9 := ctr_ge (a := i) (b := N) (by omega) (by omega) c_14; omega
        refine lv_iload_n hx hb dX3_isSettled_64 rfl (lv_at hl 1 rfl) ?_
        exact hRet is f1 _ _ _ _ _ _ (by rw [hi] at hinv_i; exact hinv_i) hG (Nat.le_of_ble_eq_true rfl) (Nat.le_of_ble_eq_true rfl) dX3_isSettled_65
      · have hi : i < N := ctr_lt (by omega) (by omega) c_14
        have hix : i < 10 := by omega
        refine lv_aload_n hx hb dX3_isSettled_17 rfl (lv_at hl 2 rfl) ?_
        refine lv_iload_n hx hb dX3_isSettled_18 rfl (lv_at hl 0 rfl) ?_
        refine q_calli (n := 1) (As := [.int (nI i)]) (rest := []) hM hl.1 hG (c_X3_bestReached l g h N tk dom gr va dr off rt cnt lk dl td K X f1 0 i hi hN hlk hsy hg) rfl gX3_isSettled_X3_bestReached (by decide +kernel) ⟨Nat.le_of_ble_eq_true rfl, Nat.le_of_ble_eq_true rfl⟩ 0 rfl rfl rfl rfl rfl (Nat.le_of_ble_eq_true rfl) dX3_isSettled_19 (c1 := 0) (s1 := 0) rfl rfl ⟨Nat.le_of_ble_eq_true rfl, Nat.le_of_ble_eq_true rfl⟩ (fun r_19 u_19 H locs hp_19 hG => ?_)
        obtain ⟨rfl, hd_19, hb_19⟩ := hp_19
        refine lv_istore_n (lv' := [(3, .int (nI u_19.2)), (2, .int (nI i)), (1, .int is), (0, .ref (h 0))]) hx hb dX3_isSettled_22 rfl hl (by decide) rfl (fun ls hl => ?_)
        refine lv_iload_n hx hb dX3_isSettled_23 rfl (lv_at hl 2 rfl) ?_
        refine lv_if_eq (tgt := 56) hx hb dX3_isSettled_24 (by decide) (fun c_24 => ?_) (fun c_24 => ?_)
        · refine lv_iconst (v := 0) hx hb dX3_isSettled_56 (by decide) ?_
          refine lv_istore_n (lv' := [(1, .int 0), (3, .int (nI u_19.2)), (2, .int (nI i)), (0, .ref (h 0))]) hx hb dX3_isSettled_57 rfl hl (by decide) rfl (fun ls hl => ?_)
          refine lv_iinc (v := (nI (i + 1))) (lv' := [(2, .int (nI (i + 1))), (1, .int 0), (3, .int (nI u_19.2)), (0, .ref (h 0))]) hx hb dX3_isSettled_58 hl (k := 2) rfl (nI_1 i) (by decide) rfl (fun ls hl => ?_)
          refine lv_goto (tgt := 9) hx hb dX3_isSettled_61 (by decide) ?_
          exact ih_9 (i + 1) u_19.1 0 (by omega) (by omega) (bP.f (fun h9 => by rcases hinv_i with ⟨e9, _⟩ | ⟨_, h8⟩; (exact absurd (e9.symm.trans c_24) (by decide)); exact h8 (fun j hj => h9 j (by omega)))) _ _ hG _ (lv_sub hl [0, 1, 3] rfl)
        · refine lv_aload_n hx hb dX3_isSettled_27 rfl (lv_at hl 3 rfl) ?_
          refine q_get hM hG (C := RX3) (T := TX3) (n := 24) hinX3 0 rfl rfl 11 (by decide) wRX3_39 rfl (v := .ref (h 10)) rfl dX3_isSettled_28 ?_
          refine lv_iload_n hx hb dX3_isSettled_31 rfl (lv_at hl 1 rfl) ?_
          refine q_iald hM hG 10 rfl hix (by decide) dX3_isSettled_32 ?_
          refine lv_iload_n hx hb dX3_isSettled_33 rfl (lv_at hl 0 rfl) ?_
          refine lv_icmp_ne (tgt := 56) hx hb dX3_isSettled_34 (by decide) (fun c_34 => ?_) (fun c_34 => ?_)
          · refine lv_iconst (v := 0) hx hb dX3_isSettled_56 (by decide) ?_
            refine lv_istore_n (lv' := [(1, .int 0), (3, .int (nI u_19.2)), (2, .int (nI i)), (0, .ref (h 0))]) hx hb dX3_isSettled_57 rfl hl (by decide) rfl (fun ls hl => ?_)
            refine lv_iinc (v := (nI (i + 1))) (lv' := [(2, .int (nI (i + 1))), (1, .int 0), (3, .int (nI u_19.2)), (0, .ref (h 0))]) hx hb dX3_isSettled_58 hl (k := 2) rfl (nI_1 i) (by decide) rfl (fun ls hl => ?_)
            refine lv_goto (tgt := 9) hx hb dX3_isSettled_61 (by decide) ?_
            exact ih_9 (i + 1) u_19.1 0 (by omega) (by omega) (bP.f (fun h9 => stl_no hN hg ⟨u_19.1, hd_19, hb_19, rfl⟩ (Or.inl c_34) (h9 i (Nat.lt_succ_self _)))) _ _ hG _ (lv_sub hl [0, 1, 3] rfl)
          · refine lv_aload_n hx hb dX3_isSettled_37 rfl (lv_at hl 3 rfl) ?_
            refine q_get hM hG (C := RX3) (T := TX3) (n := 24) hinX3 0 rfl rfl 14 (by decide) wRX3_48 rfl (v := .ref (h 13)) rfl dX3_isSettled_38 ?_
            refine lv_iload_n hx hb dX3_isSettled_41 rfl (lv_at hl 1 rfl) ?_
            refine q_iald hM hG 13 rfl hix (by decide) dX3_isSettled_42 ?_
            refine lv_aload_n hx hb dX3_isSettled_43 rfl (lv_at hl 3 rfl) ?_
            refine q_get hM hG (C := RX3) (T := TX3) (n := 24) hinX3 0 rfl rfl 23 (by decide) wRX3_69 rfl (v := .ref (h 20)) rfl dX3_isSettled_44 ?_
            refine lv_iload_n hx hb dX3_isSettled_47 rfl (lv_at hl 0 rfl) ?_
            refine q_iald hM hG 20 rfl (by have h9 := hb_19.1; omega) (by decide) dX3_isSettled_48 ?_
            refine lv_icmp_ne (tgt := 56) hx hb dX3_isSettled_49 (by decide) (fun c_49 => ?_) (fun c_49 => ?_)
            · refine lv_iconst (v := 0) hx hb dX3_isSettled_56 (by decide) ?_
              refine lv_istore_n (lv' := [(1, .int 0), (3, .int (nI u_19.2)), (2, .int (nI i)), (0, .ref (h 0))]) hx hb dX3_isSettled_57 rfl hl (by decide) rfl (fun ls hl => ?_)
              refine lv_iinc (v := (nI (i + 1))) (lv' := [(2, .int (nI (i + 1))), (1, .int 0), (3, .int (nI u_19.2)), (0, .ref (h 0))]) hx hb dX3_isSettled_58 hl (k := 2) rfl (nI_1 i) (by decide) rfl (fun ls hl => ?_)
              refine lv_goto (tgt := 9) hx hb dX3_isSettled_61 (by decide) ?_
              exact ih_9 (i + 1) u_19.1 0 (by omega) (by omega) (bP.f (fun h9 => stl_no hN hg ⟨u_19.1, hd_19, hb_19, rfl⟩ (Or.inr c_49) (h9 i (Nat.lt_succ_self _)))) _ _ hG _ (lv_sub hl [0, 1, 3] rfl)
            · refine lv_iconst (v := 1) hx hb dX3_isSettled_52 (by decide) ?_
              refine lv_goto (tgt := 57) hx hb dX3_isSettled_53 (by decide) ?_
              refine lv_istore_n (lv' := [(1, .int 1), (3, .int (nI u_19.2)), (2, .int (nI i)), (0, .ref (h 0))]) hx hb dX3_isSettled_57 rfl hl (by decide) rfl (fun ls hl => ?_)
              refine lv_iinc (v := (nI (i + 1))) (lv' := [(2, .int (nI (i + 1))), (1, .int 1), (3, .int (nI u_19.2)), (0, .ref (h 0))]) hx hb dX3_isSettled_58 hl (k := 2) rfl (nI_1 i) (by decide) rfl (fun ls hl => ?_)
              refine lv_goto (tgt := 9) hx hb dX3_isSettled_61 (by decide) ?_
              exact ih_9 (i + 1) u_19.1 1 (by omega) (by omega) (bP.t (fun j h9 => by by_cases e9 : j = i; (subst e9; exact ⟨u_19.2, u_19.1 u_19.2, ⟨u_19.1, hd_19, hb_19, rfl⟩, c_34, c_49⟩); exact (show ∀ j, j < i → stl N dom lk gr va K.1 K.2.2.2.1 j from Or.elim hinv_i (fun h8 => h8.2) (fun h8 => absurd h8.1 c_24)) j (by omega))) _ _ hG _ (lv_sub hl [0, 1, 3] rfl)
  exact loop_9 (N + 1) 0 ds 1 (by omega) (by omega) (bP.t (fun j h9 => absurd h9 (Nat.not_lt_zero _))) _ _ hG _ (lv_sub hl [0, 1, 2] rfl)

set_option maxHeartbeats 4000000 in
set_option maxRecDepth 100000 in
theorem c_X3_spread (l : Launch) (g : EN) (h : Nat → Nat) (N : Nat) (tk : Int32) (dom : Nat → Int32) (gr : Nat → Int32) (va : Nat → Int32) (dr : Nat → Int32) (off : Nat → Int64) (rt : Nat → Int64) (cnt : Int32) (lk : Nat → Int32) (dl : Nat → Int32) (td : Nat → Int32) (K : KM) (X : KM) (ds : Nat → Int32) (thr : Int32) (x : Int32) (hN : N ≤ 10)  : Cl l yX3_spread wsX3_spread ({ frames := 1, cells := 0, slots := 0, locals := 22 }) g [.ref (h 0), .int x] (mNet g h N tk dom gr va dr off rt cnt lk dl td K X ds thr) (fun (r : Int64) (u : Int32) => cd1 u (inR 0 x 1) ∧ (N = 0 → r = 0)) (fun (u : Int32) => (mNet g h N tk dom gr va dr off rt cnt lk dl td K X ds u)) := by
  refine Cl.of (cc := cX3_spread) (maxL := 8) (by decide) rfl (Nat.le_of_ble_eq_true rfl) ?_
  intro p e s m args below meth c A Q ls hM hG hRet hl
  have hx := hM.1
  have hb := hM.2.1
  have hown := hM.2.2.2.1
  have hts := hM.2.2.2.2
  have wRX3_76 : Cond.fieldLink RX3 76 "TimeNetModel" "thrown" "I" ∈ wsX3_spread := by decide +kernel
  have wRX3_72 : Cond.fieldLink RX3 72 "TimeNetModel" "nodeMany" "I" ∈ wsX3_spread := by decide +kernel
  have wRX3_22 : Cond.fieldLink RX3 22 "TimeNetModel" "offsets" "[J" ∈ wsX3_spread := by decide +kernel
  have wRX3_7 : Cond.fieldLink RX3 7 "TimeNetModel" "domains" "[I" ∈ wsX3_spread := by decide +kernel
  have hinX3 : ∀ w ∈ wsX30, w ∈ wsX3_spread := by decide +kernel
  have hl : lv_has ls 8 [(0, .ref (h 0)), (1, .int x)] := hl
  refine lv_aload_n hx hb dX3_spread_0 rfl (lv_at hl 0 rfl) ?_
  refine lv_iload_n hx hb dX3_spread_1 rfl (lv_at hl 1 rfl) ?_
  refine lv_iconst (v := 0) hx hb dX3_spread_2 (by decide) ?_
  refine lv_iconst (v := 1) hx hb dX3_spread_3 (by decide) ?_
  refine q_callSi (n := 3) (As := [.int x, .int 0, .int 1]) (rest := [.ref (h 0)]) hM hl.1 hG (c_X3_in l g h N tk dom gr va dr off rt cnt lk dl td K X ds thr x 0 1) rfl gX3_spread_X3_in (by decide +kernel) ⟨Nat.le_of_ble_eq_true rfl, Nat.le_of_ble_eq_true rfl⟩ rfl rfl (Nat.le_of_ble_eq_true rfl) dX3_spread_4 (c1 := 0) (s1 := 0) rfl rfl ⟨Nat.le_of_ble_eq_true rfl, Nat.le_of_ble_eq_true rfl⟩ (fun r_4 u_4 H locs hp_4 hG => ?_)
  rcases hp_4 with ⟨rfl, hp_4⟩ | ⟨rfl, hp_4⟩
  · refine lv_if_eq (tgt := 14) hx hb dX3_spread_7 (by decide) (fun c9 => False.elim (by revert c9; decide)) (fun _ => ?_)
    refine lv_iconst (v := 0) hx hb dX3_spread_10 (by decide) ?_
    refine lv_goto (tgt := 15) hx hb dX3_spread_11 (by decide) ?_
    refine q_put hM hG (C := RX3) (T := TX3) (n := 24) hinX3 tyX3 tyX3_ok nmX3 0 rfl rfl 17 (by decide) wRX3_76 rfl rfl rfl (Nat.le_of_ble_eq_true rfl) (ws1 := (mNet g h N tk dom gr va dr off rt cnt lk dl td K X ds 0)) rfl dX3_spread_15 (fun H locs hG => ?_)
    refine lv_lconst (v := 0) hx hb dX3_spread_18 (by decide) ?_
    refine lv_lstore_n (lv' := [(2, .long 0), (0, .ref (h 0)), (1, .int x)]) hx hb dX3_spread_19 rfl hl (by decide) rfl (fun ls hl => ?_)
    refine lv_iconst (v := 0) hx hb dX3_spread_20 (by decide) ?_
    refine lv_istore (lv' := [(4, .int 0), (2, .long 0), (0, .ref (h 0)), (1, .int x)]) hx hb dX3_spread_21 hl (by decide) rfl (fun ls hl => ?_)
    have loop_23 : ∀ (n9 k : Nat) (sp : Int64), k ≤ N → N < k + n9 → (k = 0 → sp = 0) → ∀ (H : Heap) (locs : List Loc), cC g (mNet g h N tk dom gr va dr off rt cnt lk dl td K X ds 0) A s H locs → ∀ (ls : Array Slot), lv_has ls 8 [(4, .int (nI k)), (2, .long sp), (0, .ref (h 0)), (1, .int x)] → W p l e ({ frames := 1, cells := 0, slots := 0, locals := 22 } : Room) s m args below meth c H locs 0 0 Q (F0 m 23 ls []) := by
      intro n9
      induction n9 with
      | zero => intro k sp h1 h2; exact absurd h2 (by omega)
      | succ n9 ih_23 =>
        intro k sp hle_k hlt9 hinv_k H locs hG ls hl
        refine lv_iload hx hb dX3_spread_23 (lv_at hl 0 rfl) ?_
        refine lv_aload_n hx hb dX3_spread_25 rfl (lv_at hl 2 rfl) ?_
        refine q_get hM hG (C := RX3) (T := TX3) (n := 24) hinX3 0 rfl rfl 0 (by decide) wRX3_72 rfl (v := .int (nI N)) rfl dX3_spread_26 ?_
        refine lv_icmp_ge (tgt := 116) hx hb dX3_spread_29 (by decide) (fun c_29 => ?_) (fun c_29 => ?_)
        · have hk : k = N := by have h9 := ctr_ge (a := k) (b := N) (by omega) (by omega) c_29; omega
          refine lv_lload_n hx hb dX3_spread_116 rfl (lv_at hl 1 rfl) ?_
          exact hRet sp 0 _ _ _ _ _ _ (⟨Or.inr ⟨rfl, hp_4⟩, fun h9 => hinv_k (by omega)⟩) hG (Nat.le_of_ble_eq_true rfl) (Nat.le_of_ble_eq_true rfl) dX3_spread_117
        · have hk : k < N := ctr_lt (by omega) (by omega) c_29
          have hkx : k < 10 := by omega
          refine lv_aload_n hx hb dX3_spread_32 rfl (lv_at hl 2 rfl) ?_
          refine q_get hM hG (C := RX3) (T := TX3) (n := 24) hinX3 0 rfl rfl 17 (by decide) wRX3_76 rfl (v := .int 0) rfl dX3_spread_33 ?_
          refine lv_if_ne (tgt := 116) hx hb dX3_spread_36 (by decide) (fun c9 => False.elim (by revert c9; decide)) (fun _ => ?_)
          refine lv_iconst (v := 0) hx hb dX3_spread_39 (by decide) ?_
          refine lv_istore (lv' := [(5, .int 0), (4, .int (nI k)), (2, .long sp), (0, .ref (h 0)), (1, .int x)]) hx hb dX3_spread_40 hl (by decide) rfl (fun ls hl => ?_)
          have loop_42 : ∀ (n9 z : Nat) (sp2 : Int64), z ≤ N → N < z + n9 → True → ∀ (H : Heap) (locs : List Loc), cC g (mNet g h N tk dom gr va dr off rt cnt lk dl td K X ds 0) A s H locs → ∀ (ls : Array Slot), lv_has ls 8 [(5, .int (nI z)), (4, .int (nI k)), (2, .long sp2), (0, .ref (h 0)), (1, .int x)] → W p l e ({ frames := 1, cells := 0, slots := 0, locals := 22 } : Room) s m args below meth c H locs 0 0 Q (F0 m 42 ls []) := by
            intro n9
            induction n9 with
            | zero => intro z sp2 h1 h2; exact absurd h2 (by omega)
            | succ n9 ih_42 =>
              intro z sp2 hle_z hlt9 hinv_z H locs hG ls hl
              refine lv_iload hx hb dX3_spread_42 (lv_at hl 0 rfl) ?_
              refine lv_aload_n hx hb dX3_spread_44 rfl (lv_at hl 3 rfl) ?_
              refine q_get hM hG (C := RX3) (T := TX3) (n := 24) hinX3 0 rfl rfl 0 (by decide) wRX3_72 rfl (v := .int (nI N)) rfl dX3_spread_45 ?_
              refine lv_icmp_ge (tgt := 110) hx hb dX3_spread_48 (by decide) (fun c_48 => ?_) (fun c_48 => ?_)
              · have hz : z = N := by have h9 := ctr_ge (a := z) (b := N) (by omega) (by omega) c_48; omega
                refine lv_iinc (v := (nI (k + 1))) (lv' := [(4, .int (nI (k + 1))), (5, .int (nI z)), (2, .long sp2), (0, .ref (h 0)), (1, .int x)]) hx hb dX3_spread_110 hl (k := 1) rfl (nI_1 k) (by decide) rfl (fun ls hl => ?_)
                refine lv_goto (tgt := 23) hx hb dX3_spread_113 (by decide) ?_
                exact ih_23 (k + 1) sp2 (by omega) (by omega) (fun h9 => absurd h9 (Nat.succ_ne_zero _)) _ _ hG _ (lv_sub hl [0, 2, 3, 4] rfl)
              · have hz : z < N := ctr_lt (by omega) (by omega) c_48
                have hzx : z < 10 := by omega
                refine lv_aload_n hx hb dX3_spread_51 rfl (lv_at hl 3 rfl) ?_
                refine q_get hM hG (C := RX3) (T := TX3) (n := 24) hinX3 0 rfl rfl 6 (by decide) wRX3_22 rfl (v := .ref (h 5)) rfl dX3_spread_52 ?_
                refine lv_iload hx hb dX3_spread_55 (lv_at hl 1 rfl) ?_
                refine q_lald hM hG 5 rfl hkx (by decide) dX3_spread_57 ?_
                refine lv_aload_n hx hb dX3_spread_58 rfl (lv_at hl 3 rfl) ?_
                refine q_get hM hG (C := RX3) (T := TX3) (n := 24) hinX3 0 rfl rfl 6 (by decide) wRX3_22 rfl (v := .ref (h 5)) rfl dX3_spread_59 ?_
                refine lv_iload hx hb dX3_spread_62 (lv_at hl 0 rfl) ?_
                refine q_lald hM hG 5 rfl hzx (by decide) dX3_spread_64 ?_
                refine lv_lsub hx hb dX3_spread_65 ?_
                refine lv_lstore (lv' := [(6, .long ((off k) - (off z))), (5, .int (nI z)), (4, .int (nI k)), (2, .long sp2), (0, .ref (h 0)), (1, .int x)]) hx hb dX3_spread_66 hl (by decide) rfl (fun ls hl => ?_)
                refine lv_aload_n hx hb dX3_spread_68 rfl (lv_at hl 4 rfl) ?_
                refine q_get hM hG (C := RX3) (T := TX3) (n := 24) hinX3 0 rfl rfl 2 (by decide) wRX3_7 rfl (v := .ref (h 1)) rfl dX3_spread_69 ?_
                refine lv_iload hx hb dX3_spread_72 (lv_at hl 2 rfl) ?_
                refine q_iald hM hG 1 rfl hkx (by decide) dX3_spread_74 ?_
                refine lv_iload_n hx hb dX3_spread_75 rfl (lv_at hl 5 rfl) ?_
                refine lv_icmp_ne (tgt := 102) hx hb dX3_spread_76 (by decide) (fun c_76 => ?_) (fun c_76 => ?_)
                · refine lv_lload_n hx hb dX3_spread_102 rfl (lv_at hl 3 rfl) ?_
                  refine lv_lstore_n (lv' := [(2, .long sp2), (6, .long ((off k) - (off z))), (5, .int (nI z)), (4, .int (nI k)), (0, .ref (h 0)), (1, .int x)]) hx hb dX3_spread_103 rfl hl (by decide) rfl (fun ls hl => ?_)
                  refine lv_iinc (v := (nI (z + 1))) (lv' := [(5, .int (nI (z + 1))), (2, .long sp2), (6, .long ((off k) - (off z))), (4, .int (nI k)), (0, .ref (h 0)), (1, .int x)]) hx hb dX3_spread_104 hl (k := 2) rfl (nI_1 z) (by decide) rfl (fun ls hl => ?_)
                  refine lv_goto (tgt := 42) hx hb dX3_spread_107 (by decide) ?_
                  exact ih_42 (z + 1) sp2 (by omega) (by omega) trivial _ _ hG _ (lv_sub hl [0, 3, 1, 4, 5] rfl)
                · refine lv_aload_n hx hb dX3_spread_79 rfl (lv_at hl 4 rfl) ?_
                  refine q_get hM hG (C := RX3) (T := TX3) (n := 24) hinX3 0 rfl rfl 2 (by decide) wRX3_7 rfl (v := .ref (h 1)) rfl dX3_spread_80 ?_
                  refine lv_iload hx hb dX3_spread_83 (lv_at hl 1 rfl) ?_
                  refine q_iald hM hG 1 rfl hzx (by decide) dX3_spread_85 ?_
                  refine lv_iload_n hx hb dX3_spread_86 rfl (lv_at hl 5 rfl) ?_
                  refine lv_icmp_ne (tgt := 102) hx hb dX3_spread_87 (by decide) (fun c_87 => ?_) (fun c_87 => ?_)
                  · refine lv_lload_n hx hb dX3_spread_102 rfl (lv_at hl 3 rfl) ?_
                    refine lv_lstore_n (lv' := [(2, .long sp2), (6, .long ((off k) - (off z))), (5, .int (nI z)), (4, .int (nI k)), (0, .ref (h 0)), (1, .int x)]) hx hb dX3_spread_103 rfl hl (by decide) rfl (fun ls hl => ?_)
                    refine lv_iinc (v := (nI (z + 1))) (lv' := [(5, .int (nI (z + 1))), (2, .long sp2), (6, .long ((off k) - (off z))), (4, .int (nI k)), (0, .ref (h 0)), (1, .int x)]) hx hb dX3_spread_104 hl (k := 2) rfl (nI_1 z) (by decide) rfl (fun ls hl => ?_)
                    refine lv_goto (tgt := 42) hx hb dX3_spread_107 (by decide) ?_
                    exact ih_42 (z + 1) sp2 (by omega) (by omega) trivial _ _ hG _ (lv_sub hl [0, 3, 1, 4, 5] rfl)
                  · refine lv_lload hx hb dX3_spread_90 (lv_at hl 0 rfl) ?_
                    refine lv_lload_n hx hb dX3_spread_92 rfl (lv_at hl 3 rfl) ?_
                    refine W.lcmp hx hb dX3_spread_93 ?_
                    refine lv_if_le (tgt := 102) hx hb dX3_spread_94 (by decide) (fun c_94 => ?_) (fun c_94 => ?_)
                    · refine lv_lload_n hx hb dX3_spread_102 rfl (lv_at hl 3 rfl) ?_
                      refine lv_lstore_n (lv' := [(2, .long sp2), (6, .long ((off k) - (off z))), (5, .int (nI z)), (4, .int (nI k)), (0, .ref (h 0)), (1, .int x)]) hx hb dX3_spread_103 rfl hl (by decide) rfl (fun ls hl => ?_)
                      refine lv_iinc (v := (nI (z + 1))) (lv' := [(5, .int (nI (z + 1))), (2, .long sp2), (6, .long ((off k) - (off z))), (4, .int (nI k)), (0, .ref (h 0)), (1, .int x)]) hx hb dX3_spread_104 hl (k := 2) rfl (nI_1 z) (by decide) rfl (fun ls hl => ?_)
                      refine lv_goto (tgt := 42) hx hb dX3_spread_107 (by decide) ?_
                      exact ih_42 (z + 1) sp2 (by omega) (by omega) trivial _ _ hG _ (lv_sub hl [0, 3, 1, 4, 5] rfl)
                    · refine lv_lload hx hb dX3_spread_97 (lv_at hl 0 rfl) ?_
                      refine lv_goto (tgt := 103) hx hb dX3_spread_99 (by decide) ?_
                      refine lv_lstore_n (lv' := [(2, .long ((off k) - (off z))), (6, .long ((off k) - (off z))), (5, .int (nI z)), (4, .int (nI k)), (0, .ref (h 0)), (1, .int x)]) hx hb dX3_spread_103 rfl hl (by decide) rfl (fun ls hl => ?_)
                      refine lv_iinc (v := (nI (z + 1))) (lv' := [(5, .int (nI (z + 1))), (2, .long ((off k) - (off z))), (6, .long ((off k) - (off z))), (4, .int (nI k)), (0, .ref (h 0)), (1, .int x)]) hx hb dX3_spread_104 hl (k := 2) rfl (nI_1 z) (by decide) rfl (fun ls hl => ?_)
                      refine lv_goto (tgt := 42) hx hb dX3_spread_107 (by decide) ?_
                      exact ih_42 (z + 1) ((off k) - (off z)) (by omega) (by omega) trivial _ _ hG _ (lv_sub hl [0, 3, 1, 4, 5] rfl)
          exact loop_42 (N + 1) 0 sp (by omega) (by omega) trivial _ _ hG _ (lv_sub hl [0, 1, 2, 3, 4] rfl)
    exact loop_23 (N + 1) 0 0 (by omega) (by omega) (fun _ => rfl) _ _ hG _ (lv_sub hl [0, 1, 2, 3] rfl)
  · refine lv_if_eq (tgt := 14) hx hb dX3_spread_7 (by decide) (fun _ => ?_) (fun c9 => False.elim (by revert c9; decide))
    refine lv_iconst (v := 1) hx hb dX3_spread_14 (by decide) ?_
    refine q_put hM hG (C := RX3) (T := TX3) (n := 24) hinX3 tyX3 tyX3_ok nmX3 0 rfl rfl 17 (by decide) wRX3_76 rfl rfl rfl (Nat.le_of_ble_eq_true rfl) (ws1 := (mNet g h N tk dom gr va dr off rt cnt lk dl td K X ds 1)) rfl dX3_spread_15 (fun H locs hG => ?_)
    refine lv_lconst (v := 0) hx hb dX3_spread_18 (by decide) ?_
    refine lv_lstore_n (lv' := [(2, .long 0), (0, .ref (h 0)), (1, .int x)]) hx hb dX3_spread_19 rfl hl (by decide) rfl (fun ls hl => ?_)
    refine lv_iconst (v := 0) hx hb dX3_spread_20 (by decide) ?_
    refine lv_istore (lv' := [(4, .int 0), (2, .long 0), (0, .ref (h 0)), (1, .int x)]) hx hb dX3_spread_21 hl (by decide) rfl (fun ls hl => ?_)
    refine lv_iload hx hb dX3_spread_23 (lv_at hl 0 rfl) ?_
    refine lv_aload_n hx hb dX3_spread_25 rfl (lv_at hl 2 rfl) ?_
    refine q_get hM hG (C := RX3) (T := TX3) (n := 24) hinX3 0 rfl rfl 0 (by decide) wRX3_72 rfl (v := .int (nI N)) rfl dX3_spread_26 ?_
    refine lv_icmp_ge (tgt := 116) hx hb dX3_spread_29 (by decide) (fun c_29 => ?_) (fun c_29 => ?_)
    · refine lv_lload_n hx hb dX3_spread_116 rfl (lv_at hl 1 rfl) ?_
      exact hRet 0 1 _ _ _ _ _ _ (⟨Or.inl ⟨rfl, hp_4⟩, fun _ => rfl⟩) hG (Nat.le_of_ble_eq_true rfl) (Nat.le_of_ble_eq_true rfl) dX3_spread_117
    · refine lv_aload_n hx hb dX3_spread_32 rfl (lv_at hl 2 rfl) ?_
      refine q_get hM hG (C := RX3) (T := TX3) (n := 24) hinX3 0 rfl rfl 17 (by decide) wRX3_76 rfl (v := .int 1) rfl dX3_spread_33 ?_
      refine lv_if_ne (tgt := 116) hx hb dX3_spread_36 (by decide) (fun _ => ?_) (fun c9 => False.elim (by revert c9; decide))
      refine lv_lload_n hx hb dX3_spread_116 rfl (lv_at hl 1 rfl) ?_
      exact hRet 0 1 _ _ _ _ _ _ (⟨Or.inl ⟨rfl, hp_4⟩, fun _ => rfl⟩) hG (Nat.le_of_ble_eq_true rfl) (Nat.le_of_ble_eq_true rfl) dX3_spread_117
