/-! the class's spread, wholly -/
theorem spl_a {c : Nat} {o lo : Int64} {fst : Int32} (hf : c = 0 ∧ fst = 1 ∨ ¬ c = 0 ∧ fst = 0) (h : ¬ fst = 0) : (c = 0 ∨ o < lo) ∧ o = o ∨ ¬ (c = 0 ∨ o < lo) ∧ o = lo :=
  Or.inl ⟨hf.elim (fun h9 => Or.inl h9.1) (fun h9 => absurd h9.2 h), rfl⟩
theorem spl_b {c : Nat} {o lo : Int64} {fst : Int32} (hf : c = 0 ∧ fst = 1 ∨ ¬ c = 0 ∧ fst = 0) (h : fst = 0) : (c = 0 ∨ o < lo) ∧ (if o < lo then o else lo) = o ∨ ¬ (c = 0 ∨ o < lo) ∧ (if o < lo then o else lo) = lo := by
  have hc : ¬ c = 0 := hf.elim (fun h9 => absurd (h9.2.symm.trans h) (by decide)) And.left
  by_cases e : o < lo
  · exact Or.inl ⟨Or.inr e, if_pos e⟩
  · exact Or.inr ⟨fun h9 => h9.elim hc e, if_neg e⟩
theorem sph_a {c : Nat} {o hi : Int64} {fst : Int32} (hf : c = 0 ∧ fst = 1 ∨ ¬ c = 0 ∧ fst = 0) (h : ¬ fst = 0) : (c = 0 ∨ hi < o) ∧ o = o ∨ ¬ (c = 0 ∨ hi < o) ∧ o = hi :=
  Or.inl ⟨hf.elim (fun h9 => Or.inl h9.1) (fun h9 => absurd h9.2 h), rfl⟩
theorem sph_b {c : Nat} {o hi : Int64} {fst : Int32} (hf : c = 0 ∧ fst = 1 ∨ ¬ c = 0 ∧ fst = 0) (h : fst = 0) : (c = 0 ∨ hi < o) ∧ (if o < hi then hi else o) = o ∨ ¬ (c = 0 ∨ hi < o) ∧ (if o < hi then hi else o) = hi := by
  have hc : ¬ c = 0 := hf.elim (fun h9 => absurd (h9.2.symm.trans h) (by decide)) And.left
  by_cases e : hi < o
  · exact Or.inl ⟨Or.inr e, if_neg (fun h9 => absurd (Int64.lt_trans e h9) Int64.lt_irrefl)⟩
  · refine Or.inr ⟨fun h9 => h9.elim hc e, ?_⟩
    by_cases e2 : o < hi
    · exact if_pos e2
    · rw [if_neg e2]; exact Int64.le_antisymm (Int64.not_lt.mp e) (Int64.not_lt.mp e2)
set_option maxHeartbeats 4000000 in
set_option maxRecDepth 100000 in
theorem c_X2_spreadF (l : Launch) (hl0 : l.stackTraces = false) (g : EN) (h : Nat → Nat) (N : Nat) (tk : Int32) (dom : Nat → Int32) (gr : Nat → Int32) (va : Nat → Int32) (dr : Nat → Int32) (off : Nat → Int64) (rt : Nat → Int64) (cnt : Int32) (lk : Nat → Int32) (dl : Nat → Int32) (td : Nat → Int32) (K : KT) (E : KT) (ds : Nat → Int32) (x : Int32) (hN : N ≤ 10)  : Xl l yX2_spread wsX2_spread ({ frames := 7, cells := 1, slots := 6, locals := 104 }) g [.ref (h 0), .int x] (cNet g h N tk dom gr va dr off rt cnt lk dl td K E ds) (fun E => ex1 E "java/lang/IllegalArgumentException" (inR 0 x 1)) (fun (r : Int64) (_ : Unit) => inR 0 x 1 ∧ r = sprd dom off x N) (fun (_ : Unit) => (cNet g h N tk dom gr va dr off rt cnt lk dl td K E ds)) := by
  refine Xl.of (cc := cX2_spread) (maxL := 8) hl0 (by decide) rfl (Nat.le_of_ble_eq_true rfl) ?_
  intro p e s m args below meth c A Q ls hM hG hRet hThr hNew hl
  have hx := hM.1
  have hb := hM.2.1
  have hown := hM.2.2.2.1
  have hts := hM.2.2.2.2
  have wRX2_49 : Cond.fieldLink RX2 49 "TimeNet" "nodeCount" "I" ∈ wsX2_spread := by decide +kernel
  have wRX2_9 : Cond.fieldLink RX2 9 "TimeNet" "domainOf" "[I" ∈ wsX2_spread := by decide +kernel
  have wRX2_22 : Cond.fieldLink RX2 22 "TimeNet" "offsetOf" "[J" ∈ wsX2_spread := by decide +kernel
  have hinX2 : ∀ w ∈ wsX20, w ∈ wsX2_spread := by decide +kernel
  have hl : lv_has ls 8 [(0, .ref (h 0)), (1, .int x)] := hl
  refine lv_iload_n hx hb dX2_spread_0 rfl (lv_at hl 1 rfl) ?_
  refine lv_iconst (v := 0) hx hb dX2_spread_1 (by decide) ?_
  refine lv_iconst (v := 1) hx hb dX2_spread_2 (by decide) ?_
  by_cases hp_3 : inR 0 x 1
  · refine q_callSv (n := 3) (As := [.int x, .int 0, .int 1]) (rest := []) hM hl.1 hG (c_X2_requireWithin l g h N tk dom gr va dr off rt cnt lk dl td K E ds x 0 1  hp_3) rfl gX2_spread_X2_requireWithin (by decide +kernel) ⟨Nat.le_of_ble_eq_true rfl, Nat.le_of_ble_eq_true rfl⟩ rfl rfl (Nat.le_of_ble_eq_true rfl) dX2_spread_3 (c1 := 0) (s1 := 0) rfl rfl ⟨Nat.le_of_ble_eq_true rfl, Nat.le_of_ble_eq_true rfl⟩ (fun u_3 H locs h9 hG => ?_)
    refine lv_iconst (v := 1) hx hb dX2_spread_6 (by decide) ?_
    refine lv_istore_n (lv' := [(2, .int 1), (0, .ref (h 0)), (1, .int x)]) hx hb dX2_spread_7 rfl hl (by decide) rfl (fun ls hl => ?_)
    refine lv_lconst (v := 0) hx hb dX2_spread_8 (by decide) ?_
    refine lv_lstore_n (lv' := [(3, .long 0), (2, .int 1), (0, .ref (h 0)), (1, .int x)]) hx hb dX2_spread_9 rfl hl (by decide) rfl (fun ls hl => ?_)
    refine lv_lconst (v := 0) hx hb dX2_spread_10 (by decide) ?_
    refine lv_lstore (lv' := [(5, .long 0), (3, .long 0), (2, .int 1), (0, .ref (h 0)), (1, .int x)]) hx hb dX2_spread_11 hl (by decide) rfl (fun ls hl => ?_)
    refine lv_iconst (v := 0) hx hb dX2_spread_13 (by decide) ?_
    refine lv_istore (lv' := [(7, .int 0), (5, .long 0), (3, .long 0), (2, .int 1), (0, .ref (h 0)), (1, .int x)]) hx hb dX2_spread_14 hl (by decide) rfl (fun ls hl => ?_)
    have loop_16 : ∀ (n9 k : Nat) (hi : Int64) (lo : Int64) (fst : Int32), k ≤ N → N < k + n9 → (∃ c9, spf dom off x k = (c9, lo, hi) ∧ (c9 = 0 ∧ fst = 1 ∨ ¬ c9 = 0 ∧ fst = 0)) → ∀ (H : Heap) (locs : List Loc), cC g (cNet g h N tk dom gr va dr off rt cnt lk dl td K E ds) A s H locs → ∀ (ls : Array Slot), lv_has ls 8 [(7, .int (nI k)), (5, .long hi), (3, .long lo), (2, .int fst), (0, .ref (h 0)), (1, .int x)] → W p l e ({ frames := 7, cells := 1, slots := 6, locals := 104 } : Room) s m args below meth c H locs 0 0 Q (F0 m 16 ls []) := by
      intro n9
      induction n9 with
      | zero => intro k hi lo fst h1 h2; exact absurd h2 (by omega)
      | succ n9 ih_16 =>
        intro k hi lo fst hle_k hlt9 hinv_k H locs hG ls hl
        obtain ⟨c0, hs0, hf0⟩ := hinv_k
        refine lv_iload hx hb dX2_spread_16 (lv_at hl 0 rfl) ?_
        refine lv_aload_n hx hb dX2_spread_18 rfl (lv_at hl 4 rfl) ?_
        refine q_get hM hG (C := RX2) (T := TX2) (n := 12) hinX2 0 rfl rfl 10 (by decide) wRX2_49 rfl (v := .int (nI N)) rfl dX2_spread_19 ?_
        refine lv_icmp_ge (tgt := 98) hx hb dX2_spread_22 (by decide) (fun c_22 => ?_) (fun c_22 => ?_)
        · have hk : k = N := by have h9 := ctr_ge (a := k) (b := N) (by omega) (by omega) c_22; omega
          refine lv_lload hx hb dX2_spread_98 (lv_at hl 1 rfl) ?_
          refine lv_lload_n hx hb dX2_spread_100 rfl (lv_at hl 2 rfl) ?_
          refine lv_lsub hx hb dX2_spread_101 ?_
          exact hRet (hi - lo) () _ _ _ _ _ _ (⟨hp_3, by rw [hk] at hs0; unfold sprd; rw [hs0]⟩) hG (Nat.le_of_ble_eq_true rfl) (Nat.le_of_ble_eq_true rfl) dX2_spread_102
        · have hk : k < N := ctr_lt (by omega) (by omega) c_22
          have hkx : k < 10 := by omega
          refine lv_aload_n hx hb dX2_spread_25 rfl (lv_at hl 4 rfl) ?_
          refine q_get hM hG (C := RX2) (T := TX2) (n := 12) hinX2 0 rfl rfl 0 (by decide) wRX2_9 rfl (v := .ref (h 1)) rfl dX2_spread_26 ?_
          refine lv_iload hx hb dX2_spread_29 (lv_at hl 0 rfl) ?_
          refine q_iald hM hG 1 rfl hkx (by decide) dX2_spread_31 ?_
          refine lv_iload_n hx hb dX2_spread_32 rfl (lv_at hl 5 rfl) ?_
          refine lv_icmp_ne (tgt := 92) hx hb dX2_spread_33 (by decide) (fun c_33 => ?_) (fun c_33 => ?_)
          · refine lv_iinc (v := (nI (k + 1))) (lv' := [(7, .int (nI (k + 1))), (5, .long hi), (3, .long lo), (2, .int fst), (0, .ref (h 0)), (1, .int x)]) hx hb dX2_spread_92 hl (k := 0) rfl (nI_1 k) (by decide) rfl (fun ls hl => ?_)
            refine lv_goto (tgt := 16) hx hb dX2_spread_95 (by decide) ?_
            exact ih_16 (k + 1) hi lo fst (by omega) (by omega) (⟨c0, (spf_f c_33).trans hs0, hf0⟩) _ _ hG _ (lv_sub hl [0, 1, 2, 3, 4, 5] rfl)
          · refine lv_iload_n hx hb dX2_spread_36 rfl (lv_at hl 3 rfl) ?_
            refine lv_if_eq (tgt := 50) hx hb dX2_spread_37 (by decide) (fun c_37 => ?_) (fun c_37 => ?_)
            · refine lv_lload_n hx hb dX2_spread_50 rfl (lv_at hl 2 rfl) ?_
              refine lv_aload_n hx hb dX2_spread_51 rfl (lv_at hl 4 rfl) ?_
              refine q_get hM hG (C := RX2) (T := TX2) (n := 12) hinX2 0 rfl rfl 4 (by decide) wRX2_22 rfl (v := .ref (h 5)) rfl dX2_spread_52 ?_
              refine lv_iload hx hb dX2_spread_55 (lv_at hl 0 rfl) ?_
              refine q_lald hM hG 5 rfl hkx (by decide) dX2_spread_57 ?_
              refine va_mmin_long hx hb (by rw [hM.2.2.1]; exact hl.1.symm) hown (hts (.methodLink RX2 135 Lib.MathLoose.min_long.x) (by decide +kernel)) (hts (.static Lib.MathLoose.min_long.x) (by decide +kernel)) (hts (.initialized "java/lang/Math") (by decide +kernel)) (hts (.code Lib.MathLoose.min_long.x Lib.MathLoose.min_long.code 4 (some .long)) (by decide +kernel)) (Nat.le_of_ble_eq_true rfl) (Nat.le_of_ble_eq_true rfl) (Nat.le_of_ble_eq_true rfl) (Nat.le_of_ble_eq_true rfl) dX2_spread_58 ?_
              refine lv_lstore_n (lv' := [(3, .long (if (off k) < lo then (off k) else lo)), (7, .int (nI k)), (5, .long hi), (2, .int fst), (0, .ref (h 0)), (1, .int x)]) hx hb dX2_spread_61 rfl hl (by decide) rfl (fun ls hl => ?_)
              refine lv_iload_n hx hb dX2_spread_62 rfl (lv_at hl 3 rfl) ?_
              refine lv_if_eq (tgt := 76) hx hb dX2_spread_63 (by decide) (fun c_63 => ?_) (fun c_63 => ?_)
              · refine lv_lload hx hb dX2_spread_76 (lv_at hl 2 rfl) ?_
                refine lv_aload_n hx hb dX2_spread_78 rfl (lv_at hl 4 rfl) ?_
                refine q_get hM hG (C := RX2) (T := TX2) (n := 12) hinX2 0 rfl rfl 4 (by decide) wRX2_22 rfl (v := .ref (h 5)) rfl dX2_spread_79 ?_
                refine lv_iload hx hb dX2_spread_82 (lv_at hl 1 rfl) ?_
                refine q_lald hM hG 5 rfl hkx (by decide) dX2_spread_84 ?_
                refine va_mmax_long hx hb (by rw [hM.2.2.1]; exact hl.1.symm) hown (hts (.methodLink RX2 141 Lib.MathLoose.max_long.x) (by decide +kernel)) (hts (.static Lib.MathLoose.max_long.x) (by decide +kernel)) (hts (.initialized "java/lang/Math") (by decide +kernel)) (hts (.code Lib.MathLoose.max_long.x Lib.MathLoose.max_long.code 4 (some .long)) (by decide +kernel)) (Nat.le_of_ble_eq_true rfl) (Nat.le_of_ble_eq_true rfl) (Nat.le_of_ble_eq_true rfl) (Nat.le_of_ble_eq_true rfl) dX2_spread_85 ?_
                refine lv_lstore (lv' := [(5, .long (if (off k) < hi then hi else (off k))), (3, .long (if (off k) < lo then (off k) else lo)), (7, .int (nI k)), (2, .int fst), (0, .ref (h 0)), (1, .int x)]) hx hb dX2_spread_88 hl (by decide) rfl (fun ls hl => ?_)
                refine lv_iconst (v := 0) hx hb dX2_spread_90 (by decide) ?_
                refine lv_istore_n (lv' := [(2, .int 0), (5, .long (if (off k) < hi then hi else (off k))), (3, .long (if (off k) < lo then (off k) else lo)), (7, .int (nI k)), (0, .ref (h 0)), (1, .int x)]) hx hb dX2_spread_91 rfl hl (by decide) rfl (fun ls hl => ?_)
                refine lv_iinc (v := (nI (k + 1))) (lv' := [(7, .int (nI (k + 1))), (2, .int 0), (5, .long (if (off k) < hi then hi else (off k))), (3, .long (if (off k) < lo then (off k) else lo)), (0, .ref (h 0)), (1, .int x)]) hx hb dX2_spread_92 hl (k := 3) rfl (nI_1 k) (by decide) rfl (fun ls hl => ?_)
                refine lv_goto (tgt := 16) hx hb dX2_spread_95 (by decide) ?_
                exact ih_16 (k + 1) (if (off k) < hi then hi else (off k)) (if (off k) < lo then (off k) else lo) 0 (by omega) (by omega) (⟨c0 + 1, spf_t hs0 c_33 (spl_b hf0 c_37) (sph_b hf0 c_63), Or.inr ⟨Nat.succ_ne_zero _, rfl⟩⟩) _ _ hG _ (lv_sub hl [0, 2, 3, 1, 4, 5] rfl)
              · refine lv_aload_n hx hb dX2_spread_66 rfl (lv_at hl 4 rfl) ?_
                refine q_get hM hG (C := RX2) (T := TX2) (n := 12) hinX2 0 rfl rfl 4 (by decide) wRX2_22 rfl (v := .ref (h 5)) rfl dX2_spread_67 ?_
                refine lv_iload hx hb dX2_spread_70 (lv_at hl 1 rfl) ?_
                refine q_lald hM hG 5 rfl hkx (by decide) dX2_spread_72 ?_
                refine lv_goto (tgt := 88) hx hb dX2_spread_73 (by decide) ?_
                refine lv_lstore (lv' := [(5, .long (off k)), (3, .long (if (off k) < lo then (off k) else lo)), (7, .int (nI k)), (2, .int fst), (0, .ref (h 0)), (1, .int x)]) hx hb dX2_spread_88 hl (by decide) rfl (fun ls hl => ?_)
                refine lv_iconst (v := 0) hx hb dX2_spread_90 (by decide) ?_
                refine lv_istore_n (lv' := [(2, .int 0), (5, .long (off k)), (3, .long (if (off k) < lo then (off k) else lo)), (7, .int (nI k)), (0, .ref (h 0)), (1, .int x)]) hx hb dX2_spread_91 rfl hl (by decide) rfl (fun ls hl => ?_)
                refine lv_iinc (v := (nI (k + 1))) (lv' := [(7, .int (nI (k + 1))), (2, .int 0), (5, .long (off k)), (3, .long (if (off k) < lo then (off k) else lo)), (0, .ref (h 0)), (1, .int x)]) hx hb dX2_spread_92 hl (k := 3) rfl (nI_1 k) (by decide) rfl (fun ls hl => ?_)
                refine lv_goto (tgt := 16) hx hb dX2_spread_95 (by decide) ?_
                exact ih_16 (k + 1) (off k) (if (off k) < lo then (off k) else lo) 0 (by omega) (by omega) (⟨c0 + 1, spf_t hs0 c_33 (spl_b hf0 c_37) (sph_a hf0 c_63), Or.inr ⟨Nat.succ_ne_zero _, rfl⟩⟩) _ _ hG _ (lv_sub hl [0, 2, 3, 1, 4, 5] rfl)
            · refine lv_aload_n hx hb dX2_spread_40 rfl (lv_at hl 4 rfl) ?_
              refine q_get hM hG (C := RX2) (T := TX2) (n := 12) hinX2 0 rfl rfl 4 (by decide) wRX2_22 rfl (v := .ref (h 5)) rfl dX2_spread_41 ?_
              refine lv_iload hx hb dX2_spread_44 (lv_at hl 0 rfl) ?_
              refine q_lald hM hG 5 rfl hkx (by decide) dX2_spread_46 ?_
              refine lv_goto (tgt := 61) hx hb dX2_spread_47 (by decide) ?_
              refine lv_lstore_n (lv' := [(3, .long (off k)), (7, .int (nI k)), (5, .long hi), (2, .int fst), (0, .ref (h 0)), (1, .int x)]) hx hb dX2_spread_61 rfl hl (by decide) rfl (fun ls hl => ?_)
              refine lv_iload_n hx hb dX2_spread_62 rfl (lv_at hl 3 rfl) ?_
              refine lv_if_eq (tgt := 76) hx hb dX2_spread_63 (by decide) (fun c_63 => ?_) (fun c_63 => ?_)
              · refine lv_lload hx hb dX2_spread_76 (lv_at hl 2 rfl) ?_
                refine lv_aload_n hx hb dX2_spread_78 rfl (lv_at hl 4 rfl) ?_
                refine q_get hM hG (C := RX2) (T := TX2) (n := 12) hinX2 0 rfl rfl 4 (by decide) wRX2_22 rfl (v := .ref (h 5)) rfl dX2_spread_79 ?_
                refine lv_iload hx hb dX2_spread_82 (lv_at hl 1 rfl) ?_
                refine q_lald hM hG 5 rfl hkx (by decide) dX2_spread_84 ?_
                refine va_mmax_long hx hb (by rw [hM.2.2.1]; exact hl.1.symm) hown (hts (.methodLink RX2 141 Lib.MathLoose.max_long.x) (by decide +kernel)) (hts (.static Lib.MathLoose.max_long.x) (by decide +kernel)) (hts (.initialized "java/lang/Math") (by decide +kernel)) (hts (.code Lib.MathLoose.max_long.x Lib.MathLoose.max_long.code 4 (some .long)) (by decide +kernel)) (Nat.le_of_ble_eq_true rfl) (Nat.le_of_ble_eq_true rfl) (Nat.le_of_ble_eq_true rfl) (Nat.le_of_ble_eq_true rfl) dX2_spread_85 ?_
                refine lv_lstore (lv' := [(5, .long (if (off k) < hi then hi else (off k))), (3, .long (off k)), (7, .int (nI k)), (2, .int fst), (0, .ref (h 0)), (1, .int x)]) hx hb dX2_spread_88 hl (by decide) rfl (fun ls hl => ?_)
                refine lv_iconst (v := 0) hx hb dX2_spread_90 (by decide) ?_
                refine lv_istore_n (lv' := [(2, .int 0), (5, .long (if (off k) < hi then hi else (off k))), (3, .long (off k)), (7, .int (nI k)), (0, .ref (h 0)), (1, .int x)]) hx hb dX2_spread_91 rfl hl (by decide) rfl (fun ls hl => ?_)
                refine lv_iinc (v := (nI (k + 1))) (lv' := [(7, .int (nI (k + 1))), (2, .int 0), (5, .long (if (off k) < hi then hi else (off k))), (3, .long (off k)), (0, .ref (h 0)), (1, .int x)]) hx hb dX2_spread_92 hl (k := 3) rfl (nI_1 k) (by decide) rfl (fun ls hl => ?_)
                refine lv_goto (tgt := 16) hx hb dX2_spread_95 (by decide) ?_
                exact ih_16 (k + 1) (if (off k) < hi then hi else (off k)) (off k) 0 (by omega) (by omega) (⟨c0 + 1, spf_t hs0 c_33 (spl_a hf0 c_37) (sph_b hf0 c_63), Or.inr ⟨Nat.succ_ne_zero _, rfl⟩⟩) _ _ hG _ (lv_sub hl [0, 2, 3, 1, 4, 5] rfl)
              · refine lv_aload_n hx hb dX2_spread_66 rfl (lv_at hl 4 rfl) ?_
                refine q_get hM hG (C := RX2) (T := TX2) (n := 12) hinX2 0 rfl rfl 4 (by decide) wRX2_22 rfl (v := .ref (h 5)) rfl dX2_spread_67 ?_
                refine lv_iload hx hb dX2_spread_70 (lv_at hl 1 rfl) ?_
                refine q_lald hM hG 5 rfl hkx (by decide) dX2_spread_72 ?_
                refine lv_goto (tgt := 88) hx hb dX2_spread_73 (by decide) ?_
                refine lv_lstore (lv' := [(5, .long (off k)), (3, .long (off k)), (7, .int (nI k)), (2, .int fst), (0, .ref (h 0)), (1, .int x)]) hx hb dX2_spread_88 hl (by decide) rfl (fun ls hl => ?_)
                refine lv_iconst (v := 0) hx hb dX2_spread_90 (by decide) ?_
                refine lv_istore_n (lv' := [(2, .int 0), (5, .long (off k)), (3, .long (off k)), (7, .int (nI k)), (0, .ref (h 0)), (1, .int x)]) hx hb dX2_spread_91 rfl hl (by decide) rfl (fun ls hl => ?_)
                refine lv_iinc (v := (nI (k + 1))) (lv' := [(7, .int (nI (k + 1))), (2, .int 0), (5, .long (off k)), (3, .long (off k)), (0, .ref (h 0)), (1, .int x)]) hx hb dX2_spread_92 hl (k := 3) rfl (nI_1 k) (by decide) rfl (fun ls hl => ?_)
                refine lv_goto (tgt := 16) hx hb dX2_spread_95 (by decide) ?_
                exact ih_16 (k + 1) (off k) (off k) 0 (by omega) (by omega) (⟨c0 + 1, spf_t hs0 c_33 (spl_a hf0 c_37) (sph_a hf0 c_63), Or.inr ⟨Nat.succ_ne_zero _, rfl⟩⟩) _ _ hG _ (lv_sub hl [0, 2, 3, 1, 4, 5] rfl)
    exact loop_16 (N + 1) 0 0 0 1 (by omega) (by omega) (⟨0, rfl, Or.inl ⟨rfl, rfl⟩⟩) _ _ hG _ (lv_sub hl [0, 1, 2, 3, 4, 5] rfl)
  · refine q_xcallSv (n := 3) (As := [.int x, .int 0, .int 1]) (rest := []) hM hl.1 hG (c_X2_requireWithin_x l hl0 g h N tk dom gr va dr off rt cnt lk dl td K E ds x 0 1  hp_3) rfl gX2_spread_X2_requireWithin (by decide +kernel) ⟨Nat.le_of_ble_eq_true rfl, Nat.le_of_ble_eq_true rfl⟩ rfl rfl (Nat.le_of_ble_eq_true rfl) dX2_spread_3 (c1 := 1) (s1 := 6) rfl rfl ⟨Nat.le_of_ble_eq_true rfl, Nat.le_of_ble_eq_true rfl⟩ (fun E ce q9 H locs hE hG h1 h2 h3 => hThr E ce q9 _ _ _ _ _ _ _ (hE) hG h1 h2 h3 (Nat.le_of_ble_eq_true rfl) (Nat.le_of_ble_eq_true rfl)) (fun u_3 H locs h9 hG => absurd h9 id)
