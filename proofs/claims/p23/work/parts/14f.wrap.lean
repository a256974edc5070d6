set_option maxHeartbeats 4000000 in
set_option maxRecDepth 100000 in
theorem w_cut (l : Launch) (hl0 : l.stackTraces = false) (g : EN) (h : Nat → Nat) (N : Nat) (tk : Int32) (dom : Nat → Int32) (gr : Nat → Int32) (va : Nat → Int32) (dr : Nat → Int32) (off : Nat → Int64) (rt : Nat → Int64) (cnt : Int32) (lk : Nat → Int32) (dl : Nat → Int32) (td : Nat → Int32) (K : KT) (E : KT) (ds : Nat → Int32) (i0 j0 : Nat) (hi : i0 < N) (hj : j0 < N) (hN : N ≤ 10) (hlk : b01 lk) : Xi l yL_does wsL_does ({ frames := 8, cells := 1, slots := 6, locals := 126 }) g [.ref (h 0), .int (nI 0), .int (nI i0), .int (nI j0), .int (nI 0)] (cNet g h N tk dom gr va dr off rt cnt lk dl td K E ds) (fun _ => False) (fun (k : Int32) (v : ((Nat → Int32) × Int32 × KT) ⊕ Unit) => sE (fun w => (fun (r : Int32) (u : (Nat → Int32) × Int32 × KT) => ∃ i j, i < N ∧ j < N ∧ (nI i0) = nI i ∧ (nI j0) = nI j ∧ lkd lk (nI i0) (nI j0) ∧ u.1 = upd (upd lk (i * 10 + j) 0) (j * 10 + i) 0 ∧ u.2.1 = cnt - 1 ∧ u.2.2 = kfp gr va (kfp gr va K i j) j i ∧ r = cnt - 1) k w) (fun _ => k = (-2000000013) ∧ ¬ lkd lk (nI i0) (nI j0)) v) (fun v => sE (fun w => (fun (u : (Nat → Int32) × Int32 × KT) => (cNet g h N tk dom gr va dr off rt u.2.1 u.1 dl td u.2.2 E ds)) w) (fun _ => (cNet g h N tk dom gr va dr off rt cnt lk dl td K E ds)) v) := by
  refine XiH.of (cc := cL_does) (maxL := 6) (hh := [(0, 53, 54, 70), (0, 53, 59, 73)]) (by decide) rfl (Nat.le_of_ble_eq_true rfl) ?_
  intro p e s m args below meth c A Q ls hM hG htb hRet hl
  have hx := hM.1
  have hb := hM.2.1
  have hown := hM.2.2.2.1
  have hts := hM.2.2.2.2
  have hl : lv_has ls 6 [(0, .ref (h 0)), (1, .int (nI 0)), (2, .int (nI i0)), (3, .int (nI j0)), (4, .int (nI 0))] := hl
  refine lv_iload_n hx hb dL_does_0 rfl (lv_at hl 1 rfl) ?_
  refine lv_if_ne (tgt := 13) hx hb dL_does_1 (by decide) (fun c9 => False.elim (by revert c9; decide)) (fun _ => ?_)
  refine lv_aload_n hx hb dL_does_4 rfl (lv_at hl 0 rfl) ?_
  refine lv_iload_n hx hb dL_does_5 rfl (lv_at hl 2 rfl) ?_
  refine lv_iload_n hx hb dL_does_6 rfl (lv_at hl 3 rfl) ?_
  refine q_xcalli (n := 2) (As := [.int (nI i0), .int (nI j0)]) (rest := []) hM hl.1 hG (c_X2_cut l hl0 g h N tk dom gr va dr off rt cnt lk dl td K E ds (nI i0) (nI j0) hN hlk) rfl gL_does_X2_cut (by decide +kernel) ⟨Nat.le_of_ble_eq_true rfl, Nat.le_of_ble_eq_true rfl⟩ 0 rfl rfl rfl rfl rfl (Nat.le_of_ble_eq_true rfl) dL_does_7 (c1 := 1) (s1 := 6) rfl rfl ⟨Nat.le_of_ble_eq_true rfl, Nat.le_of_ble_eq_true rfl⟩ (fun E ce q9 H locs hE hG h1 h2 h3 => ?_) (fun r u H locs hp hG => ?_)
  · rcases hE with ⟨rfl, hno⟩ | ⟨rfl, _, hno⟩
    · exact absurd ⟨⟨i0, hi, rfl⟩, ⟨j0, hj, rfl⟩⟩ hno
    · refine vx_catch (own := RL) (name := "java/lang/IllegalStateException") hown [(⟨0, 53, 54, 70⟩ : ExceptionTableEntry)] (⟨0, 53, 59, 73⟩ : ExceptionTableEntry) [] (by rw [htb]; rfl) (fun z hz => by simp only [List.mem_cons, List.not_mem_nil, or_false] at hz; subst hz; exact Or.inr ⟨by decide, "java/lang/IllegalArgumentException", hts (.classLink RL 70 "java/lang/IllegalArgumentException") (by decide +kernel), hG.2.2.2.2.1.2.2.2.2.2.2.2.2.2⟩) (by decide) (by decide) (hts (.classLink RL 73 "java/lang/IllegalStateException") (by decide +kernel)) (va_Nw.use rfl (hG.2.2.2.2.1.1 (.castable "java/lang/IllegalStateException" "java/lang/IllegalStateException") (by decide +kernel))) h1 h2 h3 ?_
      refine lv_astore (lv' := [(5, .ref q9), (0, .ref (h 0)), (1, .int (nI 0)), (2, .int (nI i0)), (3, .int (nI j0)), (4, .int (nI 0))]) hx hb dL_does_59 hl (by decide) rfl (fun ls hl => ?_)
      refine lv_ldc (v := (-2000000013)) hx hb hown (hts (.constant RL 75 (-2000000013)) (by decide +kernel)) dL_does_61 ?_
      exact hRet (-2000000013) (.inr ()) _ _ _ _ _ _ (⟨rfl, hno⟩) hG (Nat.le_of_ble_eq_true rfl) (Nat.le_of_ble_eq_true rfl) dL_does_63
  · refine lv_goto (tgt := 53) hx hb dL_does_10 (by decide) ?_
    exact hRet r (.inl u) _ _ _ _ _ _ hp hG (Nat.le_of_ble_eq_true rfl) (Nat.le_of_ble_eq_true rfl) dL_does_53

set_option maxHeartbeats 4000000 in
set_option maxRecDepth 100000 in
theorem w_tell (l : Launch) (hl0 : l.stackTraces = false) (g : EN) (h : Nat → Nat) (N : Nat) (tk : Int32) (dom : Nat → Int32) (gr : Nat → Int32) (va : Nat → Int32) (dr : Nat → Int32) (off : Nat → Int64) (rt : Nat → Int64) (cnt : Int32) (lk : Nat → Int32) (dl : Nat → Int32) (td : Nat → Int32) (K : KT) (E : KT) (ds : Nat → Int32) (i0 j0 : Nat) (hi : i0 < N) (hj : j0 < N) (hN : N ≤ 10) (hlk : b01 lk) (dd : Int32) (hd : inR (-100000) dd 100000) : Xi l yL_does wsL_does ({ frames := 8, cells := 1, slots := 6, locals := 127 }) g [.ref (h 0), .int (nI 1), .int (nI i0), .int (nI j0), .int dd] (cNet g h N tk dom gr va dr off rt cnt lk dl td K E ds) (fun _ => False) (fun (k : Int32) (v : (Nat → Int32) ⊕ Unit) => sE (fun w => (fun (r : Int32) (u : Nat → Int32) => ∃ i j, i < N ∧ j < N ∧ (nI i0) = nI i ∧ (nI j0) = nI j ∧ inR (-100000) dd 100000 ∧ lkd lk (nI i0) (nI j0) ∧ r = td (i * 10 + j) ∧ u = upd (upd td (i * 10 + j) dd) (j * 10 + i) (-dd)) k w) (fun _ => k = (-2000000013) ∧ ¬ lkd lk (nI i0) (nI j0)) v) (fun v => sE (fun w => (fun (u : Nat → Int32) => (cNet g h N tk dom gr va dr off rt cnt lk dl u K E ds)) w) (fun _ => (cNet g h N tk dom gr va dr off rt cnt lk dl td K E ds)) v) := by
  refine XiH.of (cc := cL_does) (maxL := 6) (hh := [(0, 53, 54, 70), (0, 53, 59, 73)]) (by decide) rfl (Nat.le_of_ble_eq_true rfl) ?_
  intro p e s m args below meth c A Q ls hM hG htb hRet hl
  have hx := hM.1
  have hb := hM.2.1
  have hown := hM.2.2.2.1
  have hts := hM.2.2.2.2
  have hl : lv_has ls 6 [(0, .ref (h 0)), (1, .int (nI 1)), (2, .int (nI i0)), (3, .int (nI j0)), (4, .int dd)] := hl
  refine lv_iload_n hx hb dL_does_0 rfl (lv_at hl 1 rfl) ?_
  refine lv_if_ne (tgt := 13) hx hb dL_does_1 (by decide) (fun _ => ?_) (fun c9 => False.elim (by revert c9; decide))
  refine lv_iload_n hx hb dL_does_13 rfl (lv_at hl 1 rfl) ?_
  refine lv_iconst (v := nI 1) hx hb dL_does_14 (by decide) ?_
  refine lv_icmp_ne (tgt := 29) hx hb dL_does_15 (by decide) (fun c9 => False.elim (by revert c9; decide)) (fun _ => ?_)
  refine lv_aload_n hx hb dL_does_18 rfl (lv_at hl 0 rfl) ?_
  refine lv_iload_n hx hb dL_does_19 rfl (lv_at hl 2 rfl) ?_
  refine lv_iload_n hx hb dL_does_20 rfl (lv_at hl 3 rfl) ?_
  refine lv_iload hx hb dL_does_21 (lv_at hl 4 rfl) ?_
  refine q_xcalli (n := 3) (As := [.int (nI i0), .int (nI j0), .int dd]) (rest := []) hM hl.1 hG (c_X2_tell l hl0 g h N tk dom gr va dr off rt cnt lk dl td K E ds (nI i0) (nI j0) dd hN hlk) rfl gL_does_X2_tell (by decide +kernel) ⟨Nat.le_of_ble_eq_true rfl, Nat.le_of_ble_eq_true rfl⟩ 0 rfl rfl rfl rfl rfl (Nat.le_of_ble_eq_true rfl) dL_does_23 (c1 := 1) (s1 := 6) rfl rfl ⟨Nat.le_of_ble_eq_true rfl, Nat.le_of_ble_eq_true rfl⟩ (fun E ce q9 H locs hE hG h1 h2 h3 => ?_) (fun r u H locs hp hG => ?_)
  · rcases hE with ⟨rfl, hno⟩ | ⟨rfl, _, hno⟩ | ⟨rfl, _, _, hno⟩
    · exact absurd ⟨⟨i0, hi, rfl⟩, ⟨j0, hj, rfl⟩⟩ hno
    · exact absurd hd hno
    · refine vx_catch (own := RL) (name := "java/lang/IllegalStateException") hown [(⟨0, 53, 54, 70⟩ : ExceptionTableEntry)] (⟨0, 53, 59, 73⟩ : ExceptionTableEntry) [] (by rw [htb]; rfl) (fun z hz => by simp only [List.mem_cons, List.not_mem_nil, or_false] at hz; subst hz; exact Or.inr ⟨by decide, "java/lang/IllegalArgumentException", hts (.classLink RL 70 "java/lang/IllegalArgumentException") (by decide +kernel), hG.2.2.2.2.1.2.2.2.2.2.2.2.2.2⟩) (by decide) (by decide) (hts (.classLink RL 73 "java/lang/IllegalStateException") (by decide +kernel)) (va_Nw.use rfl (hG.2.2.2.2.1.1 (.castable "java/lang/IllegalStateException" "java/lang/IllegalStateException") (by decide +kernel))) h1 h2 h3 ?_
      refine lv_astore (lv' := [(5, .ref q9), (0, .ref (h 0)), (1, .int (nI 1)), (2, .int (nI i0)), (3, .int (nI j0)), (4, .int dd)]) hx hb dL_does_59 hl (by decide) rfl (fun ls hl => ?_)
      refine lv_ldc (v := (-2000000013)) hx hb hown (hts (.constant RL 75 (-2000000013)) (by decide +kernel)) dL_does_61 ?_
      exact hRet (-2000000013) (.inr ()) _ _ _ _ _ _ (⟨rfl, hno⟩) hG (Nat.le_of_ble_eq_true rfl) (Nat.le_of_ble_eq_true rfl) dL_does_63
  · refine lv_goto (tgt := 53) hx hb dL_does_26 (by decide) ?_
    exact hRet r (.inl u) _ _ _ _ _ _ hp hG (Nat.le_of_ble_eq_true rfl) (Nat.le_of_ble_eq_true rfl) dL_does_53

set_option maxHeartbeats 4000000 in
set_option maxRecDepth 100000 in
theorem w_add (l : Launch) (hl0 : l.stackTraces = false) (g : EN) (h : Nat → Nat) (N : Nat) (tk : Int32) (dom : Nat → Int32) (gr : Nat → Int32) (va : Nat → Int32) (dr : Nat → Int32) (off : Nat → Int64) (rt : Nat → Int64) (cnt : Int32) (lk : Nat → Int32) (dl : Nat → Int32) (td : Nat → Int32) (K : KT) (E : KT) (ds : Nat → Int32) (xa xb xc : Int32) (hN : N ≤ 10) (hP : inR 0 xa 1 ∧ inR 0 xb 255 ∧ inR 0 xc 1000) : Xi l yL_does wsL_does ({ frames := 8, cells := 1, slots := 6, locals := 129 }) g [.ref (h 0), .int (nI 2), .int xa, .int xb, .int xc] (cNet g h N tk dom gr va dr off rt cnt lk dl td K E ds) (fun _ => False) (fun (k : Int32) (v : (KT) ⊕ Unit) => sE (fun w => (fun (r : Int32) (u : KT) => (inR 0 xa 1 ∧ inR 0 xb 255 ∧ inR 0 xc 1000 ∧ inR (-100) (nI 7) 100) ∧ N < 10 ∧ r = nI N ∧ u = kst K N (rk (upd gr N xb) (upd va N xc) N)) k w) (fun _ => k = (-2000000013) ∧ ¬ N < 10) v) (fun v => sE (fun w => (fun (u : KT) => (cNet g h (N + 1) tk (upd dom N xa) (upd gr N xb) (upd va N xc) (upd dr N (nI 7)) off rt cnt lk dl td u E ds)) w) (fun _ => (cNet g h N tk dom gr va dr off rt cnt lk dl td K E ds)) v) := by
  refine XiH.of (cc := cL_does) (maxL := 6) (hh := [(0, 53, 54, 70), (0, 53, 59, 73)]) (by decide) rfl (Nat.le_of_ble_eq_true rfl) ?_
  intro p e s m args below meth c A Q ls hM hG htb hRet hl
  have hx := hM.1
  have hb := hM.2.1
  have hown := hM.2.2.2.1
  have hts := hM.2.2.2.2
  have hl : lv_has ls 6 [(0, .ref (h 0)), (1, .int (nI 2)), (2, .int xa), (3, .int xb), (4, .int xc)] := hl
  refine lv_iload_n hx hb dL_does_0 rfl (lv_at hl 1 rfl) ?_
  refine lv_if_ne (tgt := 13) hx hb dL_does_1 (by decide) (fun _ => ?_) (fun c9 => False.elim (by revert c9; decide))
  refine lv_iload_n hx hb dL_does_13 rfl (lv_at hl 1 rfl) ?_
  refine lv_iconst (v := nI 1) hx hb dL_does_14 (by decide) ?_
  refine lv_icmp_ne (tgt := 29) hx hb dL_does_15 (by decide) (fun _ => ?_) (fun c9 => False.elim (by revert c9; decide))
  refine lv_iload_n hx hb dL_does_29 rfl (lv_at hl 1 rfl) ?_
  refine lv_iconst (v := nI 2) hx hb dL_does_30 (by decide) ?_
  refine lv_icmp_ne (tgt := 47) hx hb dL_does_31 (by decide) (fun c9 => False.elim (by revert c9; decide)) (fun _ => ?_)
  refine lv_aload_n hx hb dL_does_34 rfl (lv_at hl 0 rfl) ?_
  refine lv_iload_n hx hb dL_does_35 rfl (lv_at hl 2 rfl) ?_
  refine lv_iload_n hx hb dL_does_36 rfl (lv_at hl 3 rfl) ?_
  refine lv_iload hx hb dL_does_37 (lv_at hl 4 rfl) ?_
  refine lv_bipush (v := nI 7) hx hb dL_does_39 (by decide) ?_
  refine q_xcalli (n := 4) (As := [.int xa, .int xb, .int xc, .int (nI 7)]) (rest := []) hM hl.1 hG (c_X2_add l hl0 g h N tk dom gr va dr off rt cnt lk dl td K E ds xa xb xc (nI 7) hN) rfl gL_does_X2_add (by decide +kernel) ⟨Nat.le_of_ble_eq_true rfl, Nat.le_of_ble_eq_true rfl⟩ 0 rfl rfl rfl rfl rfl (Nat.le_of_ble_eq_true rfl) dL_does_41 (c1 := 1) (s1 := 6) rfl rfl ⟨Nat.le_of_ble_eq_true rfl, Nat.le_of_ble_eq_true rfl⟩ (fun E ce q9 H locs hE hG h1 h2 h3 => ?_) (fun r u H locs hp hG => ?_)
  · rcases hE with ⟨rfl, hno⟩ | ⟨rfl, _, hno⟩
    · exact absurd ⟨hP.1, hP.2.1, hP.2.2, by decide⟩ hno
    · refine vx_catch (own := RL) (name := "java/lang/IllegalStateException") hown [(⟨0, 53, 54, 70⟩ : ExceptionTableEntry)] (⟨0, 53, 59, 73⟩ : ExceptionTableEntry) [] (by rw [htb]; rfl) (fun z hz => by simp only [List.mem_cons, List.not_mem_nil, or_false] at hz; subst hz; exact Or.inr ⟨by decide, "java/lang/IllegalArgumentException", hts (.classLink RL 70 "java/lang/IllegalArgumentException") (by decide +kernel), hG.2.2.2.2.1.2.2.2.2.2.2.2.2.2⟩) (by decide) (by decide) (hts (.classLink RL 73 "java/lang/IllegalStateException") (by decide +kernel)) (va_Nw.use rfl (hG.2.2.2.2.1.1 (.castable "java/lang/IllegalStateException" "java/lang/IllegalStateException") (by decide +kernel))) h1 h2 h3 ?_
      refine lv_astore (lv' := [(5, .ref q9), (0, .ref (h 0)), (1, .int (nI 2)), (2, .int xa), (3, .int xb), (4, .int xc)]) hx hb dL_does_59 hl (by decide) rfl (fun ls hl => ?_)
      refine lv_ldc (v := (-2000000013)) hx hb hown (hts (.constant RL 75 (-2000000013)) (by decide +kernel)) dL_does_61 ?_
      exact hRet (-2000000013) (.inr ()) _ _ _ _ _ _ (⟨rfl, hno⟩) hG (Nat.le_of_ble_eq_true rfl) (Nat.le_of_ble_eq_true rfl) dL_does_63
  · refine lv_goto (tgt := 53) hx hb dL_does_44 (by decide) ?_
    exact hRet r (.inl u) _ _ _ _ _ _ hp hG (Nat.le_of_ble_eq_true rfl) (Nat.le_of_ble_eq_true rfl) dL_does_53

set_option maxHeartbeats 4000000 in
set_option maxRecDepth 100000 in
theorem w_link (l : Launch) (hl0 : l.stackTraces = false) (g : EN) (h : Nat → Nat) (N : Nat) (tk : Int32) (dom : Nat → Int32) (gr : Nat → Int32) (va : Nat → Int32) (dr : Nat → Int32) (off : Nat → Int64) (rt : Nat → Int64) (cnt : Int32) (lk : Nat → Int32) (dl : Nat → Int32) (td : Nat → Int32) (K : KT) (E : KT) (ds : Nat → Int32) (i0 j0 : Nat) (hi : i0 < N) (hj : j0 < N) (hN : N ≤ 10) (hlk : b01 lk) (u0 v0 : Nat) (hu : u0 ≤ 100000) (hv : v0 ≤ 100000) : Xi l yL_links wsL_links ({ frames := 8, cells := 1, slots := 6, locals := 128 }) g [.ref (h 0), .int (nI i0), .int (nI j0), .int (nI u0), .int (nI v0)] (cNet g h N tk dom gr va dr off rt cnt lk dl td K E ds) (fun _ => False) (fun (k : Int32) (v : ((Nat → Int32) × (Nat → Int32) × (Nat → Int32) × Int32) ⊕ Unit) => sE (fun w => (fun (r : Int32) (u : (Nat → Int32) × (Nat → Int32) × (Nat → Int32) × Int32) => ∃ i j, i < N ∧ j < N ∧ (nI i0) = nI i ∧ (nI j0) = nI j ∧ (¬ (nI i0) = (nI j0) ∧ inR 0 (nI u0) 100000 ∧ inR 0 (nI v0) 100000) ∧ ¬ lkd lk (nI i0) (nI j0) ∧ u.1 = upd (upd lk (i * 10 + j) 1) (j * 10 + i) 1 ∧ u.2.1 = upd (upd dl (i * 10 + j) (nI u0)) (j * 10 + i) (nI v0) ∧ u.2.2.1 = upd (upd td (i * 10 + j) 0) (j * 10 + i) 0 ∧ u.2.2.2 = cnt + 1 ∧ r = cnt + 1) k w) (fun _ => k = (-12) ∧ i0 = j0 ∨ k = (-13) ∧ ¬ i0 = j0 ∧ lkd lk (nI i0) (nI j0)) v) (fun v => sE (fun w => (fun (u : (Nat → Int32) × (Nat → Int32) × (Nat → Int32) × Int32) => (cNet g h N tk dom gr va dr off rt u.2.2.2 u.1 u.2.1 u.2.2.1 K E ds)) w) (fun _ => (cNet g h N tk dom gr va dr off rt cnt lk dl td K E ds)) v) := by
  refine XiH.of (cc := cL_links) (maxL := 6) (hh := [(0, 9, 10, 70), (0, 9, 15, 73)]) (by decide) rfl (Nat.le_of_ble_eq_true rfl) ?_
  intro p e s m args below meth c A Q ls hM hG htb hRet hl
  have hx := hM.1
  have hb := hM.2.1
  have hown := hM.2.2.2.1
  have hts := hM.2.2.2.2
  have hl : lv_has ls 6 [(0, .ref (h 0)), (1, .int (nI i0)), (2, .int (nI j0)), (3, .int (nI u0)), (4, .int (nI v0))] := hl
  refine lv_aload_n hx hb dL_links_0 rfl (lv_at hl 0 rfl) ?_
  refine lv_iload_n hx hb dL_links_1 rfl (lv_at hl 1 rfl) ?_
  refine lv_iload_n hx hb dL_links_2 rfl (lv_at hl 2 rfl) ?_
  refine lv_iload_n hx hb dL_links_3 rfl (lv_at hl 3 rfl) ?_
  refine lv_iload hx hb dL_links_4 (lv_at hl 4 rfl) ?_
  refine q_xcalli (n := 4) (As := [.int (nI i0), .int (nI j0), .int (nI u0), .int (nI v0)]) (rest := []) hM hl.1 hG (c_X2_link l hl0 g h N tk dom gr va dr off rt cnt lk dl td K E ds (nI i0) (nI j0) (nI u0) (nI v0) hN hlk) rfl gL_links_X2_link (by decide +kernel) ⟨Nat.le_of_ble_eq_true rfl, Nat.le_of_ble_eq_true rfl⟩ 0 rfl rfl rfl rfl rfl (Nat.le_of_ble_eq_true rfl) dL_links_6 (c1 := 1) (s1 := 6) rfl rfl ⟨Nat.le_of_ble_eq_true rfl, Nat.le_of_ble_eq_true rfl⟩ (fun E ce q9 H locs hE hG h1 h2 h3 => ?_) (fun r u H locs hp hG => ?_)
  · rcases hE with ⟨rfl, hno⟩ | ⟨rfl, _, hno⟩ | ⟨rfl, _, hyy, hno⟩
    · exact absurd ⟨⟨i0, hi, rfl⟩, ⟨j0, hj, rfl⟩⟩ hno
    · refine vx_catch (own := RL) (name := "java/lang/IllegalArgumentException") hown [] (⟨0, 9, 10, 70⟩ : ExceptionTableEntry) [(⟨0, 9, 15, 73⟩ : ExceptionTableEntry)] (by rw [htb]; rfl) (fun z hz => nomatch hz) (by decide) (by decide) (hts (.classLink RL 70 "java/lang/IllegalArgumentException") (by decide +kernel)) (va_Nw.use rfl (hG.2.2.2.2.1.1 (.castable "java/lang/IllegalArgumentException" "java/lang/IllegalArgumentException") (by decide +kernel))) h1 h2 h3 ?_
      refine lv_astore (lv' := [(5, .ref q9), (0, .ref (h 0)), (1, .int (nI i0)), (2, .int (nI j0)), (3, .int (nI u0)), (4, .int (nI v0))]) hx hb dL_links_10 hl (by decide) rfl (fun ls hl => ?_)
      refine lv_bipush (v := (-12)) hx hb dL_links_12 (by decide) ?_
      exact hRet (-12) (.inr ()) _ _ _ _ _ _ (Or.inl ⟨rfl, Decidable.byContradiction (fun h9 => hno ⟨fun h8 => h9 ((nI_eq (by omega) (by omega)).mp h8), inR_n (b := 100000) (by decide) hu, inR_n (b := 100000) (by decide) hv⟩)⟩) hG (Nat.le_of_ble_eq_true rfl) (Nat.le_of_ble_eq_true rfl) dL_links_14
    · refine vx_catch (own := RL) (name := "java/lang/IllegalStateException") hown [(⟨0, 9, 10, 70⟩ : ExceptionTableEntry)] (⟨0, 9, 15, 73⟩ : ExceptionTableEntry) [] (by rw [htb]; rfl) (fun z hz => by simp only [List.mem_cons, List.not_mem_nil, or_false] at hz; subst hz; exact Or.inr ⟨by decide, "java/lang/IllegalArgumentException", hts (.classLink RL 70 "java/lang/IllegalArgumentException") (by decide +kernel), hG.2.2.2.2.1.2.2.2.2.2.2.2.2.2⟩) (by decide) (by decide) (hts (.classLink RL 73 "java/lang/IllegalStateException") (by decide +kernel)) (va_Nw.use rfl (hG.2.2.2.2.1.1 (.castable "java/lang/IllegalStateException" "java/lang/IllegalStateException") (by decide +kernel))) h1 h2 h3 ?_
      refine lv_astore (lv' := [(5, .ref q9), (0, .ref (h 0)), (1, .int (nI i0)), (2, .int (nI j0)), (3, .int (nI u0)), (4, .int (nI v0))]) hx hb dL_links_15 hl (by decide) rfl (fun ls hl => ?_)
      refine lv_bipush (v := (-13)) hx hb dL_links_17 (by decide) ?_
      exact hRet (-13) (.inr ()) _ _ _ _ _ _ (Or.inr ⟨rfl, fun h9 => hyy.1 (congrArg nI h9), Classical.byContradiction (fun h9 => hno h9)⟩) hG (Nat.le_of_ble_eq_true rfl) (Nat.le_of_ble_eq_true rfl) dL_links_19
  · exact hRet r (.inl u) _ _ _ _ _ _ hp hG (Nat.le_of_ble_eq_true rfl) (Nat.le_of_ble_eq_true rfl) dL_links_9
