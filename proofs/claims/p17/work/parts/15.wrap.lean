set_option maxHeartbeats 4000000 in
set_option maxRecDepth 100000 in
theorem w_add (l : Launch) (hl0 : l.stackTraces = false) (g : EN) (h : Nat → Nat) (o : Nat) (f : Nat → Int64) (N : Nat) (tk : Int32) (dom : Nat → Int32) (gr : Nat → Int32) (va : Nat → Int32) (dr : Nat → Int32) (off : Nat → Int64) (rt : Nat → Int64) (cnt : Int32) (lk : Nat → Int32) (dl : Nat → Int32) (td : Nat → Int32) (K : KT) (E : KT) (ds : Nat → Int32) (p0 p1 p2 p3 : Int32) (hN : N ≤ 10) : Xi l yL_add wsL_add ({ frames := 8, cells := 1, slots := 6, locals := 129 }) g [.ref (h 0), .int p0, .int p1, .int p2, .int p3, .ref o] (oNet g o f ++ (cNet g h N tk dom gr va dr off rt cnt lk dl td K E ds)) (fun _ => False) (fun (k : Int32) (v : ((KT) × (Nat → Int64)) ⊕ Unit) => sE (fun w => k = 0 ∧ ∃ r, (fun (r : Int32) (u : KT) => (inR 0 p0 1 ∧ inR 0 p1 255 ∧ inR 0 p2 1000 ∧ inR (-100) p3 100) ∧ N < 10 ∧ r = nI N ∧ u = kst K N (rk (upd gr N p1) (upd va N p2) N)) r w.1 ∧ w.2 0 = r.toInt64) (fun _ => xk2 k (inR 0 p0 1 ∧ inR 0 p1 255 ∧ inR 0 p2 1000 ∧ inR (-100) p3 100) (N < 10)) v) (fun v => sE (fun w => oNet g o w.2 ++ (fun (u : KT) => (cNet g h (N + 1) tk (upd dom N p0) (upd gr N p1) (upd va N p2) (upd dr N p3) off rt cnt lk dl td u E ds)) w.1) (fun _ => oNet g o f ++ (cNet g h N tk dom gr va dr off rt cnt lk dl td K E ds)) v) := by
  refine XiH.of (cc := cL_add) (maxL := 7) (hh := [(0, 14, 17, 13), (0, 14, 21, 15)]) (by decide) rfl (Nat.le_of_ble_eq_true rfl) ?_
  intro p e s m args below meth c A Q ls hM hG htb hRet hl
  have hx := hM.1
  have hb := hM.2.1
  have hown := hM.2.2.2.1
  have hts := hM.2.2.2.2
  have hl : lv_has ls 7 [(0, .ref (h 0)), (1, .int p0), (2, .int p1), (3, .int p2), (4, .int p3), (5, .ref o)] := hl
  refine lv_aload hx hb dL_add_0 (lv_at hl 5 rfl) ?_
  refine lv_iconst (v := 0) hx hb dL_add_2 (by decide) ?_
  refine lv_aload_n hx hb dL_add_3 rfl (lv_at hl 0 rfl) ?_
  refine lv_iload_n hx hb dL_add_4 rfl (lv_at hl 1 rfl) ?_
  refine lv_iload_n hx hb dL_add_5 rfl (lv_at hl 2 rfl) ?_
  refine lv_iload_n hx hb dL_add_6 rfl (lv_at hl 3 rfl) ?_
  refine lv_iload hx hb dL_add_7 (lv_at hl 4 rfl) ?_
  refine q_xcallMi (n := 4) (As := [.int p0, .int p1, .int p2, .int p3]) (rest := [.int 0, .ref o]) (wc := (cNet g h N tk dom gr va dr off rt cnt lk dl td K E ds)) (wr := oNet g o f) hM hl.1 hG (c_X2_add l hl0 g h N tk dom gr va dr off rt cnt lk dl td K E ds p0 p1 p2 p3 hN) rfl gL_add_X2_add (by decide +kernel) ⟨Nat.le_of_ble_eq_true rfl, Nat.le_of_ble_eq_true rfl⟩ 0 rfl rfl rfl rfl rfl (Nat.le_of_ble_eq_true rfl) dL_add_9 (c1 := 1) (s1 := 6) rfl rfl ⟨Nat.le_of_ble_eq_true rfl, Nat.le_of_ble_eq_true rfl⟩ (fun E ce q9 H locs hE hG h1 h2 h3 => ?_) (fun r u H locs hp hG => ?_)
  · rcases hE with ⟨rfl, hno⟩ | ⟨rfl, hy1, hno⟩
    · refine vx_catch (own := RL) (name := "java/lang/IllegalArgumentException") hown [] (⟨0, 14, 17, 13⟩ : ExceptionTableEntry) [(⟨0, 14, 21, 15⟩ : ExceptionTableEntry)] (by rw [htb]; rfl) (fun z hz => nomatch hz) (by decide) (by decide) (hts (.classLink RL 13 "java/lang/IllegalArgumentException") (by decide +kernel)) (va_Nw.use rfl (hG.2.2.2.2.1.1 (.castable "java/lang/IllegalArgumentException" "java/lang/IllegalArgumentException") (by decide +kernel))) h1 h2 h3 ?_
      refine lv_astore (lv' := [(6, .ref q9), (0, .ref (h 0)), (1, .int p0), (2, .int p1), (3, .int p2), (4, .int p3), (5, .ref o)]) hx hb dL_add_17 hl (by decide) rfl (fun ls hl => ?_)
      refine lv_iconst (v := 1) hx hb dL_add_19 (by decide) ?_
      exact hRet 1 (.inr ()) _ _ _ _ _ _ (show xk2 1 (inR 0 p0 1 ∧ inR 0 p1 255 ∧ inR 0 p2 1000 ∧ inR (-100) p3 100) (N < 10) from Or.inl ⟨rfl, hno⟩) hG (Nat.le_of_ble_eq_true rfl) (Nat.le_of_ble_eq_true rfl) dL_add_20
    · refine vx_catch (own := RL) (name := "java/lang/IllegalStateException") hown [(⟨0, 14, 17, 13⟩ : ExceptionTableEntry)] (⟨0, 14, 21, 15⟩ : ExceptionTableEntry) [] (by rw [htb]; rfl) (fun z hz => by
          simp only [List.mem_cons, List.not_mem_nil, or_false] at hz
          rcases hz with rfl
          · exact Or.inr ⟨by decide, "java/lang/IllegalArgumentException", hts (.classLink RL 13 "java/lang/IllegalArgumentException") (by decide +kernel), hG.2.2.2.2.1.2.2.2.2.2.2.2.2.2.1⟩) (by decide) (by decide) (hts (.classLink RL 15 "java/lang/IllegalStateException") (by decide +kernel)) (va_Nw.use rfl (hG.2.2.2.2.1.1 (.castable "java/lang/IllegalStateException" "java/lang/IllegalStateException") (by decide +kernel))) h1 h2 h3 ?_
      refine lv_astore (lv' := [(6, .ref q9), (0, .ref (h 0)), (1, .int p0), (2, .int p1), (3, .int p2), (4, .int p3), (5, .ref o)]) hx hb dL_add_21 hl (by decide) rfl (fun ls hl => ?_)
      refine lv_iconst (v := 2) hx hb dL_add_23 (by decide) ?_
      exact hRet 2 (.inr ()) _ _ _ _ _ _ (show xk2 2 (inR 0 p0 1 ∧ inR 0 p1 255 ∧ inR 0 p2 1000 ∧ inR (-100) p3 100) (N < 10) from Or.inr ⟨rfl, hy1, hno⟩) hG (Nat.le_of_ble_eq_true rfl) (Nat.le_of_ble_eq_true rfl) dL_add_24
  · refine lv_i2l hx hb dL_add_12 rfl ?_
    refine q_last hM hG 0 (i := 0) rfl (by decide) (by decide) (ws1 := oNet g o (vp_updL f 0 r.toInt64) ++ (fun (u : KT) => (cNet g h (N + 1) tk (upd dom N p0) (upd gr N p1) (upd va N p2) (upd dr N p3) off rt cnt lk dl td u E ds)) u) rfl dL_add_13 (fun H locs hG => ?_)
    refine lv_goto (tgt := 25) hx hb dL_add_14 (by decide) ?_
    refine lv_iconst (v := 0) hx hb dL_add_25 (by decide) ?_
    exact hRet 0 (.inl (u, vp_updL f 0 r.toInt64)) _ _ _ _ _ _ (show (0 : Int32) = 0 ∧ ∃ r9, (fun (r : Int32) (u : KT) => (inR 0 p0 1 ∧ inR 0 p1 255 ∧ inR 0 p2 1000 ∧ inR (-100) p3 100) ∧ N < 10 ∧ r = nI N ∧ u = kst K N (rk (upd gr N p1) (upd va N p2) N)) r9 u ∧ (vp_updL f 0 r.toInt64) 0 = r9.toInt64 from ⟨rfl, r, hp, pk_uLs⟩) hG (Nat.le_of_ble_eq_true rfl) (Nat.le_of_ble_eq_true rfl) dL_add_26

set_option maxHeartbeats 4000000 in
set_option maxRecDepth 100000 in
theorem w_setClock (l : Launch) (hl0 : l.stackTraces = false) (g : EN) (h : Nat → Nat) (o : Nat) (f : Nat → Int64) (N : Nat) (tk : Int32) (dom : Nat → Int32) (gr : Nat → Int32) (va : Nat → Int32) (dr : Nat → Int32) (off : Nat → Int64) (rt : Nat → Int64) (cnt : Int32) (lk : Nat → Int32) (dl : Nat → Int32) (td : Nat → Int32) (K : KT) (E : KT) (ds : Nat → Int32) (x a b : Int32) (hN : N ≤ 10) : Xi l yL_setClock wsL_setClock ({ frames := 8, cells := 1, slots := 6, locals := 128 }) g [.ref (h 0), .int x, .int a, .int b, .ref o] (oNet g o f ++ (cNet g h N tk dom gr va dr off rt cnt lk dl td K E ds)) (fun _ => False) (fun (k : Int32) (v : (((Nat → Int32) × (Nat → Int32)) × (Nat → Int64)) ⊕ Unit) => sE (fun w => k = 0 ∧ ∃ r, (fun (r : Int32) (u : (Nat → Int32) × (Nat → Int32)) => ∃ i, i < N ∧ x = nI i ∧ (inR 0 a 255 ∧ inR 0 b 1000) ∧ r = gr i ∧ u.1 = upd gr i a ∧ u.2 = upd va i b) r w.1 ∧ w.2 0 = r.toInt64) (fun _ => xk2 k (okN N x) (inR 0 a 255 ∧ inR 0 b 1000)) v) (fun v => sE (fun w => oNet g o w.2 ++ (fun (u : (Nat → Int32) × (Nat → Int32)) => (cNet g h N tk dom u.1 u.2 dr off rt cnt lk dl td K E ds)) w.1) (fun _ => oNet g o f ++ (cNet g h N tk dom gr va dr off rt cnt lk dl td K E ds)) v) := by
  refine XiH.of (cc := cL_setClock) (maxL := 6) (hh := [(0, 12, 15, 21), (0, 12, 19, 13)]) (by decide) rfl (Nat.le_of_ble_eq_true rfl) ?_
  intro p e s m args below meth c A Q ls hM hG htb hRet hl
  have hx := hM.1
  have hb := hM.2.1
  have hown := hM.2.2.2.1
  have hts := hM.2.2.2.2
  have hl : lv_has ls 6 [(0, .ref (h 0)), (1, .int x), (2, .int a), (3, .int b), (4, .ref o)] := hl
  refine lv_aload hx hb dL_setClock_0 (lv_at hl 4 rfl) ?_
  refine lv_iconst (v := 0) hx hb dL_setClock_2 (by decide) ?_
  refine lv_aload_n hx hb dL_setClock_3 rfl (lv_at hl 0 rfl) ?_
  refine lv_iload_n hx hb dL_setClock_4 rfl (lv_at hl 1 rfl) ?_
  refine lv_iload_n hx hb dL_setClock_5 rfl (lv_at hl 2 rfl) ?_
  refine lv_iload_n hx hb dL_setClock_6 rfl (lv_at hl 3 rfl) ?_
  refine q_xcallMi (n := 3) (As := [.int x, .int a, .int b]) (rest := [.int 0, .ref o]) (wc := (cNet g h N tk dom gr va dr off rt cnt lk dl td K E ds)) (wr := oNet g o f) hM hl.1 hG (c_X2_setClock l hl0 g h N tk dom gr va dr off rt cnt lk dl td K E ds x a b hN) rfl gL_setClock_X2_setClock (by decide +kernel) ⟨Nat.le_of_ble_eq_true rfl, Nat.le_of_ble_eq_true rfl⟩ 0 rfl rfl rfl rfl rfl (Nat.le_of_ble_eq_true rfl) dL_setClock_7 (c1 := 1) (s1 := 6) rfl rfl ⟨Nat.le_of_ble_eq_true rfl, Nat.le_of_ble_eq_true rfl⟩ (fun E ce q9 H locs hE hG h1 h2 h3 => ?_) (fun r u H locs hp hG => ?_)
  · rcases hE with ⟨rfl, hno⟩ | ⟨rfl, hy1, hno⟩
    · refine vx_catch (own := RL) (name := "java/lang/IndexOutOfBoundsException") hown [] (⟨0, 12, 15, 21⟩ : ExceptionTableEntry) [(⟨0, 12, 19, 13⟩ : ExceptionTableEntry)] (by rw [htb]; rfl) (fun z hz => nomatch hz) (by decide) (by decide) (hts (.classLink RL 21 "java/lang/IndexOutOfBoundsException") (by decide +kernel)) (va_Nw.use rfl (hG.2.2.2.2.1.1 (.castable "java/lang/IndexOutOfBoundsException" "java/lang/IndexOutOfBoundsException") (by decide +kernel))) h1 h2 h3 ?_
      refine lv_astore (lv' := [(5, .ref q9), (0, .ref (h 0)), (1, .int x), (2, .int a), (3, .int b), (4, .ref o)]) hx hb dL_setClock_15 hl (by decide) rfl (fun ls hl => ?_)
      refine lv_iconst (v := 1) hx hb dL_setClock_17 (by decide) ?_
      exact hRet 1 (.inr ()) _ _ _ _ _ _ (show xk2 1 (okN N x) (inR 0 a 255 ∧ inR 0 b 1000) from Or.inl ⟨rfl, hno⟩) hG (Nat.le_of_ble_eq_true rfl) (Nat.le_of_ble_eq_true rfl) dL_setClock_18
    · refine vx_catch (own := RL) (name := "java/lang/IllegalArgumentException") hown [(⟨0, 12, 15, 21⟩ : ExceptionTableEntry)] (⟨0, 12, 19, 13⟩ : ExceptionTableEntry) [] (by rw [htb]; rfl) (fun z hz => by
          simp only [List.mem_cons, List.not_mem_nil, or_false] at hz
          rcases hz with rfl
          · exact Or.inr ⟨by decide, "java/lang/IndexOutOfBoundsException", hts (.classLink RL 21 "java/lang/IndexOutOfBoundsException") (by decide +kernel), hG.2.2.2.2.1.2.2.2.2.2.2.2.2.2.2.1⟩) (by decide) (by decide) (hts (.classLink RL 13 "java/lang/IllegalArgumentException") (by decide +kernel)) (va_Nw.use rfl (hG.2.2.2.2.1.1 (.castable "java/lang/IllegalArgumentException" "java/lang/IllegalArgumentException") (by decide +kernel))) h1 h2 h3 ?_
      refine lv_astore (lv' := [(5, .ref q9), (0, .ref (h 0)), (1, .int x), (2, .int a), (3, .int b), (4, .ref o)]) hx hb dL_setClock_19 hl (by decide) rfl (fun ls hl => ?_)
      refine lv_iconst (v := 2) hx hb dL_setClock_21 (by decide) ?_
      exact hRet 2 (.inr ()) _ _ _ _ _ _ (show xk2 2 (okN N x) (inR 0 a 255 ∧ inR 0 b 1000) from Or.inr ⟨rfl, hy1, hno⟩) hG (Nat.le_of_ble_eq_true rfl) (Nat.le_of_ble_eq_true rfl) dL_setClock_22
  · refine lv_i2l hx hb dL_setClock_10 rfl ?_
    refine q_last hM hG 0 (i := 0) rfl (by decide) (by decide) (ws1 := oNet g o (vp_updL f 0 r.toInt64) ++ (fun (u : (Nat → Int32) × (Nat → Int32)) => (cNet g h N tk dom u.1 u.2 dr off rt cnt lk dl td K E ds)) u) rfl dL_setClock_11 (fun H locs hG => ?_)
    refine lv_goto (tgt := 23) hx hb dL_setClock_12 (by decide) ?_
    refine lv_iconst (v := 0) hx hb dL_setClock_23 (by decide) ?_
    exact hRet 0 (.inl (u, vp_updL f 0 r.toInt64)) _ _ _ _ _ _ (show (0 : Int32) = 0 ∧ ∃ r9, (fun (r : Int32) (u : (Nat → Int32) × (Nat → Int32)) => ∃ i, i < N ∧ x = nI i ∧ (inR 0 a 255 ∧ inR 0 b 1000) ∧ r = gr i ∧ u.1 = upd gr i a ∧ u.2 = upd va i b) r9 u ∧ (vp_updL f 0 r.toInt64) 0 = r9.toInt64 from ⟨rfl, r, hp, pk_uLs⟩) hG (Nat.le_of_ble_eq_true rfl) (Nat.le_of_ble_eq_true rfl) dL_setClock_24

set_option maxHeartbeats 4000000 in
set_option maxRecDepth 100000 in
theorem w_setDrift (l : Launch) (hl0 : l.stackTraces = false) (g : EN) (h : Nat → Nat) (o : Nat) (f : Nat → Int64) (N : Nat) (tk : Int32) (dom : Nat → Int32) (gr : Nat → Int32) (va : Nat → Int32) (dr : Nat → Int32) (off : Nat → Int64) (rt : Nat → Int64) (cnt : Int32) (lk : Nat → Int32) (dl : Nat → Int32) (td : Nat → Int32) (K : KT) (E : KT) (ds : Nat → Int32) (x a : Int32) (hN : N ≤ 10) : Xi l yL_setDrift wsL_setDrift ({ frames := 8, cells := 1, slots := 6, locals := 127 }) g [.ref (h 0), .int x, .int a, .ref o] (oNet g o f ++ (cNet g h N tk dom gr va dr off rt cnt lk dl td K E ds)) (fun _ => False) (fun (k : Int32) (v : ((Nat → Int32) × (Nat → Int64)) ⊕ Unit) => sE (fun w => k = 0 ∧ ∃ r, (fun (r : Int32) (u : Nat → Int32) => ∃ i, i < N ∧ x = nI i ∧ inR (-100) a 100 ∧ r = dr i ∧ u = upd dr i a) r w.1 ∧ w.2 0 = r.toInt64) (fun _ => xk2 k (okN N x) (inR (-100) a 100)) v) (fun v => sE (fun w => oNet g o w.2 ++ (fun (u : Nat → Int32) => (cNet g h N tk dom gr va u off rt cnt lk dl td K E ds)) w.1) (fun _ => oNet g o f ++ (cNet g h N tk dom gr va dr off rt cnt lk dl td K E ds)) v) := by
  refine XiH.of (cc := cL_setDrift) (maxL := 5) (hh := [(0, 10, 13, 21), (0, 10, 17, 13)]) (by decide) rfl (Nat.le_of_ble_eq_true rfl) ?_
  intro p e s m args below meth c A Q ls hM hG htb hRet hl
  have hx := hM.1
  have hb := hM.2.1
  have hown := hM.2.2.2.1
  have hts := hM.2.2.2.2
  have hl : lv_has ls 5 [(0, .ref (h 0)), (1, .int x), (2, .int a), (3, .ref o)] := hl
  refine lv_aload_n hx hb dL_setDrift_0 rfl (lv_at hl 3 rfl) ?_
  refine lv_iconst (v := 0) hx hb dL_setDrift_1 (by decide) ?_
  refine lv_aload_n hx hb dL_setDrift_2 rfl (lv_at hl 0 rfl) ?_
  refine lv_iload_n hx hb dL_setDrift_3 rfl (lv_at hl 1 rfl) ?_
  refine lv_iload_n hx hb dL_setDrift_4 rfl (lv_at hl 2 rfl) ?_
  refine q_xcallMi (n := 2) (As := [.int x, .int a]) (rest := [.int 0, .ref o]) (wc := (cNet g h N tk dom gr va dr off rt cnt lk dl td K E ds)) (wr := oNet g o f) hM hl.1 hG (c_X2_setDrift l hl0 g h N tk dom gr va dr off rt cnt lk dl td K E ds x a hN) rfl gL_setDrift_X2_setDrift (by decide +kernel) ⟨Nat.le_of_ble_eq_true rfl, Nat.le_of_ble_eq_true rfl⟩ 0 rfl rfl rfl rfl rfl (Nat.le_of_ble_eq_true rfl) dL_setDrift_5 (c1 := 1) (s1 := 6) rfl rfl ⟨Nat.le_of_ble_eq_true rfl, Nat.le_of_ble_eq_true rfl⟩ (fun E ce q9 H locs hE hG h1 h2 h3 => ?_) (fun r u H locs hp hG => ?_)
  · rcases hE with ⟨rfl, hno⟩ | ⟨rfl, hy1, hno⟩
    · refine vx_catch (own := RL) (name := "java/lang/IndexOutOfBoundsException") hown [] (⟨0, 10, 13, 21⟩ : ExceptionTableEntry) [(⟨0, 10, 17, 13⟩ : ExceptionTableEntry)] (by rw [htb]; rfl) (fun z hz => nomatch hz) (by decide) (by decide) (hts (.classLink RL 21 "java/lang/IndexOutOfBoundsException") (by decide +kernel)) (va_Nw.use rfl (hG.2.2.2.2.1.1 (.castable "java/lang/IndexOutOfBoundsException" "java/lang/IndexOutOfBoundsException") (by decide +kernel))) h1 h2 h3 ?_
      refine lv_astore (lv' := [(4, .ref q9), (0, .ref (h 0)), (1, .int x), (2, .int a), (3, .ref o)]) hx hb dL_setDrift_13 hl (by decide) rfl (fun ls hl => ?_)
      refine lv_iconst (v := 1) hx hb dL_setDrift_15 (by decide) ?_
      exact hRet 1 (.inr ()) _ _ _ _ _ _ (show xk2 1 (okN N x) (inR (-100) a 100) from Or.inl ⟨rfl, hno⟩) hG (Nat.le_of_ble_eq_true rfl) (Nat.le_of_ble_eq_true rfl) dL_setDrift_16
    · refine vx_catch (own := RL) (name := "java/lang/IllegalArgumentException") hown [(⟨0, 10, 13, 21⟩ : ExceptionTableEntry)] (⟨0, 10, 17, 13⟩ : ExceptionTableEntry) [] (by rw [htb]; rfl) (fun z hz => by
          simp only [List.mem_cons, List.not_mem_nil, or_false] at hz
          rcases hz with rfl
          · exact Or.inr ⟨by decide, "java/lang/IndexOutOfBoundsException", hts (.classLink RL 21 "java/lang/IndexOutOfBoundsException") (by decide +kernel), hG.2.2.2.2.1.2.2.2.2.2.2.2.2.2.2.1⟩) (by decide) (by decide) (hts (.classLink RL 13 "java/lang/IllegalArgumentException") (by decide +kernel)) (va_Nw.use rfl (hG.2.2.2.2.1.1 (.castable "java/lang/IllegalArgumentException" "java/lang/IllegalArgumentException") (by decide +kernel))) h1 h2 h3 ?_
      refine lv_astore (lv' := [(4, .ref q9), (0, .ref (h 0)), (1, .int x), (2, .int a), (3, .ref o)]) hx hb dL_setDrift_17 hl (by decide) rfl (fun ls hl => ?_)
      refine lv_iconst (v := 2) hx hb dL_setDrift_19 (by decide) ?_
      exact hRet 2 (.inr ()) _ _ _ _ _ _ (show xk2 2 (okN N x) (inR (-100) a 100) from Or.inr ⟨rfl, hy1, hno⟩) hG (Nat.le_of_ble_eq_true rfl) (Nat.le_of_ble_eq_true rfl) dL_setDrift_20
  · refine lv_i2l hx hb dL_setDrift_8 rfl ?_
    refine q_last hM hG 0 (i := 0) rfl (by decide) (by decide) (ws1 := oNet g o (vp_updL f 0 r.toInt64) ++ (fun (u : Nat → Int32) => (cNet g h N tk dom gr va u off rt cnt lk dl td K E ds)) u) rfl dL_setDrift_9 (fun H locs hG => ?_)
    refine lv_goto (tgt := 21) hx hb dL_setDrift_10 (by decide) ?_
    refine lv_iconst (v := 0) hx hb dL_setDrift_21 (by decide) ?_
    exact hRet 0 (.inl (u, vp_updL f 0 r.toInt64)) _ _ _ _ _ _ (show (0 : Int32) = 0 ∧ ∃ r9, (fun (r : Int32) (u : Nat → Int32) => ∃ i, i < N ∧ x = nI i ∧ inR (-100) a 100 ∧ r = dr i ∧ u = upd dr i a) r9 u ∧ (vp_updL f 0 r.toInt64) 0 = r9.toInt64 from ⟨rfl, r, hp, pk_uLs⟩) hG (Nat.le_of_ble_eq_true rfl) (Nat.le_of_ble_eq_true rfl) dL_setDrift_22

set_option maxHeartbeats 4000000 in
set_option maxRecDepth 100000 in
theorem w_setOffset (l : Launch) (hl0 : l.stackTraces = false) (g : EN) (h : Nat → Nat) (o : Nat) (f : Nat → Int64) (N : Nat) (tk : Int32) (dom : Nat → Int32) (gr : Nat → Int32) (va : Nat → Int32) (dr : Nat → Int32) (off : Nat → Int64) (rt : Nat → Int64) (cnt : Int32) (lk : Nat → Int32) (dl : Nat → Int32) (td : Nat → Int32) (K : KT) (E : KT) (ds : Nat → Int32) (x a : Int32) (hN : N ≤ 10) : Xi l yL_setOffset wsL_setOffset ({ frames := 8, cells := 1, slots := 6, locals := 128 }) g [.ref (h 0), .int x, .int a, .ref o] (oNet g o f ++ (cNet g h N tk dom gr va dr off rt cnt lk dl td K E ds)) (fun _ => False) (fun (k : Int32) (v : ((Nat → Int64) × (Nat → Int64)) ⊕ Unit) => sE (fun w => k = 0 ∧ ∃ r, (fun (r : Int64) (u : Nat → Int64) => ∃ i, i < N ∧ x = nI i ∧ inR (-1000000) a 1000000 ∧ r = off i ∧ u = vp_updL off i a.toInt64) r w.1 ∧ w.2 0 = r) (fun _ => xk2 k (okN N x) (inR (-1000000) a 1000000)) v) (fun v => sE (fun w => oNet g o w.2 ++ (fun (u : Nat → Int64) => (cNet g h N tk dom gr va dr u rt cnt lk dl td K E ds)) w.1) (fun _ => oNet g o f ++ (cNet g h N tk dom gr va dr off rt cnt lk dl td K E ds)) v) := by
  refine XiH.of (cc := cL_setOffset) (maxL := 5) (hh := [(0, 9, 12, 21), (0, 9, 16, 13)]) (by decide) rfl (Nat.le_of_ble_eq_true rfl) ?_
  intro p e s m args below meth c A Q ls hM hG htb hRet hl
  have hx := hM.1
  have hb := hM.2.1
  have hown := hM.2.2.2.1
  have hts := hM.2.2.2.2
  have hl : lv_has ls 5 [(0, .ref (h 0)), (1, .int x), (2, .int a), (3, .ref o)] := hl
  refine lv_aload_n hx hb dL_setOffset_0 rfl (lv_at hl 3 rfl) ?_
  refine lv_iconst (v := 0) hx hb dL_setOffset_1 (by decide) ?_
  refine lv_aload_n hx hb dL_setOffset_2 rfl (lv_at hl 0 rfl) ?_
  refine lv_iload_n hx hb dL_setOffset_3 rfl (lv_at hl 1 rfl) ?_
  refine lv_iload_n hx hb dL_setOffset_4 rfl (lv_at hl 2 rfl) ?_
  refine q_xcallMl (n := 2) (As := [.int x, .int a]) (rest := [.int 0, .ref o]) (wc := (cNet g h N tk dom gr va dr off rt cnt lk dl td K E ds)) (wr := oNet g o f) hM hl.1 hG (c_X2_setOffset l hl0 g h N tk dom gr va dr off rt cnt lk dl td K E ds x a hN) rfl gL_setOffset_X2_setOffset (by decide +kernel) ⟨Nat.le_of_ble_eq_true rfl, Nat.le_of_ble_eq_true rfl⟩ 0 rfl rfl rfl rfl rfl (Nat.le_of_ble_eq_true rfl) dL_setOffset_5 (c1 := 1) (s1 := 6) rfl rfl ⟨Nat.le_of_ble_eq_true rfl, Nat.le_of_ble_eq_true rfl⟩ (fun E ce q9 H locs hE hG h1 h2 h3 => ?_) (fun r u H locs hp hG => ?_)
  · rcases hE with ⟨rfl, hno⟩ | ⟨rfl, hy1, hno⟩
    · refine vx_catch (own := RL) (name := "java/lang/IndexOutOfBoundsException") hown [] (⟨0, 9, 12, 21⟩ : ExceptionTableEntry) [(⟨0, 9, 16, 13⟩ : ExceptionTableEntry)] (by rw [htb]; rfl) (fun z hz => nomatch hz) (by decide) (by decide) (hts (.classLink RL 21 "java/lang/IndexOutOfBoundsException") (by decide +kernel)) (va_Nw.use rfl (hG.2.2.2.2.1.1 (.castable "java/lang/IndexOutOfBoundsException" "java/lang/IndexOutOfBoundsException") (by decide +kernel))) h1 h2 h3 ?_
      refine lv_astore (lv' := [(4, .ref q9), (0, .ref (h 0)), (1, .int x), (2, .int a), (3, .ref o)]) hx hb dL_setOffset_12 hl (by decide) rfl (fun ls hl => ?_)
      refine lv_iconst (v := 1) hx hb dL_setOffset_14 (by decide) ?_
      exact hRet 1 (.inr ()) _ _ _ _ _ _ (show xk2 1 (okN N x) (inR (-1000000) a 1000000) from Or.inl ⟨rfl, hno⟩) hG (Nat.le_of_ble_eq_true rfl) (Nat.le_of_ble_eq_true rfl) dL_setOffset_15
    · refine vx_catch (own := RL) (name := "java/lang/IllegalArgumentException") hown [(⟨0, 9, 12, 21⟩ : ExceptionTableEntry)] (⟨0, 9, 16, 13⟩ : ExceptionTableEntry) [] (by rw [htb]; rfl) (fun z hz => by
          simp only [List.mem_cons, List.not_mem_nil, or_false] at hz
          rcases hz with rfl
          · exact Or.inr ⟨by decide, "java/lang/IndexOutOfBoundsException", hts (.classLink RL 21 "java/lang/IndexOutOfBoundsException") (by decide +kernel), hG.2.2.2.2.1.2.2.2.2.2.2.2.2.2.2.1⟩) (by decide) (by decide) (hts (.classLink RL 13 "java/lang/IllegalArgumentException") (by decide +kernel)) (va_Nw.use rfl (hG.2.2.2.2.1.1 (.castable "java/lang/IllegalArgumentException" "java/lang/IllegalArgumentException") (by decide +kernel))) h1 h2 h3 ?_
      refine lv_astore (lv' := [(4, .ref q9), (0, .ref (h 0)), (1, .int x), (2, .int a), (3, .ref o)]) hx hb dL_setOffset_16 hl (by decide) rfl (fun ls hl => ?_)
      refine lv_iconst (v := 2) hx hb dL_setOffset_18 (by decide) ?_
      exact hRet 2 (.inr ()) _ _ _ _ _ _ (show xk2 2 (okN N x) (inR (-1000000) a 1000000) from Or.inr ⟨rfl, hy1, hno⟩) hG (Nat.le_of_ble_eq_true rfl) (Nat.le_of_ble_eq_true rfl) dL_setOffset_19
  · refine q_last hM hG 0 (i := 0) rfl (by decide) (by decide) (ws1 := oNet g o (vp_updL f 0 r) ++ (fun (u : Nat → Int64) => (cNet g h N tk dom gr va dr u rt cnt lk dl td K E ds)) u) rfl dL_setOffset_8 (fun H locs hG => ?_)
    refine lv_goto (tgt := 20) hx hb dL_setOffset_9 (by decide) ?_
    refine lv_iconst (v := 0) hx hb dL_setOffset_20 (by decide) ?_
    exact hRet 0 (.inl (u, vp_updL f 0 r)) _ _ _ _ _ _ (show (0 : Int32) = 0 ∧ ∃ r9, (fun (r : Int64) (u : Nat → Int64) => ∃ i, i < N ∧ x = nI i ∧ inR (-1000000) a 1000000 ∧ r = off i ∧ u = vp_updL off i a.toInt64) r9 u ∧ (vp_updL f 0 r) 0 = r9 from ⟨rfl, r, hp, pk_uLs⟩) hG (Nat.le_of_ble_eq_true rfl) (Nat.le_of_ble_eq_true rfl) dL_setOffset_21

set_option maxHeartbeats 4000000 in
set_option maxRecDepth 100000 in
theorem w_link (l : Launch) (hl0 : l.stackTraces = false) (g : EN) (h : Nat → Nat) (o : Nat) (f : Nat → Int64) (N : Nat) (tk : Int32) (dom : Nat → Int32) (gr : Nat → Int32) (va : Nat → Int32) (dr : Nat → Int32) (off : Nat → Int64) (rt : Nat → Int64) (cnt : Int32) (lk : Nat → Int32) (dl : Nat → Int32) (td : Nat → Int32) (K : KT) (E : KT) (ds : Nat → Int32) (x y a b : Int32) (hN : N ≤ 10) (hlk : b01 lk) : Xi l yL_link wsL_link ({ frames := 8, cells := 1, slots := 6, locals := 128 }) g [.ref (h 0), .int x, .int y, .int a, .int b, .ref o] (oNet g o f ++ (cNet g h N tk dom gr va dr off rt cnt lk dl td K E ds)) (fun _ => False) (fun (k : Int32) (v : (((Nat → Int32) × (Nat → Int32) × (Nat → Int32) × Int32) × (Nat → Int64)) ⊕ Unit) => sE (fun w => k = 0 ∧ ∃ r, (fun (r : Int32) (u : (Nat → Int32) × (Nat → Int32) × (Nat → Int32) × Int32) => ∃ i j, i < N ∧ j < N ∧ x = nI i ∧ y = nI j ∧ (¬ x = y ∧ inR 0 a 100000 ∧ inR 0 b 100000) ∧ ¬ lkd lk x y ∧ u.1 = upd (upd lk (i * 10 + j) 1) (j * 10 + i) 1 ∧ u.2.1 = upd (upd dl (i * 10 + j) a) (j * 10 + i) b ∧ u.2.2.1 = upd (upd td (i * 10 + j) 0) (j * 10 + i) 0 ∧ u.2.2.2 = cnt + 1 ∧ r = cnt + 1) r w.1 ∧ w.2 0 = r.toInt64) (fun _ => xk3 k (okN N x ∧ okN N y) (¬ x = y ∧ inR 0 a 100000 ∧ inR 0 b 100000) (¬ lkd lk x y)) v) (fun v => sE (fun w => oNet g o w.2 ++ (fun (u : (Nat → Int32) × (Nat → Int32) × (Nat → Int32) × Int32) => (cNet g h N tk dom gr va dr off rt u.2.2.2 u.1 u.2.1 u.2.2.1 K E ds)) w.1) (fun _ => oNet g o f ++ (cNet g h N tk dom gr va dr off rt cnt lk dl td K E ds)) v) := by
  refine XiH.of (cc := cL_link) (maxL := 7) (hh := [(0, 14, 17, 21), (0, 14, 21, 13), (0, 14, 25, 15)]) (by decide) rfl (Nat.le_of_ble_eq_true rfl) ?_
  intro p e s m args below meth c A Q ls hM hG htb hRet hl
  have hx := hM.1
  have hb := hM.2.1
  have hown := hM.2.2.2.1
  have hts := hM.2.2.2.2
  have hl : lv_has ls 7 [(0, .ref (h 0)), (1, .int x), (2, .int y), (3, .int a), (4, .int b), (5, .ref o)] := hl
  refine lv_aload hx hb dL_link_0 (lv_at hl 5 rfl) ?_
  refine lv_iconst (v := 0) hx hb dL_link_2 (by decide) ?_
  refine lv_aload_n hx hb dL_link_3 rfl (lv_at hl 0 rfl) ?_
  refine lv_iload_n hx hb dL_link_4 rfl (lv_at hl 1 rfl) ?_
  refine lv_iload_n hx hb dL_link_5 rfl (lv_at hl 2 rfl) ?_
  refine lv_iload_n hx hb dL_link_6 rfl (lv_at hl 3 rfl) ?_
  refine lv_iload hx hb dL_link_7 (lv_at hl 4 rfl) ?_
  refine q_xcallMi (n := 4) (As := [.int x, .int y, .int a, .int b]) (rest := [.int 0, .ref o]) (wc := (cNet g h N tk dom gr va dr off rt cnt lk dl td K E ds)) (wr := oNet g o f) hM hl.1 hG (c_X2_link l hl0 g h N tk dom gr va dr off rt cnt lk dl td K E ds x y a b hN hlk) rfl gL_link_X2_link (by decide +kernel) ⟨Nat.le_of_ble_eq_true rfl, Nat.le_of_ble_eq_true rfl⟩ 0 rfl rfl rfl rfl rfl (Nat.le_of_ble_eq_true rfl) dL_link_9 (c1 := 1) (s1 := 6) rfl rfl ⟨Nat.le_of_ble_eq_true rfl, Nat.le_of_ble_eq_true rfl⟩ (fun E ce q9 H locs hE hG h1 h2 h3 => ?_) (fun r u H locs hp hG => ?_)
  · rcases hE with ⟨rfl, hno⟩ | ⟨rfl, hy1, hno⟩ | ⟨rfl, hy1, hy2, hno⟩
    · refine vx_catch (own := RL) (name := "java/lang/IndexOutOfBoundsException") hown [] (⟨0, 14, 17, 21⟩ : ExceptionTableEntry) [(⟨0, 14, 21, 13⟩ : ExceptionTableEntry), (⟨0, 14, 25, 15⟩ : ExceptionTableEntry)] (by rw [htb]; rfl) (fun z hz => nomatch hz) (by decide) (by decide) (hts (.classLink RL 21 "java/lang/IndexOutOfBoundsException") (by decide +kernel)) (va_Nw.use rfl (hG.2.2.2.2.1.1 (.castable "java/lang/IndexOutOfBoundsException" "java/lang/IndexOutOfBoundsException") (by decide +kernel))) h1 h2 h3 ?_
      refine lv_astore (lv' := [(6, .ref q9), (0, .ref (h 0)), (1, .int x), (2, .int y), (3, .int a), (4, .int b), (5, .ref o)]) hx hb dL_link_17 hl (by decide) rfl (fun ls hl => ?_)
      refine lv_iconst (v := 1) hx hb dL_link_19 (by decide) ?_
      exact hRet 1 (.inr ()) _ _ _ _ _ _ (show xk3 1 (okN N x ∧ okN N y) (¬ x = y ∧ inR 0 a 100000 ∧ inR 0 b 100000) (¬ lkd lk x y) from Or.inl ⟨rfl, hno⟩) hG (Nat.le_of_ble_eq_true rfl) (Nat.le_of_ble_eq_true rfl) dL_link_20
    · refine vx_catch (own := RL) (name := "java/lang/IllegalArgumentException") hown [(⟨0, 14, 17, 21⟩ : ExceptionTableEntry)] (⟨0, 14, 21, 13⟩ : ExceptionTableEntry) [(⟨0, 14, 25, 15⟩ : ExceptionTableEntry)] (by rw [htb]; rfl) (fun z hz => by
          simp only [List.mem_cons, List.not_mem_nil, or_false] at hz
          rcases hz with rfl
          · exact Or.inr ⟨by decide, "java/lang/IndexOutOfBoundsException", hts (.classLink RL 21 "java/lang/IndexOutOfBoundsException") (by decide +kernel), hG.2.2.2.2.1.2.2.2.2.2.2.2.2.2.2.1⟩) (by decide) (by decide) (hts (.classLink RL 13 "java/lang/IllegalArgumentException") (by decide +kernel)) (va_Nw.use rfl (hG.2.2.2.2.1.1 (.castable "java/lang/IllegalArgumentException" "java/lang/IllegalArgumentException") (by decide +kernel))) h1 h2 h3 ?_
      refine lv_astore (lv' := [(6, .ref q9), (0, .ref (h 0)), (1, .int x), (2, .int y), (3, .int a), (4, .int b), (5, .ref o)]) hx hb dL_link_21 hl (by decide) rfl (fun ls hl => ?_)
      refine lv_iconst (v := 2) hx hb dL_link_23 (by decide) ?_
      exact hRet 2 (.inr ()) _ _ _ _ _ _ (show xk3 2 (okN N x ∧ okN N y) (¬ x = y ∧ inR 0 a 100000 ∧ inR 0 b 100000) (¬ lkd lk x y) from Or.inr (Or.inl ⟨rfl, hy1, hno⟩)) hG (Nat.le_of_ble_eq_true rfl) (Nat.le_of_ble_eq_true rfl) dL_link_24
    · refine vx_catch (own := RL) (name := "java/lang/IllegalStateException") hown [(⟨0, 14, 17, 21⟩ : ExceptionTableEntry), (⟨0, 14, 21, 13⟩ : ExceptionTableEntry)] (⟨0, 14, 25, 15⟩ : ExceptionTableEntry) [] (by rw [htb]; rfl) (fun z hz => by
          simp only [List.mem_cons, List.not_mem_nil, or_false] at hz
          rcases hz with rfl | rfl
          · exact Or.inr ⟨by decide, "java/lang/IndexOutOfBoundsException", hts (.classLink RL 21 "java/lang/IndexOutOfBoundsException") (by decide +kernel), hG.2.2.2.2.1.2.2.2.2.2.2.2.2.2.2.2⟩
          · exact Or.inr ⟨by decide, "java/lang/IllegalArgumentException", hts (.classLink RL 13 "java/lang/IllegalArgumentException") (by decide +kernel), hG.2.2.2.2.1.2.2.2.2.2.2.2.2.2.1⟩) (by decide) (by decide) (hts (.classLink RL 15 "java/lang/IllegalStateException") (by decide +kernel)) (va_Nw.use rfl (hG.2.2.2.2.1.1 (.castable "java/lang/IllegalStateException" "java/lang/IllegalStateException") (by decide +kernel))) h1 h2 h3 ?_
      refine lv_astore (lv' := [(6, .ref q9), (0, .ref (h 0)), (1, .int x), (2, .int y), (3, .int a), (4, .int b), (5, .ref o)]) hx hb dL_link_25 hl (by decide) rfl (fun ls hl => ?_)
      refine lv_iconst (v := 3) hx hb dL_link_27 (by decide) ?_
      exact hRet 3 (.inr ()) _ _ _ _ _ _ (show xk3 3 (okN N x ∧ okN N y) (¬ x = y ∧ inR 0 a 100000 ∧ inR 0 b 100000) (¬ lkd lk x y) from Or.inr (Or.inr ⟨rfl, hy1, hy2, hno⟩)) hG (Nat.le_of_ble_eq_true rfl) (Nat.le_of_ble_eq_true rfl) dL_link_28
  · refine lv_i2l hx hb dL_link_12 rfl ?_
    refine q_last hM hG 0 (i := 0) rfl (by decide) (by decide) (ws1 := oNet g o (vp_updL f 0 r.toInt64) ++ (fun (u : (Nat → Int32) × (Nat → Int32) × (Nat → Int32) × Int32) => (cNet g h N tk dom gr va dr off rt u.2.2.2 u.1 u.2.1 u.2.2.1 K E ds)) u) rfl dL_link_13 (fun H locs hG => ?_)
    refine lv_goto (tgt := 29) hx hb dL_link_14 (by decide) ?_
    refine lv_iconst (v := 0) hx hb dL_link_29 (by decide) ?_
    exact hRet 0 (.inl (u, vp_updL f 0 r.toInt64)) _ _ _ _ _ _ (show (0 : Int32) = 0 ∧ ∃ r9, (fun (r : Int32) (u : (Nat → Int32) × (Nat → Int32) × (Nat → Int32) × Int32) => ∃ i j, i < N ∧ j < N ∧ x = nI i ∧ y = nI j ∧ (¬ x = y ∧ inR 0 a 100000 ∧ inR 0 b 100000) ∧ ¬ lkd lk x y ∧ u.1 = upd (upd lk (i * 10 + j) 1) (j * 10 + i) 1 ∧ u.2.1 = upd (upd dl (i * 10 + j) a) (j * 10 + i) b ∧ u.2.2.1 = upd (upd td (i * 10 + j) 0) (j * 10 + i) 0 ∧ u.2.2.2 = cnt + 1 ∧ r = cnt + 1) r9 u ∧ (vp_updL f 0 r.toInt64) 0 = r9.toInt64 from ⟨rfl, r, hp, pk_uLs⟩) hG (Nat.le_of_ble_eq_true rfl) (Nat.le_of_ble_eq_true rfl) dL_link_30

set_option maxHeartbeats 4000000 in
set_option maxRecDepth 100000 in
theorem w_cut (l : Launch) (hl0 : l.stackTraces = false) (g : EN) (h : Nat → Nat) (o : Nat) (f : Nat → Int64) (N : Nat) (tk : Int32) (dom : Nat → Int32) (gr : Nat → Int32) (va : Nat → Int32) (dr : Nat → Int32) (off : Nat → Int64) (rt : Nat → Int64) (cnt : Int32) (lk : Nat → Int32) (dl : Nat → Int32) (td : Nat → Int32) (K : KT) (E : KT) (ds : Nat → Int32) (x y : Int32) (hN : N ≤ 10) (hlk : b01 lk) : Xi l yL_cut wsL_cut ({ frames := 8, cells := 1, slots := 6, locals := 126 }) g [.ref (h 0), .int x, .int y, .ref o] (oNet g o f ++ (cNet g h N tk dom gr va dr off rt cnt lk dl td K E ds)) (fun _ => False) (fun (k : Int32) (v : (((Nat → Int32) × Int32 × KT) × (Nat → Int64)) ⊕ Unit) => sE (fun w => k = 0 ∧ ∃ r, (fun (r : Int32) (u : (Nat → Int32) × Int32 × KT) => ∃ i j, i < N ∧ j < N ∧ x = nI i ∧ y = nI j ∧ lkd lk x y ∧ u.1 = upd (upd lk (i * 10 + j) 0) (j * 10 + i) 0 ∧ u.2.1 = cnt - 1 ∧ u.2.2 = kfp gr va (kfp gr va K i j) j i ∧ r = cnt - 1) r w.1 ∧ w.2 0 = r.toInt64) (fun _ => xk2 k (okN N x ∧ okN N y) (lkd lk x y)) v) (fun v => sE (fun w => oNet g o w.2 ++ (fun (u : (Nat → Int32) × Int32 × KT) => (cNet g h N tk dom gr va dr off rt u.2.1 u.1 dl td u.2.2 E ds)) w.1) (fun _ => oNet g o f ++ (cNet g h N tk dom gr va dr off rt cnt lk dl td K E ds)) v) := by
  refine XiH.of (cc := cL_cut) (maxL := 5) (hh := [(0, 10, 13, 21), (0, 10, 17, 15)]) (by decide) rfl (Nat.le_of_ble_eq_true rfl) ?_
  intro p e s m args below meth c A Q ls hM hG htb hRet hl
  have hx := hM.1
  have hb := hM.2.1
  have hown := hM.2.2.2.1
  have hts := hM.2.2.2.2
  have hl : lv_has ls 5 [(0, .ref (h 0)), (1, .int x), (2, .int y), (3, .ref o)] := hl
  refine lv_aload_n hx hb dL_cut_0 rfl (lv_at hl 3 rfl) ?_
  refine lv_iconst (v := 0) hx hb dL_cut_1 (by decide) ?_
  refine lv_aload_n hx hb dL_cut_2 rfl (lv_at hl 0 rfl) ?_
  refine lv_iload_n hx hb dL_cut_3 rfl (lv_at hl 1 rfl) ?_
  refine lv_iload_n hx hb dL_cut_4 rfl (lv_at hl 2 rfl) ?_
  refine q_xcallMi (n := 2) (As := [.int x, .int y]) (rest := [.int 0, .ref o]) (wc := (cNet g h N tk dom gr va dr off rt cnt lk dl td K E ds)) (wr := oNet g o f) hM hl.1 hG (c_X2_cut l hl0 g h N tk dom gr va dr off rt cnt lk dl td K E ds x y hN hlk) rfl gL_cut_X2_cut (by decide +kernel) ⟨Nat.le_of_ble_eq_true rfl, Nat.le_of_ble_eq_true rfl⟩ 0 rfl rfl rfl rfl rfl (Nat.le_of_ble_eq_true rfl) dL_cut_5 (c1 := 1) (s1 := 6) rfl rfl ⟨Nat.le_of_ble_eq_true rfl, Nat.le_of_ble_eq_true rfl⟩ (fun E ce q9 H locs hE hG h1 h2 h3 => ?_) (fun r u H locs hp hG => ?_)
  · rcases hE with ⟨rfl, hno⟩ | ⟨rfl, hy1, hno⟩
    · refine vx_catch (own := RL) (name := "java/lang/IndexOutOfBoundsException") hown [] (⟨0, 10, 13, 21⟩ : ExceptionTableEntry) [(⟨0, 10, 17, 15⟩ : ExceptionTableEntry)] (by rw [htb]; rfl) (fun z hz => nomatch hz) (by decide) (by decide) (hts (.classLink RL 21 "java/lang/IndexOutOfBoundsException") (by decide +kernel)) (va_Nw.use rfl (hG.2.2.2.2.1.1 (.castable "java/lang/IndexOutOfBoundsException" "java/lang/IndexOutOfBoundsException") (by decide +kernel))) h1 h2 h3 ?_
      refine lv_astore (lv' := [(4, .ref q9), (0, .ref (h 0)), (1, .int x), (2, .int y), (3, .ref o)]) hx hb dL_cut_13 hl (by decide) rfl (fun ls hl => ?_)
      refine lv_iconst (v := 1) hx hb dL_cut_15 (by decide) ?_
      exact hRet 1 (.inr ()) _ _ _ _ _ _ (show xk2 1 (okN N x ∧ okN N y) (lkd lk x y) from Or.inl ⟨rfl, hno⟩) hG (Nat.le_of_ble_eq_true rfl) (Nat.le_of_ble_eq_true rfl) dL_cut_16
    · refine vx_catch (own := RL) (name := "java/lang/IllegalStateException") hown [(⟨0, 10, 13, 21⟩ : ExceptionTableEntry)] (⟨0, 10, 17, 15⟩ : ExceptionTableEntry) [] (by rw [htb]; rfl) (fun z hz => by
          simp only [List.mem_cons, List.not_mem_nil, or_false] at hz
          rcases hz with rfl
          · exact Or.inr ⟨by decide, "java/lang/IndexOutOfBoundsException", hts (.classLink RL 21 "java/lang/IndexOutOfBoundsException") (by decide +kernel), hG.2.2.2.2.1.2.2.2.2.2.2.2.2.2.2.2⟩) (by decide) (by decide) (hts (.classLink RL 15 "java/lang/IllegalStateException") (by decide +kernel)) (va_Nw.use rfl (hG.2.2.2.2.1.1 (.castable "java/lang/IllegalStateException" "java/lang/IllegalStateException") (by decide +kernel))) h1 h2 h3 ?_
      refine lv_astore (lv' := [(4, .ref q9), (0, .ref (h 0)), (1, .int x), (2, .int y), (3, .ref o)]) hx hb dL_cut_17 hl (by decide) rfl (fun ls hl => ?_)
      refine lv_iconst (v := 2) hx hb dL_cut_19 (by decide) ?_
      exact hRet 2 (.inr ()) _ _ _ _ _ _ (show xk2 2 (okN N x ∧ okN N y) (lkd lk x y) from Or.inr ⟨rfl, hy1, hno⟩) hG (Nat.le_of_ble_eq_true rfl) (Nat.le_of_ble_eq_true rfl) dL_cut_20
  · refine lv_i2l hx hb dL_cut_8 rfl ?_
    refine q_last hM hG 0 (i := 0) rfl (by decide) (by decide) (ws1 := oNet g o (vp_updL f 0 r.toInt64) ++ (fun (u : (Nat → Int32) × Int32 × KT) => (cNet g h N tk dom gr va dr off rt u.2.1 u.1 dl td u.2.2 E ds)) u) rfl dL_cut_9 (fun H locs hG => ?_)
    refine lv_goto (tgt := 21) hx hb dL_cut_10 (by decide) ?_
    refine lv_iconst (v := 0) hx hb dL_cut_21 (by decide) ?_
    exact hRet 0 (.inl (u, vp_updL f 0 r.toInt64)) _ _ _ _ _ _ (show (0 : Int32) = 0 ∧ ∃ r9, (fun (r : Int32) (u : (Nat → Int32) × Int32 × KT) => ∃ i j, i < N ∧ j < N ∧ x = nI i ∧ y = nI j ∧ lkd lk x y ∧ u.1 = upd (upd lk (i * 10 + j) 0) (j * 10 + i) 0 ∧ u.2.1 = cnt - 1 ∧ u.2.2 = kfp gr va (kfp gr va K i j) j i ∧ r = cnt - 1) r9 u ∧ (vp_updL f 0 r.toInt64) 0 = r9.toInt64 from ⟨rfl, r, hp, pk_uLs⟩) hG (Nat.le_of_ble_eq_true rfl) (Nat.le_of_ble_eq_true rfl) dL_cut_22

set_option maxHeartbeats 4000000 in
set_option maxRecDepth 100000 in
theorem w_tell (l : Launch) (hl0 : l.stackTraces = false) (g : EN) (h : Nat → Nat) (o : Nat) (f : Nat → Int64) (N : Nat) (tk : Int32) (dom : Nat → Int32) (gr : Nat → Int32) (va : Nat → Int32) (dr : Nat → Int32) (off : Nat → Int64) (rt : Nat → Int64) (cnt : Int32) (lk : Nat → Int32) (dl : Nat → Int32) (td : Nat → Int32) (K : KT) (E : KT) (ds : Nat → Int32) (x y a : Int32) (hN : N ≤ 10) (hlk : b01 lk) : Xi l yL_tell wsL_tell ({ frames := 8, cells := 1, slots := 6, locals := 127 }) g [.ref (h 0), .int x, .int y, .int a, .ref o] (oNet g o f ++ (cNet g h N tk dom gr va dr off rt cnt lk dl td K E ds)) (fun _ => False) (fun (k : Int32) (v : ((Nat → Int32) × (Nat → Int64)) ⊕ Unit) => sE (fun w => k = 0 ∧ ∃ r, (fun (r : Int32) (u : Nat → Int32) => ∃ i j, i < N ∧ j < N ∧ x = nI i ∧ y = nI j ∧ inR (-100000) a 100000 ∧ lkd lk x y ∧ r = td (i * 10 + j) ∧ u = upd (upd td (i * 10 + j) a) (j * 10 + i) (-a)) r w.1 ∧ w.2 0 = r.toInt64) (fun _ => xk3 k (okN N x ∧ okN N y) (inR (-100000) a 100000) (lkd lk x y)) v) (fun v => sE (fun w => oNet g o w.2 ++ (fun (u : Nat → Int32) => (cNet g h N tk dom gr va dr off rt cnt lk dl u K E ds)) w.1) (fun _ => oNet g o f ++ (cNet g h N tk dom gr va dr off rt cnt lk dl td K E ds)) v) := by
  refine XiH.of (cc := cL_tell) (maxL := 6) (hh := [(0, 12, 15, 21), (0, 12, 19, 13), (0, 12, 23, 15)]) (by decide) rfl (Nat.le_of_ble_eq_true rfl) ?_
  intro p e s m args below meth c A Q ls hM hG htb hRet hl
  have hx := hM.1
  have hb := hM.2.1
  have hown := hM.2.2.2.1
  have hts := hM.2.2.2.2
  have hl : lv_has ls 6 [(0, .ref (h 0)), (1, .int x), (2, .int y), (3, .int a), (4, .ref o)] := hl
  refine lv_aload hx hb dL_tell_0 (lv_at hl 4 rfl) ?_
  refine lv_iconst (v := 0) hx hb dL_tell_2 (by decide) ?_
  refine lv_aload_n hx hb dL_tell_3 rfl (lv_at hl 0 rfl) ?_
  refine lv_iload_n hx hb dL_tell_4 rfl (lv_at hl 1 rfl) ?_
  refine lv_iload_n hx hb dL_tell_5 rfl (lv_at hl 2 rfl) ?_
  refine lv_iload_n hx hb dL_tell_6 rfl (lv_at hl 3 rfl) ?_
  refine q_xcallMi (n := 3) (As := [.int x, .int y, .int a]) (rest := [.int 0, .ref o]) (wc := (cNet g h N tk dom gr va dr off rt cnt lk dl td K E ds)) (wr := oNet g o f) hM hl.1 hG (c_X2_tell l hl0 g h N tk dom gr va dr off rt cnt lk dl td K E ds x y a hN hlk) rfl gL_tell_X2_tell (by decide +kernel) ⟨Nat.le_of_ble_eq_true rfl, Nat.le_of_ble_eq_true rfl⟩ 0 rfl rfl rfl rfl rfl (Nat.le_of_ble_eq_true rfl) dL_tell_7 (c1 := 1) (s1 := 6) rfl rfl ⟨Nat.le_of_ble_eq_true rfl, Nat.le_of_ble_eq_true rfl⟩ (fun E ce q9 H locs hE hG h1 h2 h3 => ?_) (fun r u H locs hp hG => ?_)
  · rcases hE with ⟨rfl, hno⟩ | ⟨rfl, hy1, hno⟩ | ⟨rfl, hy1, hy2, hno⟩
    · refine vx_catch (own := RL) (name := "java/lang/IndexOutOfBoundsException") hown [] (⟨0, 12, 15, 21⟩ : ExceptionTableEntry) [(⟨0, 12, 19, 13⟩ : ExceptionTableEntry), (⟨0, 12, 23, 15⟩ : ExceptionTableEntry)] (by rw [htb]; rfl) (fun z hz => nomatch hz) (by decide) (by decide) (hts (.classLink RL 21 "java/lang/IndexOutOfBoundsException") (by decide +kernel)) (va_Nw.use rfl (hG.2.2.2.2.1.1 (.castable "java/lang/IndexOutOfBoundsException" "java/lang/IndexOutOfBoundsException") (by decide +kernel))) h1 h2 h3 ?_
      refine lv_astore (lv' := [(5, .ref q9), (0, .ref (h 0)), (1, .int x), (2, .int y), (3, .int a), (4, .ref o)]) hx hb dL_tell_15 hl (by decide) rfl (fun ls hl => ?_)
      refine lv_iconst (v := 1) hx hb dL_tell_17 (by decide) ?_
      exact hRet 1 (.inr ()) _ _ _ _ _ _ (show xk3 1 (okN N x ∧ okN N y) (inR (-100000) a 100000) (lkd lk x y) from Or.inl ⟨rfl, hno⟩) hG (Nat.le_of_ble_eq_true rfl) (Nat.le_of_ble_eq_true rfl) dL_tell_18
    · refine vx_catch (own := RL) (name := "java/lang/IllegalArgumentException") hown [(⟨0, 12, 15, 21⟩ : ExceptionTableEntry)] (⟨0, 12, 19, 13⟩ : ExceptionTableEntry) [(⟨0, 12, 23, 15⟩ : ExceptionTableEntry)] (by rw [htb]; rfl) (fun z hz => by
          simp only [List.mem_cons, List.not_mem_nil, or_false] at hz
          rcases hz with rfl
          · exact Or.inr ⟨by decide, "java/lang/IndexOutOfBoundsException", hts (.classLink RL 21 "java/lang/IndexOutOfBoundsException") (by decide +kernel), hG.2.2.2.2.1.2.2.2.2.2.2.2.2.2.2.1⟩) (by decide) (by decide) (hts (.classLink RL 13 "java/lang/IllegalArgumentException") (by decide +kernel)) (va_Nw.use rfl (hG.2.2.2.2.1.1 (.castable "java/lang/IllegalArgumentException" "java/lang/IllegalArgumentException") (by decide +kernel))) h1 h2 h3 ?_
      refine lv_astore (lv' := [(5, .ref q9), (0, .ref (h 0)), (1, .int x), (2, .int y), (3, .int a), (4, .ref o)]) hx hb dL_tell_19 hl (by decide) rfl (fun ls hl => ?_)
      refine lv_iconst (v := 2) hx hb dL_tell_21 (by decide) ?_
      exact hRet 2 (.inr ()) _ _ _ _ _ _ (show xk3 2 (okN N x ∧ okN N y) (inR (-100000) a 100000) (lkd lk x y) from Or.inr (Or.inl ⟨rfl, hy1, hno⟩)) hG (Nat.le_of_ble_eq_true rfl) (Nat.le_of_ble_eq_true rfl) dL_tell_22
    · refine vx_catch (own := RL) (name := "java/lang/IllegalStateException") hown [(⟨0, 12, 15, 21⟩ : ExceptionTableEntry), (⟨0, 12, 19, 13⟩ : ExceptionTableEntry)] (⟨0, 12, 23, 15⟩ : ExceptionTableEntry) [] (by rw [htb]; rfl) (fun z hz => by
          simp only [List.mem_cons, List.not_mem_nil, or_false] at hz
          rcases hz with rfl | rfl
          · exact Or.inr ⟨by decide, "java/lang/IndexOutOfBoundsException", hts (.classLink RL 21 "java/lang/IndexOutOfBoundsException") (by decide +kernel), hG.2.2.2.2.1.2.2.2.2.2.2.2.2.2.2.2⟩
          · exact Or.inr ⟨by decide, "java/lang/IllegalArgumentException", hts (.classLink RL 13 "java/lang/IllegalArgumentException") (by decide +kernel), hG.2.2.2.2.1.2.2.2.2.2.2.2.2.2.1⟩) (by decide) (by decide) (hts (.classLink RL 15 "java/lang/IllegalStateException") (by decide +kernel)) (va_Nw.use rfl (hG.2.2.2.2.1.1 (.castable "java/lang/IllegalStateException" "java/lang/IllegalStateException") (by decide +kernel))) h1 h2 h3 ?_
      refine lv_astore (lv' := [(5, .ref q9), (0, .ref (h 0)), (1, .int x), (2, .int y), (3, .int a), (4, .ref o)]) hx hb dL_tell_23 hl (by decide) rfl (fun ls hl => ?_)
      refine lv_iconst (v := 3) hx hb dL_tell_25 (by decide) ?_
      exact hRet 3 (.inr ()) _ _ _ _ _ _ (show xk3 3 (okN N x ∧ okN N y) (inR (-100000) a 100000) (lkd lk x y) from Or.inr (Or.inr ⟨rfl, hy1, hy2, hno⟩)) hG (Nat.le_of_ble_eq_true rfl) (Nat.le_of_ble_eq_true rfl) dL_tell_26
  · refine lv_i2l hx hb dL_tell_10 rfl ?_
    refine q_last hM hG 0 (i := 0) rfl (by decide) (by decide) (ws1 := oNet g o (vp_updL f 0 r.toInt64) ++ (fun (u : Nat → Int32) => (cNet g h N tk dom gr va dr off rt cnt lk dl u K E ds)) u) rfl dL_tell_11 (fun H locs hG => ?_)
    refine lv_goto (tgt := 27) hx hb dL_tell_12 (by decide) ?_
    refine lv_iconst (v := 0) hx hb dL_tell_27 (by decide) ?_
    exact hRet 0 (.inl (u, vp_updL f 0 r.toInt64)) _ _ _ _ _ _ (show (0 : Int32) = 0 ∧ ∃ r9, (fun (r : Int32) (u : Nat → Int32) => ∃ i j, i < N ∧ j < N ∧ x = nI i ∧ y = nI j ∧ inR (-100000) a 100000 ∧ lkd lk x y ∧ r = td (i * 10 + j) ∧ u = upd (upd td (i * 10 + j) a) (j * 10 + i) (-a)) r9 u ∧ (vp_updL f 0 r.toInt64) 0 = r9.toInt64 from ⟨rfl, r, hp, pk_uLs⟩) hG (Nat.le_of_ble_eq_true rfl) (Nat.le_of_ble_eq_true rfl) dL_tell_28

set_option maxHeartbeats 4000000 in
set_option maxRecDepth 100000 in
theorem w_tick (l : Launch) (hl0 : l.stackTraces = false) (g : EN) (h : Nat → Nat) (o : Nat) (f : Nat → Int64) (N : Nat) (tk : Int32) (dom : Nat → Int32) (gr : Nat → Int32) (va : Nat → Int32) (dr : Nat → Int32) (off : Nat → Int64) (rt : Nat → Int64) (cnt : Int32) (lk : Nat → Int32) (dl : Nat → Int32) (td : Nat → Int32) (K : KT) (E : KT) (ds : Nat → Int32) (t : Int32) (hN : N ≤ 10) (hlk : b01 lk) : Xi l yL_tick wsL_tick ({ frames := 8, cells := 1, slots := 6, locals := 152 }) g [.ref (h 0), .int t, .ref o] (oNet g o f ++ (cNet g h N tk dom gr va dr off rt cnt lk dl td K E ds)) (fun _ => False) (fun (k : Int32) (v : (((OR × KT) × KT) × (Nat → Int64)) ⊕ Unit) => sE (fun w => k = 0 ∧ ∃ r, (fun (r : Int32) (u : (OR × KT) × KT) => ∃ T, T ≤ 50 ∧ inR 1 t 50 ∧ t = nI T ∧ u.1 = tkN dom lk gr va dr dl td N ((off, rt), K) T ∧ r = tk + t) r w.1 ∧ w.2 0 = r.toInt64) (fun _ => xk1 k (inR 1 t 50)) v) (fun v => sE (fun w => oNet g o w.2 ++ (fun (u : (OR × KT) × KT) => (cNet g h N (tk + t) dom gr va dr u.1.1.1 u.1.1.2 cnt lk dl td u.1.2 u.2 ds)) w.1) (fun _ => oNet g o f ++ (cNet g h N tk dom gr va dr off rt cnt lk dl td K E ds)) v) := by
  refine XiH.of (cc := cL_tick) (maxL := 4) (hh := [(0, 9, 12, 13)]) (by decide) rfl (Nat.le_of_ble_eq_true rfl) ?_
  intro p e s m args below meth c A Q ls hM hG htb hRet hl
  have hx := hM.1
  have hb := hM.2.1
  have hown := hM.2.2.2.1
  have hts := hM.2.2.2.2
  have hl : lv_has ls 4 [(0, .ref (h 0)), (1, .int t), (2, .ref o)] := hl
  refine lv_aload_n hx hb dL_tick_0 rfl (lv_at hl 2 rfl) ?_
  refine lv_iconst (v := 0) hx hb dL_tick_1 (by decide) ?_
  refine lv_aload_n hx hb dL_tick_2 rfl (lv_at hl 0 rfl) ?_
  refine lv_iload_n hx hb dL_tick_3 rfl (lv_at hl 1 rfl) ?_
  refine q_xcallMi (n := 1) (As := [.int t]) (rest := [.int 0, .ref o]) (wc := (cNet g h N tk dom gr va dr off rt cnt lk dl td K E ds)) (wr := oNet g o f) hM hl.1 hG (c_X2_tick l hl0 g h N tk dom gr va dr off rt cnt lk dl td K E ds t hN hlk) rfl gL_tick_X2_tick (by decide +kernel) ⟨Nat.le_of_ble_eq_true rfl, Nat.le_of_ble_eq_true rfl⟩ 0 rfl rfl rfl rfl rfl (Nat.le_of_ble_eq_true rfl) dL_tick_4 (c1 := 1) (s1 := 6) rfl rfl ⟨Nat.le_of_ble_eq_true rfl, Nat.le_of_ble_eq_true rfl⟩ (fun E ce q9 H locs hE hG h1 h2 h3 => ?_) (fun r u H locs hp hG => ?_)
  · obtain ⟨rfl, hno⟩ := hE
    refine vx_catch (own := RL) (name := "java/lang/IllegalArgumentException") hown [] (⟨0, 9, 12, 13⟩ : ExceptionTableEntry) [] (by rw [htb]; rfl) (fun z hz => nomatch hz) (by decide) (by decide) (hts (.classLink RL 13 "java/lang/IllegalArgumentException") (by decide +kernel)) (va_Nw.use rfl (hG.2.2.2.2.1.1 (.castable "java/lang/IllegalArgumentException" "java/lang/IllegalArgumentException") (by decide +kernel))) h1 h2 h3 ?_
    refine lv_astore_n (lv' := [(3, .ref q9), (0, .ref (h 0)), (1, .int t), (2, .ref o)]) hx hb dL_tick_12 rfl hl (by decide) rfl (fun ls hl => ?_)
    refine lv_iconst (v := 1) hx hb dL_tick_13 (by decide) ?_
    exact hRet 1 (.inr ()) _ _ _ _ _ _ (show xk1 1 (inR 1 t 50) from ⟨rfl, hno⟩) hG (Nat.le_of_ble_eq_true rfl) (Nat.le_of_ble_eq_true rfl) dL_tick_14
  · refine lv_i2l hx hb dL_tick_7 rfl ?_
    refine q_last hM hG 0 (i := 0) rfl (by decide) (by decide) (ws1 := oNet g o (vp_updL f 0 r.toInt64) ++ (fun (u : (OR × KT) × KT) => (cNet g h N (tk + t) dom gr va dr u.1.1.1 u.1.1.2 cnt lk dl td u.1.2 u.2 ds)) u) rfl dL_tick_8 (fun H locs hG => ?_)
    refine lv_goto (tgt := 15) hx hb dL_tick_9 (by decide) ?_
    refine lv_iconst (v := 0) hx hb dL_tick_15 (by decide) ?_
    exact hRet 0 (.inl (u, vp_updL f 0 r.toInt64)) _ _ _ _ _ _ (show (0 : Int32) = 0 ∧ ∃ r9, (fun (r : Int32) (u : (OR × KT) × KT) => ∃ T, T ≤ 50 ∧ inR 1 t 50 ∧ t = nI T ∧ u.1 = tkN dom lk gr va dr dl td N ((off, rt), K) T ∧ r = tk + t) r9 u ∧ (vp_updL f 0 r.toInt64) 0 = r9.toInt64 from ⟨rfl, r, hp, pk_uLs⟩) hG (Nat.le_of_ble_eq_true rfl) (Nat.le_of_ble_eq_true rfl) dL_tick_16

set_option maxHeartbeats 4000000 in
set_option maxRecDepth 100000 in
theorem w_port (l : Launch) (hl0 : l.stackTraces = false) (g : EN) (h : Nat → Nat) (o : Nat) (f : Nat → Int64) (N : Nat) (tk : Int32) (dom : Nat → Int32) (gr : Nat → Int32) (va : Nat → Int32) (dr : Nat → Int32) (off : Nat → Int64) (rt : Nat → Int64) (cnt : Int32) (lk : Nat → Int32) (dl : Nat → Int32) (td : Nat → Int32) (K : KT) (E : KT) (ds : Nat → Int32) (x y : Int32) (hN : N ≤ 10) (hlk : b01 lk) : Xi l yL_port wsL_port ({ frames := 8, cells := 1, slots := 6, locals := 125 }) g [.ref (h 0), .int x, .int y, .ref o] (oNet g o f ++ (cNet g h N tk dom gr va dr off rt cnt lk dl td K E ds)) (fun _ => False) (fun (k : Int32) (v : ((Unit) × (Nat → Int64)) ⊕ Unit) => sE (fun w => k = 0 ∧ ∃ r, (fun (r : Int32) (_ : Unit) => ∃ i j, i < N ∧ j < N ∧ x = nI i ∧ y = nI j ∧ r = prt dom lk K.2.2.1 K.2.2.2 i j) r w.1 ∧ w.2 0 = r.toInt64) (fun _ => xk1 k (okN N x ∧ okN N y)) v) (fun v => sE (fun w => oNet g o w.2 ++ (fun (_ : Unit) => (cNet g h N tk dom gr va dr off rt cnt lk dl td K E ds)) w.1) (fun _ => oNet g o f ++ (cNet g h N tk dom gr va dr off rt cnt lk dl td K E ds)) v) := by
  refine XiH.of (cc := cL_port) (maxL := 5) (hh := [(0, 10, 13, 21)]) (by decide) rfl (Nat.le_of_ble_eq_true rfl) ?_
  intro p e s m args below meth c A Q ls hM hG htb hRet hl
  have hx := hM.1
  have hb := hM.2.1
  have hown := hM.2.2.2.1
  have hts := hM.2.2.2.2
  have hl : lv_has ls 5 [(0, .ref (h 0)), (1, .int x), (2, .int y), (3, .ref o)] := hl
  refine lv_aload_n hx hb dL_port_0 rfl (lv_at hl 3 rfl) ?_
  refine lv_iconst (v := 0) hx hb dL_port_1 (by decide) ?_
  refine lv_aload_n hx hb dL_port_2 rfl (lv_at hl 0 rfl) ?_
  refine lv_iload_n hx hb dL_port_3 rfl (lv_at hl 1 rfl) ?_
  refine lv_iload_n hx hb dL_port_4 rfl (lv_at hl 2 rfl) ?_
  refine q_xcallMi (n := 2) (As := [.int x, .int y]) (rest := [.int 0, .ref o]) (wc := (cNet g h N tk dom gr va dr off rt cnt lk dl td K E ds)) (wr := oNet g o f) hM hl.1 hG (c_X2_port l hl0 g h N tk dom gr va dr off rt cnt lk dl td K E ds x y hN hlk) rfl gL_port_X2_port (by decide +kernel) ⟨Nat.le_of_ble_eq_true rfl, Nat.le_of_ble_eq_true rfl⟩ 0 rfl rfl rfl rfl rfl (Nat.le_of_ble_eq_true rfl) dL_port_5 (c1 := 1) (s1 := 6) rfl rfl ⟨Nat.le_of_ble_eq_true rfl, Nat.le_of_ble_eq_true rfl⟩ (fun E ce q9 H locs hE hG h1 h2 h3 => ?_) (fun r u H locs hp hG => ?_)
  · obtain ⟨rfl, hno⟩ := hE
    refine vx_catch (own := RL) (name := "java/lang/IndexOutOfBoundsException") hown [] (⟨0, 10, 13, 21⟩ : ExceptionTableEntry) [] (by rw [htb]; rfl) (fun z hz => nomatch hz) (by decide) (by decide) (hts (.classLink RL 21 "java/lang/IndexOutOfBoundsException") (by decide +kernel)) (va_Nw.use rfl (hG.2.2.2.2.1.1 (.castable "java/lang/IndexOutOfBoundsException" "java/lang/IndexOutOfBoundsException") (by decide +kernel))) h1 h2 h3 ?_
    refine lv_astore (lv' := [(4, .ref q9), (0, .ref (h 0)), (1, .int x), (2, .int y), (3, .ref o)]) hx hb dL_port_13 hl (by decide) rfl (fun ls hl => ?_)
    refine lv_iconst (v := 1) hx hb dL_port_15 (by decide) ?_
    exact hRet 1 (.inr ()) _ _ _ _ _ _ (show xk1 1 (okN N x ∧ okN N y) from ⟨rfl, hno⟩) hG (Nat.le_of_ble_eq_true rfl) (Nat.le_of_ble_eq_true rfl) dL_port_16
  · refine lv_i2l hx hb dL_port_8 rfl ?_
    refine q_last hM hG 0 (i := 0) rfl (by decide) (by decide) (ws1 := oNet g o (vp_updL f 0 r.toInt64) ++ (fun (_ : Unit) => (cNet g h N tk dom gr va dr off rt cnt lk dl td K E ds)) u) rfl dL_port_9 (fun H locs hG => ?_)
    refine lv_goto (tgt := 17) hx hb dL_port_10 (by decide) ?_
    refine lv_iconst (v := 0) hx hb dL_port_17 (by decide) ?_
    exact hRet 0 (.inl (u, vp_updL f 0 r.toInt64)) _ _ _ _ _ _ (show (0 : Int32) = 0 ∧ ∃ r9, (fun (r : Int32) (_ : Unit) => ∃ i j, i < N ∧ j < N ∧ x = nI i ∧ y = nI j ∧ r = prt dom lk K.2.2.1 K.2.2.2 i j) r9 u ∧ (vp_updL f 0 r.toInt64) 0 = r9.toInt64 from ⟨rfl, r, hp, pk_uLs⟩) hG (Nat.le_of_ble_eq_true rfl) (Nat.le_of_ble_eq_true rfl) dL_port_18

set_option maxHeartbeats 4000000 in
set_option maxRecDepth 100000 in
theorem w_spread (l : Launch) (hl0 : l.stackTraces = false) (g : EN) (h : Nat → Nat) (o : Nat) (f : Nat → Int64) (N : Nat) (tk : Int32) (dom : Nat → Int32) (gr : Nat → Int32) (va : Nat → Int32) (dr : Nat → Int32) (off : Nat → Int64) (rt : Nat → Int64) (cnt : Int32) (lk : Nat → Int32) (dl : Nat → Int32) (td : Nat → Int32) (K : KT) (E : KT) (ds : Nat → Int32) (x : Int32) (hN : N ≤ 10) : Xi l yL_spread wsL_spread ({ frames := 8, cells := 1, slots := 6, locals := 131 }) g [.ref (h 0), .int x, .ref o] (oNet g o f ++ (cNet g h N tk dom gr va dr off rt cnt lk dl td K E ds)) (fun _ => False) (fun (k : Int32) (v : ((Unit) × (Nat → Int64)) ⊕ Unit) => sE (fun w => k = 0 ∧ ∃ r, (fun (r : Int64) (_ : Unit) => inR 0 x 1 ∧ (N = 0 → r = 0)) r w.1 ∧ w.2 0 = r) (fun _ => xk1 k (inR 0 x 1)) v) (fun v => sE (fun w => oNet g o w.2 ++ (fun (_ : Unit) => (cNet g h N tk dom gr va dr off rt cnt lk dl td K E ds)) w.1) (fun _ => oNet g o f ++ (cNet g h N tk dom gr va dr off rt cnt lk dl td K E ds)) v) := by
  refine XiH.of (cc := cL_spread) (maxL := 4) (hh := [(0, 8, 11, 13)]) (by decide) rfl (Nat.le_of_ble_eq_true rfl) ?_
  intro p e s m args below meth c A Q ls hM hG htb hRet hl
  have hx := hM.1
  have hb := hM.2.1
  have hown := hM.2.2.2.1
  have hts := hM.2.2.2.2
  have hl : lv_has ls 4 [(0, .ref (h 0)), (1, .int x), (2, .ref o)] := hl
  refine lv_aload_n hx hb dL_spread_0 rfl (lv_at hl 2 rfl) ?_
  refine lv_iconst (v := 0) hx hb dL_spread_1 (by decide) ?_
  refine lv_aload_n hx hb dL_spread_2 rfl (lv_at hl 0 rfl) ?_
  refine lv_iload_n hx hb dL_spread_3 rfl (lv_at hl 1 rfl) ?_
  refine q_xcallMl (n := 1) (As := [.int x]) (rest := [.int 0, .ref o]) (wc := (cNet g h N tk dom gr va dr off rt cnt lk dl td K E ds)) (wr := oNet g o f) hM hl.1 hG (c_X2_spread l hl0 g h N tk dom gr va dr off rt cnt lk dl td K E ds x hN) rfl gL_spread_X2_spread (by decide +kernel) ⟨Nat.le_of_ble_eq_true rfl, Nat.le_of_ble_eq_true rfl⟩ 0 rfl rfl rfl rfl rfl (Nat.le_of_ble_eq_true rfl) dL_spread_4 (c1 := 1) (s1 := 6) rfl rfl ⟨Nat.le_of_ble_eq_true rfl, Nat.le_of_ble_eq_true rfl⟩ (fun E ce q9 H locs hE hG h1 h2 h3 => ?_) (fun r u H locs hp hG => ?_)
  · obtain ⟨rfl, hno⟩ := hE
    refine vx_catch (own := RL) (name := "java/lang/IllegalArgumentException") hown [] (⟨0, 8, 11, 13⟩ : ExceptionTableEntry) [] (by rw [htb]; rfl) (fun z hz => nomatch hz) (by decide) (by decide) (hts (.classLink RL 13 "java/lang/IllegalArgumentException") (by decide +kernel)) (va_Nw.use rfl (hG.2.2.2.2.1.1 (.castable "java/lang/IllegalArgumentException" "java/lang/IllegalArgumentException") (by decide +kernel))) h1 h2 h3 ?_
    refine lv_astore_n (lv' := [(3, .ref q9), (0, .ref (h 0)), (1, .int x), (2, .ref o)]) hx hb dL_spread_11 rfl hl (by decide) rfl (fun ls hl => ?_)
    refine lv_iconst (v := 1) hx hb dL_spread_12 (by decide) ?_
    exact hRet 1 (.inr ()) _ _ _ _ _ _ (show xk1 1 (inR 0 x 1) from ⟨rfl, hno⟩) hG (Nat.le_of_ble_eq_true rfl) (Nat.le_of_ble_eq_true rfl) dL_spread_13
  · refine q_last hM hG 0 (i := 0) rfl (by decide) (by decide) (ws1 := oNet g o (vp_updL f 0 r) ++ (fun (_ : Unit) => (cNet g h N tk dom gr va dr off rt cnt lk dl td K E ds)) u) rfl dL_spread_7 (fun H locs hG => ?_)
    refine lv_goto (tgt := 14) hx hb dL_spread_8 (by decide) ?_
    refine lv_iconst (v := 0) hx hb dL_spread_14 (by decide) ?_
    exact hRet 0 (.inl (u, vp_updL f 0 r)) _ _ _ _ _ _ (show (0 : Int32) = 0 ∧ ∃ r9, (fun (r : Int64) (_ : Unit) => inR 0 x 1 ∧ (N = 0 → r = 0)) r9 u ∧ (vp_updL f 0 r) 0 = r9 from ⟨rfl, r, hp, pk_uLs⟩) hG (Nat.le_of_ble_eq_true rfl) (Nat.le_of_ble_eq_true rfl) dL_spread_15

set_option maxHeartbeats 4000000 in
set_option maxRecDepth 100000 in
theorem w_best (l : Launch) (hl0 : l.stackTraces = false) (g : EN) (h : Nat → Nat) (o : Nat) (f : Nat → Int64) (N : Nat) (tk : Int32) (dom : Nat → Int32) (gr : Nat → Int32) (va : Nat → Int32) (dr : Nat → Int32) (off : Nat → Int64) (rt : Nat → Int64) (cnt : Int32) (lk : Nat → Int32) (dl : Nat → Int32) (td : Nat → Int32) (K : KT) (E : KT) (ds : Nat → Int32) (x : Int32) (hN : N ≤ 10) : Xi l yL_best wsL_best ({ frames := 8, cells := 1, slots := 6, locals := 124 }) g [.ref (h 0), .int x, .ref o] (oNet g o f ++ (cNet g h N tk dom gr va dr off rt cnt lk dl td K E ds)) (fun _ => False) (fun (k : Int32) (v : ((Unit) × (Nat → Int64)) ⊕ Unit) => sE (fun w => k = 0 ∧ ∃ r, (fun (r : Int32) (_ : Unit) => ∃ i, i < N ∧ x = nI i ∧ r = K.1 i) r w.1 ∧ w.2 0 = r.toInt64) (fun _ => xk1 k (okN N x)) v) (fun v => sE (fun w => oNet g o w.2 ++ (fun (_ : Unit) => (cNet g h N tk dom gr va dr off rt cnt lk dl td K E ds)) w.1) (fun _ => oNet g o f ++ (cNet g h N tk dom gr va dr off rt cnt lk dl td K E ds)) v) := by
  refine XiH.of (cc := cL_best) (maxL := 4) (hh := [(0, 9, 12, 21)]) (by decide) rfl (Nat.le_of_ble_eq_true rfl) ?_
  intro p e s m args below meth c A Q ls hM hG htb hRet hl
  have hx := hM.1
  have hb := hM.2.1
  have hown := hM.2.2.2.1
  have hts := hM.2.2.2.2
  have hl : lv_has ls 4 [(0, .ref (h 0)), (1, .int x), (2, .ref o)] := hl
  refine lv_aload_n hx hb dL_best_0 rfl (lv_at hl 2 rfl) ?_
  refine lv_iconst (v := 0) hx hb dL_best_1 (by decide) ?_
  refine lv_aload_n hx hb dL_best_2 rfl (lv_at hl 0 rfl) ?_
  refine lv_iload_n hx hb dL_best_3 rfl (lv_at hl 1 rfl) ?_
  refine q_xcallMi (n := 1) (As := [.int x]) (rest := [.int 0, .ref o]) (wc := (cNet g h N tk dom gr va dr off rt cnt lk dl td K E ds)) (wr := oNet g o f) hM hl.1 hG (c_X2_best l hl0 g h N tk dom gr va dr off rt cnt lk dl td K E ds x hN) rfl gL_best_X2_best (by decide +kernel) ⟨Nat.le_of_ble_eq_true rfl, Nat.le_of_ble_eq_true rfl⟩ 0 rfl rfl rfl rfl rfl (Nat.le_of_ble_eq_true rfl) dL_best_4 (c1 := 1) (s1 := 6) rfl rfl ⟨Nat.le_of_ble_eq_true rfl, Nat.le_of_ble_eq_true rfl⟩ (fun E ce q9 H locs hE hG h1 h2 h3 => ?_) (fun r u H locs hp hG => ?_)
  · obtain ⟨rfl, hno⟩ := hE
    refine vx_catch (own := RL) (name := "java/lang/IndexOutOfBoundsException") hown [] (⟨0, 9, 12, 21⟩ : ExceptionTableEntry) [] (by rw [htb]; rfl) (fun z hz => nomatch hz) (by decide) (by decide) (hts (.classLink RL 21 "java/lang/IndexOutOfBoundsException") (by decide +kernel)) (va_Nw.use rfl (hG.2.2.2.2.1.1 (.castable "java/lang/IndexOutOfBoundsException" "java/lang/IndexOutOfBoundsException") (by decide +kernel))) h1 h2 h3 ?_
    refine lv_astore_n (lv' := [(3, .ref q9), (0, .ref (h 0)), (1, .int x), (2, .ref o)]) hx hb dL_best_12 rfl hl (by decide) rfl (fun ls hl => ?_)
    refine lv_iconst (v := 1) hx hb dL_best_13 (by decide) ?_
    exact hRet 1 (.inr ()) _ _ _ _ _ _ (show xk1 1 (okN N x) from ⟨rfl, hno⟩) hG (Nat.le_of_ble_eq_true rfl) (Nat.le_of_ble_eq_true rfl) dL_best_14
  · refine lv_i2l hx hb dL_best_7 rfl ?_
    refine q_last hM hG 0 (i := 0) rfl (by decide) (by decide) (ws1 := oNet g o (vp_updL f 0 r.toInt64) ++ (fun (_ : Unit) => (cNet g h N tk dom gr va dr off rt cnt lk dl td K E ds)) u) rfl dL_best_8 (fun H locs hG => ?_)
    refine lv_goto (tgt := 15) hx hb dL_best_9 (by decide) ?_
    refine lv_iconst (v := 0) hx hb dL_best_15 (by decide) ?_
    exact hRet 0 (.inl (u, vp_updL f 0 r.toInt64)) _ _ _ _ _ _ (show (0 : Int32) = 0 ∧ ∃ r9, (fun (r : Int32) (_ : Unit) => ∃ i, i < N ∧ x = nI i ∧ r = K.1 i) r9 u ∧ (vp_updL f 0 r.toInt64) 0 = r9.toInt64 from ⟨rfl, r, hp, pk_uLs⟩) hG (Nat.le_of_ble_eq_true rfl) (Nat.le_of_ble_eq_true rfl) dL_best_16

set_option maxHeartbeats 4000000 in
set_option maxRecDepth 100000 in
theorem w_steps (l : Launch) (hl0 : l.stackTraces = false) (g : EN) (h : Nat → Nat) (o : Nat) (f : Nat → Int64) (N : Nat) (tk : Int32) (dom : Nat → Int32) (gr : Nat → Int32) (va : Nat → Int32) (dr : Nat → Int32) (off : Nat → Int64) (rt : Nat → Int64) (cnt : Int32) (lk : Nat → Int32) (dl : Nat → Int32) (td : Nat → Int32) (K : KT) (E : KT) (ds : Nat → Int32) (x : Int32) (hN : N ≤ 10) : Xi l yL_steps wsL_steps ({ frames := 8, cells := 1, slots := 6, locals := 124 }) g [.ref (h 0), .int x, .ref o] (oNet g o f ++ (cNet g h N tk dom gr va dr off rt cnt lk dl td K E ds)) (fun _ => False) (fun (k : Int32) (v : ((Unit) × (Nat → Int64)) ⊕ Unit) => sE (fun w => k = 0 ∧ ∃ r, (fun (r : Int32) (_ : Unit) => ∃ i, i < N ∧ x = nI i ∧ r = K.2.2.1 i) r w.1 ∧ w.2 0 = r.toInt64) (fun _ => xk1 k (okN N x)) v) (fun v => sE (fun w => oNet g o w.2 ++ (fun (_ : Unit) => (cNet g h N tk dom gr va dr off rt cnt lk dl td K E ds)) w.1) (fun _ => oNet g o f ++ (cNet g h N tk dom gr va dr off rt cnt lk dl td K E ds)) v) := by
  refine XiH.of (cc := cL_steps) (maxL := 4) (hh := [(0, 9, 12, 21)]) (by decide) rfl (Nat.le_of_ble_eq_true rfl) ?_
  intro p e s m args below meth c A Q ls hM hG htb hRet hl
  have hx := hM.1
  have hb := hM.2.1
  have hown := hM.2.2.2.1
  have hts := hM.2.2.2.2
  have hl : lv_has ls 4 [(0, .ref (h 0)), (1, .int x), (2, .ref o)] := hl
  refine lv_aload_n hx hb dL_steps_0 rfl (lv_at hl 2 rfl) ?_
  refine lv_iconst (v := 0) hx hb dL_steps_1 (by decide) ?_
  refine lv_aload_n hx hb dL_steps_2 rfl (lv_at hl 0 rfl) ?_
  refine lv_iload_n hx hb dL_steps_3 rfl (lv_at hl 1 rfl) ?_
  refine q_xcallMi (n := 1) (As := [.int x]) (rest := [.int 0, .ref o]) (wc := (cNet g h N tk dom gr va dr off rt cnt lk dl td K E ds)) (wr := oNet g o f) hM hl.1 hG (c_X2_steps l hl0 g h N tk dom gr va dr off rt cnt lk dl td K E ds x hN) rfl gL_steps_X2_steps (by decide +kernel) ⟨Nat.le_of_ble_eq_true rfl, Nat.le_of_ble_eq_true rfl⟩ 0 rfl rfl rfl rfl rfl (Nat.le_of_ble_eq_true rfl) dL_steps_4 (c1 := 1) (s1 := 6) rfl rfl ⟨Nat.le_of_ble_eq_true rfl, Nat.le_of_ble_eq_true rfl⟩ (fun E ce q9 H locs hE hG h1 h2 h3 => ?_) (fun r u H locs hp hG => ?_)
  · obtain ⟨rfl, hno⟩ := hE
    refine vx_catch (own := RL) (name := "java/lang/IndexOutOfBoundsException") hown [] (⟨0, 9, 12, 21⟩ : ExceptionTableEntry) [] (by rw [htb]; rfl) (fun z hz => nomatch hz) (by decide) (by decide) (hts (.classLink RL 21 "java/lang/IndexOutOfBoundsException") (by decide +kernel)) (va_Nw.use rfl (hG.2.2.2.2.1.1 (.castable "java/lang/IndexOutOfBoundsException" "java/lang/IndexOutOfBoundsException") (by decide +kernel))) h1 h2 h3 ?_
    refine lv_astore_n (lv' := [(3, .ref q9), (0, .ref (h 0)), (1, .int x), (2, .ref o)]) hx hb dL_steps_12 rfl hl (by decide) rfl (fun ls hl => ?_)
    refine lv_iconst (v := 1) hx hb dL_steps_13 (by decide) ?_
    exact hRet 1 (.inr ()) _ _ _ _ _ _ (show xk1 1 (okN N x) from ⟨rfl, hno⟩) hG (Nat.le_of_ble_eq_true rfl) (Nat.le_of_ble_eq_true rfl) dL_steps_14
  · refine lv_i2l hx hb dL_steps_7 rfl ?_
    refine q_last hM hG 0 (i := 0) rfl (by decide) (by decide) (ws1 := oNet g o (vp_updL f 0 r.toInt64) ++ (fun (_ : Unit) => (cNet g h N tk dom gr va dr off rt cnt lk dl td K E ds)) u) rfl dL_steps_8 (fun H locs hG => ?_)
    refine lv_goto (tgt := 15) hx hb dL_steps_9 (by decide) ?_
    refine lv_iconst (v := 0) hx hb dL_steps_15 (by decide) ?_
    exact hRet 0 (.inl (u, vp_updL f 0 r.toInt64)) _ _ _ _ _ _ (show (0 : Int32) = 0 ∧ ∃ r9, (fun (r : Int32) (_ : Unit) => ∃ i, i < N ∧ x = nI i ∧ r = K.2.2.1 i) r9 u ∧ (vp_updL f 0 r.toInt64) 0 = r9.toInt64 from ⟨rfl, r, hp, pk_uLs⟩) hG (Nat.le_of_ble_eq_true rfl) (Nat.le_of_ble_eq_true rfl) dL_steps_16

set_option maxHeartbeats 4000000 in
set_option maxRecDepth 100000 in
theorem w_parent (l : Launch) (hl0 : l.stackTraces = false) (g : EN) (h : Nat → Nat) (o : Nat) (f : Nat → Int64) (N : Nat) (tk : Int32) (dom : Nat → Int32) (gr : Nat → Int32) (va : Nat → Int32) (dr : Nat → Int32) (off : Nat → Int64) (rt : Nat → Int64) (cnt : Int32) (lk : Nat → Int32) (dl : Nat → Int32) (td : Nat → Int32) (K : KT) (E : KT) (ds : Nat → Int32) (x : Int32) (hN : N ≤ 10) : Xi l yL_parent wsL_parent ({ frames := 8, cells := 1, slots := 6, locals := 124 }) g [.ref (h 0), .int x, .ref o] (oNet g o f ++ (cNet g h N tk dom gr va dr off rt cnt lk dl td K E ds)) (fun _ => False) (fun (k : Int32) (v : ((Unit) × (Nat → Int64)) ⊕ Unit) => sE (fun w => k = 0 ∧ ∃ r, (fun (r : Int32) (_ : Unit) => ∃ i, i < N ∧ x = nI i ∧ r = K.2.2.2 i) r w.1 ∧ w.2 0 = r.toInt64) (fun _ => xk1 k (okN N x)) v) (fun v => sE (fun w => oNet g o w.2 ++ (fun (_ : Unit) => (cNet g h N tk dom gr va dr off rt cnt lk dl td K E ds)) w.1) (fun _ => oNet g o f ++ (cNet g h N tk dom gr va dr off rt cnt lk dl td K E ds)) v) := by
  refine XiH.of (cc := cL_parent) (maxL := 4) (hh := [(0, 9, 12, 21)]) (by decide) rfl (Nat.le_of_ble_eq_true rfl) ?_
  intro p e s m args below meth c A Q ls hM hG htb hRet hl
  have hx := hM.1
  have hb := hM.2.1
  have hown := hM.2.2.2.1
  have hts := hM.2.2.2.2
  have hl : lv_has ls 4 [(0, .ref (h 0)), (1, .int x), (2, .ref o)] := hl
  refine lv_aload_n hx hb dL_parent_0 rfl (lv_at hl 2 rfl) ?_
  refine lv_iconst (v := 0) hx hb dL_parent_1 (by decide) ?_
  refine lv_aload_n hx hb dL_parent_2 rfl (lv_at hl 0 rfl) ?_
  refine lv_iload_n hx hb dL_parent_3 rfl (lv_at hl 1 rfl) ?_
  refine q_xcallMi (n := 1) (As := [.int x]) (rest := [.int 0, .ref o]) (wc := (cNet g h N tk dom gr va dr off rt cnt lk dl td K E ds)) (wr := oNet g o f) hM hl.1 hG (c_X2_parent l hl0 g h N tk dom gr va dr off rt cnt lk dl td K E ds x hN) rfl gL_parent_X2_parent (by decide +kernel) ⟨Nat.le_of_ble_eq_true rfl, Nat.le_of_ble_eq_true rfl⟩ 0 rfl rfl rfl rfl rfl (Nat.le_of_ble_eq_true rfl) dL_parent_4 (c1 := 1) (s1 := 6) rfl rfl ⟨Nat.le_of_ble_eq_true rfl, Nat.le_of_ble_eq_true rfl⟩ (fun E ce q9 H locs hE hG h1 h2 h3 => ?_) (fun r u H locs hp hG => ?_)
  · obtain ⟨rfl, hno⟩ := hE
    refine vx_catch (own := RL) (name := "java/lang/IndexOutOfBoundsException") hown [] (⟨0, 9, 12, 21⟩ : ExceptionTableEntry) [] (by rw [htb]; rfl) (fun z hz => nomatch hz) (by decide) (by decide) (hts (.classLink RL 21 "java/lang/IndexOutOfBoundsException") (by decide +kernel)) (va_Nw.use rfl (hG.2.2.2.2.1.1 (.castable "java/lang/IndexOutOfBoundsException" "java/lang/IndexOutOfBoundsException") (by decide +kernel))) h1 h2 h3 ?_
    refine lv_astore_n (lv' := [(3, .ref q9), (0, .ref (h 0)), (1, .int x), (2, .ref o)]) hx hb dL_parent_12 rfl hl (by decide) rfl (fun ls hl => ?_)
    refine lv_iconst (v := 1) hx hb dL_parent_13 (by decide) ?_
    exact hRet 1 (.inr ()) _ _ _ _ _ _ (show xk1 1 (okN N x) from ⟨rfl, hno⟩) hG (Nat.le_of_ble_eq_true rfl) (Nat.le_of_ble_eq_true rfl) dL_parent_14
  · refine lv_i2l hx hb dL_parent_7 rfl ?_
    refine q_last hM hG 0 (i := 0) rfl (by decide) (by decide) (ws1 := oNet g o (vp_updL f 0 r.toInt64) ++ (fun (_ : Unit) => (cNet g h N tk dom gr va dr off rt cnt lk dl td K E ds)) u) rfl dL_parent_8 (fun H locs hG => ?_)
    refine lv_goto (tgt := 15) hx hb dL_parent_9 (by decide) ?_
    refine lv_iconst (v := 0) hx hb dL_parent_15 (by decide) ?_
    exact hRet 0 (.inl (u, vp_updL f 0 r.toInt64)) _ _ _ _ _ _ (show (0 : Int32) = 0 ∧ ∃ r9, (fun (r : Int32) (_ : Unit) => ∃ i, i < N ∧ x = nI i ∧ r = K.2.2.2 i) r9 u ∧ (vp_updL f 0 r.toInt64) 0 = r9.toInt64 from ⟨rfl, r, hp, pk_uLs⟩) hG (Nat.le_of_ble_eq_true rfl) (Nat.le_of_ble_eq_true rfl) dL_parent_16

set_option maxHeartbeats 4000000 in
set_option maxRecDepth 100000 in
theorem w_bestByGraph (l : Launch) (hl0 : l.stackTraces = false) (g : EN) (h : Nat → Nat) (o : Nat) (f : Nat → Int64) (N : Nat) (tk : Int32) (dom : Nat → Int32) (gr : Nat → Int32) (va : Nat → Int32) (dr : Nat → Int32) (off : Nat → Int64) (rt : Nat → Int64) (cnt : Int32) (lk : Nat → Int32) (dl : Nat → Int32) (td : Nat → Int32) (K : KT) (E : KT) (ds : Nat → Int32) (x : Int32) (hN : N ≤ 10) (hlk : b01 lk) (hg : rng gr va) : Xi l yL_bestByGraph wsL_bestByGraph ({ frames := 8, cells := 1, slots := 6, locals := 132 }) g [.ref (h 0), .int x, .ref o] (oNet g o f ++ (cNet g h N tk dom gr va dr off rt cnt lk dl td K E ds)) (fun _ => False) (fun (k : Int32) (v : ((Nat → Int32) × (Nat → Int64)) ⊕ Unit) => sE (fun w => k = 0 ∧ ∃ r, (fun (r : Int32) (_ : Nat → Int32) => ∃ i, i < N ∧ x = nI i ∧ ∃ w d, bestBy N dom lk gr va i w d ∧ r = nI w) r w.1 ∧ w.2 0 = r.toInt64) (fun _ => xk1 k (okN N x)) v) (fun v => sE (fun w => oNet g o w.2 ++ (fun (u : Nat → Int32) => (cNet g h N tk dom gr va dr off rt cnt lk dl td K E u)) w.1) (fun _ => oNet g o f ++ (cNet g h N tk dom gr va dr off rt cnt lk dl td K E ds)) v) := by
  refine XiH.of (cc := cL_bestByGraph) (maxL := 4) (hh := [(0, 9, 12, 21)]) (by decide) rfl (Nat.le_of_ble_eq_true rfl) ?_
  intro p e s m args below meth c A Q ls hM hG htb hRet hl
  have hx := hM.1
  have hb := hM.2.1
  have hown := hM.2.2.2.1
  have hts := hM.2.2.2.2
  have hl : lv_has ls 4 [(0, .ref (h 0)), (1, .int x), (2, .ref o)] := hl
  refine lv_aload_n hx hb dL_bestByGraph_0 rfl (lv_at hl 2 rfl) ?_
  refine lv_iconst (v := 0) hx hb dL_bestByGraph_1 (by decide) ?_
  refine lv_aload_n hx hb dL_bestByGraph_2 rfl (lv_at hl 0 rfl) ?_
  refine lv_iload_n hx hb dL_bestByGraph_3 rfl (lv_at hl 1 rfl) ?_
  refine q_xcallMi (n := 1) (As := [.int x]) (rest := [.int 0, .ref o]) (wc := (cNet g h N tk dom gr va dr off rt cnt lk dl td K E ds)) (wr := oNet g o f) hM hl.1 hG (c_X2_bestByGraph l hl0 g h N tk dom gr va dr off rt cnt lk dl td K E ds x hN hlk hg) rfl gL_bestByGraph_X2_bestByGraph (by decide +kernel) ⟨Nat.le_of_ble_eq_true rfl, Nat.le_of_ble_eq_true rfl⟩ 0 rfl rfl rfl rfl rfl (Nat.le_of_ble_eq_true rfl) dL_bestByGraph_4 (c1 := 1) (s1 := 6) rfl rfl ⟨Nat.le_of_ble_eq_true rfl, Nat.le_of_ble_eq_true rfl⟩ (fun E ce q9 H locs hE hG h1 h2 h3 => ?_) (fun r u H locs hp hG => ?_)
  · obtain ⟨rfl, hno⟩ := hE
    refine vx_catch (own := RL) (name := "java/lang/IndexOutOfBoundsException") hown [] (⟨0, 9, 12, 21⟩ : ExceptionTableEntry) [] (by rw [htb]; rfl) (fun z hz => nomatch hz) (by decide) (by decide) (hts (.classLink RL 21 "java/lang/IndexOutOfBoundsException") (by decide +kernel)) (va_Nw.use rfl (hG.2.2.2.2.1.1 (.castable "java/lang/IndexOutOfBoundsException" "java/lang/IndexOutOfBoundsException") (by decide +kernel))) h1 h2 h3 ?_
    refine lv_astore_n (lv' := [(3, .ref q9), (0, .ref (h 0)), (1, .int x), (2, .ref o)]) hx hb dL_bestByGraph_12 rfl hl (by decide) rfl (fun ls hl => ?_)
    refine lv_iconst (v := 1) hx hb dL_bestByGraph_13 (by decide) ?_
    exact hRet 1 (.inr ()) _ _ _ _ _ _ (show xk1 1 (okN N x) from ⟨rfl, hno⟩) hG (Nat.le_of_ble_eq_true rfl) (Nat.le_of_ble_eq_true rfl) dL_bestByGraph_14
  · refine lv_i2l hx hb dL_bestByGraph_7 rfl ?_
    refine q_last hM hG 0 (i := 0) rfl (by decide) (by decide) (ws1 := oNet g o (vp_updL f 0 r.toInt64) ++ (fun (u : Nat → Int32) => (cNet g h N tk dom gr va dr off rt cnt lk dl td K E u)) u) rfl dL_bestByGraph_8 (fun H locs hG => ?_)
    refine lv_goto (tgt := 15) hx hb dL_bestByGraph_9 (by decide) ?_
    refine lv_iconst (v := 0) hx hb dL_bestByGraph_15 (by decide) ?_
    exact hRet 0 (.inl (u, vp_updL f 0 r.toInt64)) _ _ _ _ _ _ (show (0 : Int32) = 0 ∧ ∃ r9, (fun (r : Int32) (_ : Nat → Int32) => ∃ i, i < N ∧ x = nI i ∧ ∃ w d, bestBy N dom lk gr va i w d ∧ r = nI w) r9 u ∧ (vp_updL f 0 r.toInt64) 0 = r9.toInt64 from ⟨rfl, r, hp, pk_uLs⟩) hG (Nat.le_of_ble_eq_true rfl) (Nat.le_of_ble_eq_true rfl) dL_bestByGraph_16

set_option maxHeartbeats 4000000 in
set_option maxRecDepth 100000 in
theorem w_stepsByGraph (l : Launch) (hl0 : l.stackTraces = false) (g : EN) (h : Nat → Nat) (o : Nat) (f : Nat → Int64) (N : Nat) (tk : Int32) (dom : Nat → Int32) (gr : Nat → Int32) (va : Nat → Int32) (dr : Nat → Int32) (off : Nat → Int64) (rt : Nat → Int64) (cnt : Int32) (lk : Nat → Int32) (dl : Nat → Int32) (td : Nat → Int32) (K : KT) (E : KT) (ds : Nat → Int32) (x : Int32) (hN : N ≤ 10) (hlk : b01 lk) (hg : rng gr va) : Xi l yL_stepsByGraph wsL_stepsByGraph ({ frames := 8, cells := 1, slots := 6, locals := 132 }) g [.ref (h 0), .int x, .ref o] (oNet g o f ++ (cNet g h N tk dom gr va dr off rt cnt lk dl td K E ds)) (fun _ => False) (fun (k : Int32) (v : ((Nat → Int32) × (Nat → Int64)) ⊕ Unit) => sE (fun w => k = 0 ∧ ∃ r, (fun (r : Int32) (_ : Nat → Int32) => ∃ i, i < N ∧ x = nI i ∧ ∃ w d, bestBy N dom lk gr va i w d ∧ r = d) r w.1 ∧ w.2 0 = r.toInt64) (fun _ => xk1 k (okN N x)) v) (fun v => sE (fun w => oNet g o w.2 ++ (fun (u : Nat → Int32) => (cNet g h N tk dom gr va dr off rt cnt lk dl td K E u)) w.1) (fun _ => oNet g o f ++ (cNet g h N tk dom gr va dr off rt cnt lk dl td K E ds)) v) := by
  refine XiH.of (cc := cL_stepsByGraph) (maxL := 4) (hh := [(0, 9, 12, 21)]) (by decide) rfl (Nat.le_of_ble_eq_true rfl) ?_
  intro p e s m args below meth c A Q ls hM hG htb hRet hl
  have hx := hM.1
  have hb := hM.2.1
  have hown := hM.2.2.2.1
  have hts := hM.2.2.2.2
  have hl : lv_has ls 4 [(0, .ref (h 0)), (1, .int x), (2, .ref o)] := hl
  refine lv_aload_n hx hb dL_stepsByGraph_0 rfl (lv_at hl 2 rfl) ?_
  refine lv_iconst (v := 0) hx hb dL_stepsByGraph_1 (by decide) ?_
  refine lv_aload_n hx hb dL_stepsByGraph_2 rfl (lv_at hl 0 rfl) ?_
  refine lv_iload_n hx hb dL_stepsByGraph_3 rfl (lv_at hl 1 rfl) ?_
  refine q_xcallMi (n := 1) (As := [.int x]) (rest := [.int 0, .ref o]) (wc := (cNet g h N tk dom gr va dr off rt cnt lk dl td K E ds)) (wr := oNet g o f) hM hl.1 hG (c_X2_stepsByGraph l hl0 g h N tk dom gr va dr off rt cnt lk dl td K E ds x hN hlk hg) rfl gL_stepsByGraph_X2_stepsByGraph (by decide +kernel) ⟨Nat.le_of_ble_eq_true rfl, Nat.le_of_ble_eq_true rfl⟩ 0 rfl rfl rfl rfl rfl (Nat.le_of_ble_eq_true rfl) dL_stepsByGraph_4 (c1 := 1) (s1 := 6) rfl rfl ⟨Nat.le_of_ble_eq_true rfl, Nat.le_of_ble_eq_true rfl⟩ (fun E ce q9 H locs hE hG h1 h2 h3 => ?_) (fun r u H locs hp hG => ?_)
  · obtain ⟨rfl, hno⟩ := hE
    refine vx_catch (own := RL) (name := "java/lang/IndexOutOfBoundsException") hown [] (⟨0, 9, 12, 21⟩ : ExceptionTableEntry) [] (by rw [htb]; rfl) (fun z hz => nomatch hz) (by decide) (by decide) (hts (.classLink RL 21 "java/lang/IndexOutOfBoundsException") (by decide +kernel)) (va_Nw.use rfl (hG.2.2.2.2.1.1 (.castable "java/lang/IndexOutOfBoundsException" "java/lang/IndexOutOfBoundsException") (by decide +kernel))) h1 h2 h3 ?_
    refine lv_astore_n (lv' := [(3, .ref q9), (0, .ref (h 0)), (1, .int x), (2, .ref o)]) hx hb dL_stepsByGraph_12 rfl hl (by decide) rfl (fun ls hl => ?_)
    refine lv_iconst (v := 1) hx hb dL_stepsByGraph_13 (by decide) ?_
    exact hRet 1 (.inr ()) _ _ _ _ _ _ (show xk1 1 (okN N x) from ⟨rfl, hno⟩) hG (Nat.le_of_ble_eq_true rfl) (Nat.le_of_ble_eq_true rfl) dL_stepsByGraph_14
  · refine lv_i2l hx hb dL_stepsByGraph_7 rfl ?_
    refine q_last hM hG 0 (i := 0) rfl (by decide) (by decide) (ws1 := oNet g o (vp_updL f 0 r.toInt64) ++ (fun (u : Nat → Int32) => (cNet g h N tk dom gr va dr off rt cnt lk dl td K E u)) u) rfl dL_stepsByGraph_8 (fun H locs hG => ?_)
    refine lv_goto (tgt := 15) hx hb dL_stepsByGraph_9 (by decide) ?_
    refine lv_iconst (v := 0) hx hb dL_stepsByGraph_15 (by decide) ?_
    exact hRet 0 (.inl (u, vp_updL f 0 r.toInt64)) _ _ _ _ _ _ (show (0 : Int32) = 0 ∧ ∃ r9, (fun (r : Int32) (_ : Nat → Int32) => ∃ i, i < N ∧ x = nI i ∧ ∃ w d, bestBy N dom lk gr va i w d ∧ r = d) r9 u ∧ (vp_updL f 0 r.toInt64) 0 = r9.toInt64 from ⟨rfl, r, hp, pk_uLs⟩) hG (Nat.le_of_ble_eq_true rfl) (Nat.le_of_ble_eq_true rfl) dL_stepsByGraph_16

set_option maxHeartbeats 4000000 in
set_option maxRecDepth 100000 in
theorem w_offset (l : Launch) (hl0 : l.stackTraces = false) (g : EN) (h : Nat → Nat) (o : Nat) (f : Nat → Int64) (N : Nat) (tk : Int32) (dom : Nat → Int32) (gr : Nat → Int32) (va : Nat → Int32) (dr : Nat → Int32) (off : Nat → Int64) (rt : Nat → Int64) (cnt : Int32) (lk : Nat → Int32) (dl : Nat → Int32) (td : Nat → Int32) (K : KT) (E : KT) (ds : Nat → Int32) (x : Int32) (hN : N ≤ 10) : Xi l yL_offset wsL_offset ({ frames := 8, cells := 1, slots := 6, locals := 124 }) g [.ref (h 0), .int x, .ref o] (oNet g o f ++ (cNet g h N tk dom gr va dr off rt cnt lk dl td K E ds)) (fun _ => False) (fun (k : Int32) (v : ((Unit) × (Nat → Int64)) ⊕ Unit) => sE (fun w => k = 0 ∧ ∃ r, (fun (r : Int64) (_ : Unit) => ∃ i, i < N ∧ x = nI i ∧ r = off i) r w.1 ∧ w.2 0 = r) (fun _ => xk1 k (okN N x)) v) (fun v => sE (fun w => oNet g o w.2 ++ (fun (_ : Unit) => (cNet g h N tk dom gr va dr off rt cnt lk dl td K E ds)) w.1) (fun _ => oNet g o f ++ (cNet g h N tk dom gr va dr off rt cnt lk dl td K E ds)) v) := by
  refine XiH.of (cc := cL_offset) (maxL := 4) (hh := [(0, 8, 11, 21)]) (by decide) rfl (Nat.le_of_ble_eq_true rfl) ?_
  intro p e s m args below meth c A Q ls hM hG htb hRet hl
  have hx := hM.1
  have hb := hM.2.1
  have hown := hM.2.2.2.1
  have hts := hM.2.2.2.2
  have hl : lv_has ls 4 [(0, .ref (h 0)), (1, .int x), (2, .ref o)] := hl
  refine lv_aload_n hx hb dL_offset_0 rfl (lv_at hl 2 rfl) ?_
  refine lv_iconst (v := 0) hx hb dL_offset_1 (by decide) ?_
  refine lv_aload_n hx hb dL_offset_2 rfl (lv_at hl 0 rfl) ?_
  refine lv_iload_n hx hb dL_offset_3 rfl (lv_at hl 1 rfl) ?_
  refine q_xcallMl (n := 1) (As := [.int x]) (rest := [.int 0, .ref o]) (wc := (cNet g h N tk dom gr va dr off rt cnt lk dl td K E ds)) (wr := oNet g o f) hM hl.1 hG (c_X2_offset l hl0 g h N tk dom gr va dr off rt cnt lk dl td K E ds x hN) rfl gL_offset_X2_offset (by decide +kernel) ⟨Nat.le_of_ble_eq_true rfl, Nat.le_of_ble_eq_true rfl⟩ 0 rfl rfl rfl rfl rfl (Nat.le_of_ble_eq_true rfl) dL_offset_4 (c1 := 1) (s1 := 6) rfl rfl ⟨Nat.le_of_ble_eq_true rfl, Nat.le_of_ble_eq_true rfl⟩ (fun E ce q9 H locs hE hG h1 h2 h3 => ?_) (fun r u H locs hp hG => ?_)
  · obtain ⟨rfl, hno⟩ := hE
    refine vx_catch (own := RL) (name := "java/lang/IndexOutOfBoundsException") hown [] (⟨0, 8, 11, 21⟩ : ExceptionTableEntry) [] (by rw [htb]; rfl) (fun z hz => nomatch hz) (by decide) (by decide) (hts (.classLink RL 21 "java/lang/IndexOutOfBoundsException") (by decide +kernel)) (va_Nw.use rfl (hG.2.2.2.2.1.1 (.castable "java/lang/IndexOutOfBoundsException" "java/lang/IndexOutOfBoundsException") (by decide +kernel))) h1 h2 h3 ?_
    refine lv_astore_n (lv' := [(3, .ref q9), (0, .ref (h 0)), (1, .int x), (2, .ref o)]) hx hb dL_offset_11 rfl hl (by decide) rfl (fun ls hl => ?_)
    refine lv_iconst (v := 1) hx hb dL_offset_12 (by decide) ?_
    exact hRet 1 (.inr ()) _ _ _ _ _ _ (show xk1 1 (okN N x) from ⟨rfl, hno⟩) hG (Nat.le_of_ble_eq_true rfl) (Nat.le_of_ble_eq_true rfl) dL_offset_13
  · refine q_last hM hG 0 (i := 0) rfl (by decide) (by decide) (ws1 := oNet g o (vp_updL f 0 r) ++ (fun (_ : Unit) => (cNet g h N tk dom gr va dr off rt cnt lk dl td K E ds)) u) rfl dL_offset_7 (fun H locs hG => ?_)
    refine lv_goto (tgt := 14) hx hb dL_offset_8 (by decide) ?_
    refine lv_iconst (v := 0) hx hb dL_offset_14 (by decide) ?_
    exact hRet 0 (.inl (u, vp_updL f 0 r)) _ _ _ _ _ _ (show (0 : Int32) = 0 ∧ ∃ r9, (fun (r : Int64) (_ : Unit) => ∃ i, i < N ∧ x = nI i ∧ r = off i) r9 u ∧ (vp_updL f 0 r) 0 = r9 from ⟨rfl, r, hp, pk_uLs⟩) hG (Nat.le_of_ble_eq_true rfl) (Nat.le_of_ble_eq_true rfl) dL_offset_15

set_option maxHeartbeats 4000000 in
set_option maxRecDepth 100000 in
theorem w_rate (l : Launch) (hl0 : l.stackTraces = false) (g : EN) (h : Nat → Nat) (o : Nat) (f : Nat → Int64) (N : Nat) (tk : Int32) (dom : Nat → Int32) (gr : Nat → Int32) (va : Nat → Int32) (dr : Nat → Int32) (off : Nat → Int64) (rt : Nat → Int64) (cnt : Int32) (lk : Nat → Int32) (dl : Nat → Int32) (td : Nat → Int32) (K : KT) (E : KT) (ds : Nat → Int32) (x : Int32) (hN : N ≤ 10) : Xi l yL_rate wsL_rate ({ frames := 8, cells := 1, slots := 6, locals := 124 }) g [.ref (h 0), .int x, .ref o] (oNet g o f ++ (cNet g h N tk dom gr va dr off rt cnt lk dl td K E ds)) (fun _ => False) (fun (k : Int32) (v : ((Unit) × (Nat → Int64)) ⊕ Unit) => sE (fun w => k = 0 ∧ ∃ r, (fun (r : Int64) (_ : Unit) => ∃ i, i < N ∧ x = nI i ∧ r = rt i) r w.1 ∧ w.2 0 = r) (fun _ => xk1 k (okN N x)) v) (fun v => sE (fun w => oNet g o w.2 ++ (fun (_ : Unit) => (cNet g h N tk dom gr va dr off rt cnt lk dl td K E ds)) w.1) (fun _ => oNet g o f ++ (cNet g h N tk dom gr va dr off rt cnt lk dl td K E ds)) v) := by
  refine XiH.of (cc := cL_rate) (maxL := 4) (hh := [(0, 8, 11, 21)]) (by decide) rfl (Nat.le_of_ble_eq_true rfl) ?_
  intro p e s m args below meth c A Q ls hM hG htb hRet hl
  have hx := hM.1
  have hb := hM.2.1
  have hown := hM.2.2.2.1
  have hts := hM.2.2.2.2
  have hl : lv_has ls 4 [(0, .ref (h 0)), (1, .int x), (2, .ref o)] := hl
  refine lv_aload_n hx hb dL_rate_0 rfl (lv_at hl 2 rfl) ?_
  refine lv_iconst (v := 0) hx hb dL_rate_1 (by decide) ?_
  refine lv_aload_n hx hb dL_rate_2 rfl (lv_at hl 0 rfl) ?_
  refine lv_iload_n hx hb dL_rate_3 rfl (lv_at hl 1 rfl) ?_
  refine q_xcallMl (n := 1) (As := [.int x]) (rest := [.int 0, .ref o]) (wc := (cNet g h N tk dom gr va dr off rt cnt lk dl td K E ds)) (wr := oNet g o f) hM hl.1 hG (c_X2_rate l hl0 g h N tk dom gr va dr off rt cnt lk dl td K E ds x hN) rfl gL_rate_X2_rate (by decide +kernel) ⟨Nat.le_of_ble_eq_true rfl, Nat.le_of_ble_eq_true rfl⟩ 0 rfl rfl rfl rfl rfl (Nat.le_of_ble_eq_true rfl) dL_rate_4 (c1 := 1) (s1 := 6) rfl rfl ⟨Nat.le_of_ble_eq_true rfl, Nat.le_of_ble_eq_true rfl⟩ (fun E ce q9 H locs hE hG h1 h2 h3 => ?_) (fun r u H locs hp hG => ?_)
  · obtain ⟨rfl, hno⟩ := hE
    refine vx_catch (own := RL) (name := "java/lang/IndexOutOfBoundsException") hown [] (⟨0, 8, 11, 21⟩ : ExceptionTableEntry) [] (by rw [htb]; rfl) (fun z hz => nomatch hz) (by decide) (by decide) (hts (.classLink RL 21 "java/lang/IndexOutOfBoundsException") (by decide +kernel)) (va_Nw.use rfl (hG.2.2.2.2.1.1 (.castable "java/lang/IndexOutOfBoundsException" "java/lang/IndexOutOfBoundsException") (by decide +kernel))) h1 h2 h3 ?_
    refine lv_astore_n (lv' := [(3, .ref q9), (0, .ref (h 0)), (1, .int x), (2, .ref o)]) hx hb dL_rate_11 rfl hl (by decide) rfl (fun ls hl => ?_)
    refine lv_iconst (v := 1) hx hb dL_rate_12 (by decide) ?_
    exact hRet 1 (.inr ()) _ _ _ _ _ _ (show xk1 1 (okN N x) from ⟨rfl, hno⟩) hG (Nat.le_of_ble_eq_true rfl) (Nat.le_of_ble_eq_true rfl) dL_rate_13
  · refine q_last hM hG 0 (i := 0) rfl (by decide) (by decide) (ws1 := oNet g o (vp_updL f 0 r) ++ (fun (_ : Unit) => (cNet g h N tk dom gr va dr off rt cnt lk dl td K E ds)) u) rfl dL_rate_7 (fun H locs hG => ?_)
    refine lv_goto (tgt := 14) hx hb dL_rate_8 (by decide) ?_
    refine lv_iconst (v := 0) hx hb dL_rate_14 (by decide) ?_
    exact hRet 0 (.inl (u, vp_updL f 0 r)) _ _ _ _ _ _ (show (0 : Int32) = 0 ∧ ∃ r9, (fun (r : Int64) (_ : Unit) => ∃ i, i < N ∧ x = nI i ∧ r = rt i) r9 u ∧ (vp_updL f 0 r) 0 = r9 from ⟨rfl, r, hp, pk_uLs⟩) hG (Nat.le_of_ble_eq_true rfl) (Nat.le_of_ble_eq_true rfl) dL_rate_15
