/-- a parent is a neighbour -/
theorem klis_nb {dom lk : Nat → Int32} {r : Int32} {K E : KT} {i j : Nat} (hj : j < 10) : ∀ t, t ≤ 10 → (klis dom lk r K E i t).2.2.2 i = nI j → nb dom lk i j := by
  intro t
  induction t with
  | zero => exact fun _ h => absurd (h.symm.trans (kst_at (K := K) (i := i) (r := r)).2.2.2) (nI_ne_m1 (by omega))
  | succ t ih =>
    intro ht h
    by_cases c : klc dom lk E i t
    · rw [klis_t c] at h
      by_cases c2 : ktc (klis dom lk r K E i t) E i t
      · have e := (ktk_at c2).2.2.2.symm.trans h
        have e2 : t = j := (nI_eq (by omega) (by omega)).mp e
        exact e2 ▸ c.1
      · rw [ktk_no c2] at h
        exact ih (by omega) h
    · rw [klis_f c] at h
      exact ih (by omega) h
theorem par_ne {dom lk gr va : Nat → Int32} {N : Nat} {K : KT} {i q : Nat} (hself : ∀ i, i < 10 → ¬ lk (i * 10 + i) = 1) (hq : q < 10 ∧ N ≤ 10) (hi : i < N) (h : (kann dom lk gr va N K K N).2.2.2 i = nI q) : ¬ q = i := by
  intro e
  subst e
  have h1 := (selk_ext ((kann_in (dom := dom) (lk := lk) (gr := gr) (va := va) (N := N) (K := K) (E := K) N q).1 hi)).2.2.2
  have h2 := klis_nb hq.1 N hq.2 (h1.symm.trans h)
  exact hself q hq.1 h2.2
set_option maxHeartbeats 4000000 in
set_option maxRecDepth 100000 in
theorem c_L_ticks (l : Launch) (g : EN) (ka : Nat → Nat) (nn : Nat → Int32) (aa : Nat → Int32) (ll : Nat → Int32) (yy : Nat → Int64) (tt : Nat → Int32) (kk : Nat → Int64) (oo : Nat → Int64) (N : Nat) (dom gr va dr : Nat → Int32) (lk : Nat → Int32) (dl td : Nat → Int32) (off rt : Nat → Int64) (K : KT) (hn0 : nn 0 = nI N) (hN : N ≤ 10) (hA : LA N aa dom gr va dr) (hB : LB ll lk) (hg : rng gr va) (hself : ∀ i, i < 10 → ¬ lk (i * 10 + i) = 1) (hY : LY yy dl) (hT : LT tt td) (hK : LK N K kk) (hO : LO oo off rt) : Cv l yL_ticks wsL_ticks ({ frames := 2, cells := 1, slots := 10, locals := 47 }) g [.ref (ka 0), .ref (ka 1), .ref (ka 2), .ref (ka 3), .ref (ka 4), .ref (ka 5), .ref (ka 6)] (lNet g ka nn aa ll yy tt kk oo) (fun (u : (Nat → Int32) × (Nat → Int64) × (Nat → Int64)) => u.1 = upd nn 2 (nn 2 + 1) ∧ LK N (tk1 dom lk gr va dr dl td N ((off, rt), K)).2 u.2.1 ∧ LO u.2.2 (tk1 dom lk gr va dr dl td N ((off, rt), K)).1.1 (tk1 dom lk gr va dr dl td N ((off, rt), K)).1.2) (fun (u : (Nat → Int32) × (Nat → Int64) × (Nat → Int64)) => (lNet g ka u.1 aa ll yy tt u.2.1 u.2.2)) := by
  refine Cv.of (cc := cL_ticks) (maxL := 14) (by decide) rfl (Nat.le_of_ble_eq_true rfl) ?_
  intro p e s m args below meth c A Q ls hM hG hRet hl
  have hx := hM.1
  have hb := hM.2.1
  have hown := hM.2.2.2.1
  have hts := hM.2.2.2.2
  have hl : lv_has ls 14 [(0, .ref (ka 0)), (1, .ref (ka 1)), (2, .ref (ka 2)), (3, .ref (ka 3)), (4, .ref (ka 4)), (5, .ref (ka 5)), (6, .ref (ka 6))] := hl
  refine lv_bipush (v := nI 10) hx hb dL_ticks_0 (by decide) ?_
  refine q_newal hM hG (by decide +kernel) (N' := 10) (by decide) (by decide) (by decide) (c1 := 1) (s1 := 10) rfl rfl ⟨Nat.le_of_ble_eq_true rfl, Nat.le_of_ble_eq_true rfl⟩ dL_ticks_2 (fun q9x H hG => ?_)
  have hG : cC g ((lNet g ka nn aa ll yy tt kk oo) ++ (xNet g q9x (fun _ => 0))) A s H _ := hG
  refine lv_astore (lv' := [(7, .ref q9x), (0, .ref (ka 0)), (1, .ref (ka 1)), (2, .ref (ka 2)), (3, .ref (ka 3)), (4, .ref (ka 4)), (5, .ref (ka 5)), (6, .ref (ka 6))]) hx hb dL_ticks_4 hl (by decide) rfl (fun ls hl => ?_)
  refine lv_iconst (v := nI 0) hx hb dL_ticks_6 (by decide) ?_
  refine lv_istore (lv' := [(8, .int (nI 0)), (7, .ref q9x), (0, .ref (ka 0)), (1, .ref (ka 1)), (2, .ref (ka 2)), (3, .ref (ka 3)), (4, .ref (ka 4)), (5, .ref (ka 5)), (6, .ref (ka 6))]) hx hb dL_ticks_7 hl (by decide) rfl (fun ls hl => ?_)
  have loop_9 : ∀ (n9 i : Nat) (o1 : Nat → Int64) (x1 : Nat → Int64), i ≤ N → N < i + n9 → (LO o1 (drf dr rt off i) rt ∧ ∀ j, j < i → LK1 (klis dom lk (rk gr va j) K K j N) (x1 j) j N) → ∀ (H : Heap) (locs : List Loc), cC g ((lNet g ka nn aa ll yy tt kk o1) ++ (xNet g q9x x1)) A s H locs → ∀ (ls : Array Slot), lv_has ls 14 [(8, .int (nI i)), (7, .ref q9x), (0, .ref (ka 0)), (1, .ref (ka 1)), (2, .ref (ka 2)), (3, .ref (ka 3)), (4, .ref (ka 4)), (5, .ref (ka 5)), (6, .ref (ka 6))] → W p l e ({ frames := 2, cells := 1, slots := 10, locals := 47 } : Room) s m args below meth c H locs 1 10 Q (F0 m 9 ls []) := by
    intro n9
    induction n9 with
    | zero => intro i o1 x1 h1 h2; exact absurd h2 (by omega)
    | succ n9 ih_9 =>
      intro i o1 x1 hle_i hlt9 hinv_i H locs hG ls hl
      obtain ⟨hO1, hX1⟩ := hinv_i
      refine lv_iload hx hb dL_ticks_9 (lv_at hl 0 rfl) ?_
      refine lv_aload_n hx hb dL_ticks_11 rfl (lv_at hl 2 rfl) ?_
      refine lv_iconst (v := nI 0) hx hb dL_ticks_12 (by decide) ?_
      refine q_iald hM hG 0 (i := 0) rfl (by decide) (by decide) dL_ticks_13 ?_
      refine q_ren hn0 ?_
      refine lv_icmp_ge (tgt := 178) hx hb dL_ticks_14 (by decide) (fun c_14 => ?_) (fun c_14 => ?_)
      · have hi : i = N := by have h9 := ctr_ge (a := i) (b := N) (by omega) (by omega) c_14; omega
        have hX : LK N (kann dom lk gr va N K K N) x1 := fun j hj => (hX1 j (by omega)).congr ((kann_in N j).1 hj)
        refine lv_iconst (v := nI 0) hx hb dL_ticks_178 (by decide) ?_
        refine lv_istore (lv' := [(8, .int (nI 0)), (7, .ref q9x), (0, .ref (ka 0)), (1, .ref (ka 1)), (2, .ref (ka 2)), (3, .ref (ka 3)), (4, .ref (ka 4)), (5, .ref (ka 5)), (6, .ref (ka 6))]) hx hb dL_ticks_179 hl (by decide) rfl (fun ls hl => ?_)
        have loop_181 : ∀ (n9 z : Nat) (o3 : Nat → Int64), z ≤ 100 → 100 < z + n9 → (∃ of3 rt3, (of3, rt3) = lst N (kann dom lk gr va N K K N).2.2.1 (kann dom lk gr va N K K N).2.2.2 dl td (drf dr rt off N, rt) (z / 10) (z % 10) ∧ LO o3 of3 rt3) → ∀ (H : Heap) (locs : List Loc), cC g ((lNet g ka nn aa ll yy tt kk o3) ++ (xNet g q9x x1)) A s H locs → ∀ (ls : Array Slot), lv_has ls 14 [(8, .int (nI z)), (7, .ref q9x), (0, .ref (ka 0)), (1, .ref (ka 1)), (2, .ref (ka 2)), (3, .ref (ka 3)), (4, .ref (ka 4)), (5, .ref (ka 5)), (6, .ref (ka 6))] → W p l e ({ frames := 2, cells := 1, slots := 10, locals := 47 } : Room) s m args below meth c H locs 1 10 Q (F0 m 181 ls []) := by
          intro n9
          induction n9 with
          | zero => intro z o3 h1 h2; exact absurd h2 (by omega)
          | succ n9 ih_181 =>
            intro z o3 hle_z hlt9 hinv_z H locs hG ls hl
            obtain ⟨of3, rt3, hst, hO3⟩ := hinv_z
            have hzx : z % 10 < 10 := Nat.mod_lt z (by decide)
            refine lv_iload hx hb dL_ticks_181 (lv_at hl 0 rfl) ?_
            refine lv_bipush (v := nI 100) hx hb dL_ticks_183 (by decide) ?_
            refine lv_icmp_ge (tgt := 325) hx hb dL_ticks_185 (by decide) (fun c_185 => ?_) (fun c_185 => ?_)
            · have hz : z = 100 := by have h9 := ctr_ge (a := z) (b := 100) (by omega) (by omega) c_185; omega
              have hst9 := hst
              rw [hz] at hst9
              have hst8 : (of3, rt3) = stD N (kann dom lk gr va N K K N).2.2.1 (kann dom lk gr va N K K N).2.2.2 dl td (drf dr rt off N, rt) 9 := hst9.trans lst_0
              refine lv_iconst (v := nI 0) hx hb dL_ticks_325 (by decide) ?_
              refine lv_istore (lv' := [(8, .int (nI 0)), (7, .ref q9x), (0, .ref (ka 0)), (1, .ref (ka 1)), (2, .ref (ka 2)), (3, .ref (ka 3)), (4, .ref (ka 4)), (5, .ref (ka 5)), (6, .ref (ka 6))]) hx hb dL_ticks_326 hl (by decide) rfl (fun ls hl => ?_)
              have loop_328 : ∀ (n9 w : Nat) (k4 : Nat → Int64), w ≤ N → N < w + n9 → (∀ j, j < w → k4 j = x1 j) → ∀ (H : Heap) (locs : List Loc), cC g ((lNet g ka nn aa ll yy tt k4 o3) ++ (xNet g q9x x1)) A s H locs → ∀ (ls : Array Slot), lv_has ls 14 [(8, .int (nI w)), (7, .ref q9x), (0, .ref (ka 0)), (1, .ref (ka 1)), (2, .ref (ka 2)), (3, .ref (ka 3)), (4, .ref (ka 4)), (5, .ref (ka 5)), (6, .ref (ka 6))] → W p l e ({ frames := 2, cells := 1, slots := 10, locals := 47 } : Room) s m args below meth c H locs 1 10 Q (F0 m 328 ls []) := by
                intro n9
                induction n9 with
                | zero => intro w k4 h1 h2; exact absurd h2 (by omega)
                | succ n9 ih_328 =>
                  intro w k4 hle_w hlt9 hinv_w H locs hG ls hl
                  refine lv_iload hx hb dL_ticks_328 (lv_at hl 0 rfl) ?_
                  refine lv_aload_n hx hb dL_ticks_330 rfl (lv_at hl 2 rfl) ?_
                  refine lv_iconst (v := nI 0) hx hb dL_ticks_331 (by decide) ?_
                  refine q_iald hM hG 0 (i := 0) rfl (by decide) (by decide) dL_ticks_332 ?_
                  refine q_ren hn0 ?_
                  refine lv_icmp_ge (tgt := 352) hx hb dL_ticks_333 (by decide) (fun c_333 => ?_) (fun c_333 => ?_)
                  · have hw : w = N := by have h9 := ctr_ge (a := w) (b := N) (by omega) (by omega) c_333; omega
                    refine lv_aload_n hx hb dL_ticks_352 rfl (lv_at hl 2 rfl) ?_
                    refine lv_iconst (v := nI 2) hx hb dL_ticks_353 (by decide) ?_
                    refine lv_dup2_11 hx hb dL_ticks_354 rfl rfl ?_
                    refine q_iald hM hG 0 (i := 2) rfl (by decide) (by decide) dL_ticks_355 ?_
                    refine lv_iconst (v := nI 1) hx hb dL_ticks_356 (by decide) ?_
                    refine lv_iadd hx hb dL_ticks_357 ?_
                    refine q_iast hM hG 0 (i := 2) rfl (by decide) (by decide) (ws1 := ((lNet g ka (upd nn 2 ((nn 2) + (nI 1))) aa ll yy tt k4 o3) ++ (xNet g q9x x1))) rfl dL_ticks_358 (fun H locs hG => ?_)
                    exact hRet ((upd nn 2 ((nn 2) + (nI 1))), k4, o3) _ _ _ _ _ _ (⟨rfl, (fun j hj => by show LK1 (kann dom lk gr va N K K N) (k4 j) j N; rw [hinv_w j (by omega)]; exact hX j hj), (by show LO o3 (stD N (kann dom lk gr va N K K N).2.2.1 (kann dom lk gr va N K K N).2.2.2 dl td (drf dr rt off N, rt) 9).1 (stD N (kann dom lk gr va N K K N).2.2.1 (kann dom lk gr va N K K N).2.2.2 dl td (drf dr rt off N, rt) 9).2; rw [← hst8]; exact hO3)⟩) hG.left (Nat.le_of_ble_eq_true rfl) (Nat.le_of_ble_eq_true rfl) dL_ticks_359
                  · have hw : w < N := ctr_lt (by omega) (by omega) c_333
                    refine lv_aload hx hb dL_ticks_336 (lv_at hl 7 rfl) ?_
                    refine lv_iload hx hb dL_ticks_338 (lv_at hl 0 rfl) ?_
                    refine lv_aload hx hb dL_ticks_340 (lv_at hl 1 rfl) ?_
                    refine lv_iload hx hb dL_ticks_342 (lv_at hl 0 rfl) ?_
                    refine q_lald hM hG 7 (i := w) rfl (by omega) (by decide) dL_ticks_344 ?_
                    refine q_last hM hG 5 (i := w) rfl (by omega) (by decide) (ws1 := ((lNet g ka nn aa ll yy tt (vp_updL k4 w (x1 w)) o3) ++ (xNet g q9x x1))) rfl dL_ticks_345 (fun H locs hG => ?_)
                    refine lv_iinc (v := (nI (w + 1))) (lv' := [(8, .int (nI (w + 1))), (7, .ref q9x), (0, .ref (ka 0)), (1, .ref (ka 1)), (2, .ref (ka 2)), (3, .ref (ka 3)), (4, .ref (ka 4)), (5, .ref (ka 5)), (6, .ref (ka 6))]) hx hb dL_ticks_346 hl (k := 0) rfl (nI_1 w) (by decide) rfl (fun ls hl => ?_)
                    refine lv_goto (tgt := 328) hx hb dL_ticks_349 (by decide) ?_
                    exact ih_328 (w + 1) (vp_updL k4 w (x1 w)) (by omega) (by omega) (fun j hj => by by_cases e9 : j = w; (subst e9; exact pk_uLs); exact (pk_uLn e9).trans (hinv_w j (by omega))) _ _ hG _ (lv_sub hl [0, 1, 2, 3, 4, 5, 6, 7, 8] rfl)
              exact loop_328 (N + 1) 0 kk (by omega) (by omega) (fun j h9 => absurd h9 (Nat.not_lt_zero _)) _ _ hG _ (lv_sub hl [0, 1, 2, 3, 4, 5, 6, 7, 8] rfl)
            · have hz : z < 100 := ctr_lt (by omega) (by omega) c_185
              refine lv_iload hx hb dL_ticks_188 (lv_at hl 0 rfl) ?_
              refine lv_bipush (v := nI 10) hx hb dL_ticks_190 (by decide) ?_
              refine lv_irem hx hb dL_ticks_192 (by decide) ?_
              refine q_ren (pk_rem (a := z) (by omega) (by decide) (by decide)) ?_
              refine lv_istore (lv' := [(9, .int (nI (z % 10))), (8, .int (nI z)), (7, .ref q9x), (0, .ref (ka 0)), (1, .ref (ka 1)), (2, .ref (ka 2)), (3, .ref (ka 3)), (4, .ref (ka 4)), (5, .ref (ka 5)), (6, .ref (ka 6))]) hx hb dL_ticks_193 hl (by decide) rfl (fun ls hl => ?_)
              refine lv_iload hx hb dL_ticks_195 (lv_at hl 0 rfl) ?_
              refine lv_aload_n hx hb dL_ticks_197 rfl (lv_at hl 3 rfl) ?_
              refine lv_iconst (v := nI 0) hx hb dL_ticks_198 (by decide) ?_
              refine q_iald hM hG 0 (i := 0) rfl (by decide) (by decide) dL_ticks_199 ?_
              refine q_ren hn0 ?_
              refine lv_icmp_ge (tgt := 319) hx hb dL_ticks_200 (by decide) (fun c_200 => ?_) (fun c_200 => ?_)
              · have hnd : N ≤ z % 10 := ctr_ge (by omega) (by omega) c_200
                refine lv_iinc (v := (nI (z + 1))) (lv' := [(8, .int (nI (z + 1))), (9, .int (nI (z % 10))), (7, .ref q9x), (0, .ref (ka 0)), (1, .ref (ka 1)), (2, .ref (ka 2)), (3, .ref (ka 3)), (4, .ref (ka 4)), (5, .ref (ka 5)), (6, .ref (ka 6))]) hx hb dL_ticks_319 hl (k := 1) rfl (nI_1 z) (by decide) rfl (fun ls hl => ?_)
                refine lv_goto (tgt := 181) hx hb dL_ticks_322 (by decide) ?_
                exact ih_181 (z + 1) o3 (by omega) (by omega) (⟨of3, rt3, hst.trans (by rw [lst_next hN, lst_skip hN (Or.inl (by omega))]), hO3⟩) _ _ hG _ (lv_sub hl [0, 2, 3, 4, 5, 6, 7, 8, 9] rfl)
              · have hnd : z % 10 < N := ctr_lt (by omega) (by omega) c_200
                obtain ⟨r3, s3, q3, d1, d2, d3, d4, d5, d6, d7, d8, d9⟩ := id (hX (z % 10) hnd)
                refine lv_aload hx hb dL_ticks_203 (lv_at hl 2 rfl) ?_
                refine lv_iload hx hb dL_ticks_205 (lv_at hl 0 rfl) ?_
                refine q_lald hM hG 7 (i := z % 10) rfl (by omega) (by decide) dL_ticks_207 ?_
                refine q_renl d9 ?_
                refine q_fSi (FR.n ((lNet g ka nn aa ll yy tt kk o3) ++ (xNet g q9x x1))) (n := 1) (As := [.long (lN (r3 * 110 + s3 * 11 + q3))]) (rest := []) hM hl.1 hG (c_L_steps l g  (r3 * 110 + s3 * 11 + q3) (by omega) ) rfl gL_ticks_L_steps (by decide +kernel) ⟨Nat.le_of_ble_eq_true rfl, Nat.le_of_ble_eq_true rfl⟩ rfl rfl (Nat.le_of_ble_eq_true rfl) dL_ticks_208 (c1 := 1) (s1 := 10) rfl rfl ⟨Nat.le_of_ble_eq_true rfl, Nat.le_of_ble_eq_true rfl⟩ (fun r_208 u_208 H locs hp_208 hG => ?_)
                have hG : cC g ((lNet g ka nn aa ll yy tt kk o3) ++ (xNet g q9x x1)) A s H locs := hG
                subst hp_208
                refine q_ren (show nI ((r3 * 110 + s3 * 11 + q3) / 11 % 10) = (nI s3) from congrArg nI (by omega)) ?_
                refine lv_iload hx hb dL_ticks_211 (lv_at hl 1 rfl) ?_
                refine lv_bipush (v := nI 10) hx hb dL_ticks_213 (by decide) ?_
                refine lv_idiv hx hb dL_ticks_215 (by decide) ?_
                refine q_ren (pk_div (a := z) (by omega) (by decide) (by decide)) ?_
                refine lv_icmp_ne (tgt := 319) hx hb dL_ticks_216 (by decide) (fun c_216 => ?_) (fun c_216 => ?_)
                · refine lv_iinc (v := (nI (z + 1))) (lv' := [(8, .int (nI (z + 1))), (9, .int (nI (z % 10))), (7, .ref q9x), (0, .ref (ka 0)), (1, .ref (ka 1)), (2, .ref (ka 2)), (3, .ref (ka 3)), (4, .ref (ka 4)), (5, .ref (ka 5)), (6, .ref (ka 6))]) hx hb dL_ticks_319 hl (k := 1) rfl (nI_1 z) (by decide) rfl (fun ls hl => ?_)
                  refine lv_goto (tgt := 181) hx hb dL_ticks_322 (by decide) ?_
                  exact ih_181 (z + 1) o3 (by omega) (by omega) (⟨of3, rt3, hst.trans (by rw [lst_next hN, lst_skip hN (Or.inr (Or.inl (fun h9 => c_216 (d7.symm.trans h9))))]), hO3⟩) _ _ hG _ (lv_sub hl [0, 2, 3, 4, 5, 6, 7, 8, 9] rfl)
                · refine lv_aload hx hb dL_ticks_219 (lv_at hl 2 rfl) ?_
                  refine lv_iload hx hb dL_ticks_221 (lv_at hl 0 rfl) ?_
                  refine q_lald hM hG 7 (i := z % 10) rfl (by omega) (by decide) dL_ticks_223 ?_
                  refine q_renl d9 ?_
                  refine q_fSi (FR.n ((lNet g ka nn aa ll yy tt kk o3) ++ (xNet g q9x x1))) (n := 1) (As := [.long (lN (r3 * 110 + s3 * 11 + q3))]) (rest := []) hM hl.1 hG (c_L_parent l g  (r3 * 110 + s3 * 11 + q3) (by omega) ) rfl gL_ticks_L_parent (by decide +kernel) ⟨Nat.le_of_ble_eq_true rfl, Nat.le_of_ble_eq_true rfl⟩ rfl rfl (Nat.le_of_ble_eq_true rfl) dL_ticks_224 (c1 := 1) (s1 := 10) rfl rfl ⟨Nat.le_of_ble_eq_true rfl, Nat.le_of_ble_eq_true rfl⟩ (fun r_224 u_224 H locs hp_224 hG => ?_)
                  have hG : cC g ((lNet g ka nn aa ll yy tt kk o3) ++ (xNet g q9x x1)) A s H locs := hG
                  subst hp_224
                  refine q_ren (show nI ((r3 * 110 + s3 * 11 + q3) % 11) - 1 = (nI q3 - 1) from by rw [show (r3 * 110 + s3 * 11 + q3) % 11 = q3 by omega]) ?_
                  refine lv_if_lt (tgt := 319) hx hb dL_ticks_227 (by decide) (fun c_227 => ?_) (fun c_227 => ?_)
                  · have hq0 : q3 = 0 := by have h9 := nI_m1_ge (q := q3) (by omega); rcases Nat.eq_zero_or_pos q3 with h8 | h8; (exact h8); exact absurd c_227 (Int32.not_lt.mpr (h9.mpr h8))
                    refine lv_iinc (v := (nI (z + 1))) (lv' := [(8, .int (nI (z + 1))), (9, .int (nI (z % 10))), (7, .ref q9x), (0, .ref (ka 0)), (1, .ref (ka 1)), (2, .ref (ka 2)), (3, .ref (ka 3)), (4, .ref (ka 4)), (5, .ref (ka 5)), (6, .ref (ka 6))]) hx hb dL_ticks_319 hl (k := 1) rfl (nI_1 z) (by decide) rfl (fun ls hl => ?_)
                    refine lv_goto (tgt := 181) hx hb dL_ticks_322 (by decide) ?_
                    exact ih_181 (z + 1) o3 (by omega) (by omega) (⟨of3, rt3, hst.trans (by rw [lst_next hN, lst_skip hN (Or.inr (Or.inr (Or.inl (by rw [d8, hq0]; decide))))]), hO3⟩) _ _ hG _ (lv_sub hl [0, 2, 3, 4, 5, 6, 7, 8, 9] rfl)
                  · have hq1 : 1 ≤ q3 := (nI_m1_ge (by omega)).mp (Int32.not_lt.mp c_227)
                    obtain ⟨q4, rfl⟩ : ∃ q4, q3 = q4 + 1 := ⟨q3 - 1, by omega⟩
                    have hq4 : q4 < N := by omega
                    have hsd : s3 = z / 10 := (nI_eq (by omega) (by omega)).mp c_216
                    have hd0 : 0 < z / 10 := by rcases Nat.eq_zero_or_pos s3 with h8 | h8; (exact absurd (d4 h8) (by omega)); omega
                    have hne : ¬ q4 = z % 10 := par_ne hself (by omega) (by omega) (d8.trans (nI_pred q4))
                    refine lv_aload hx hb dL_ticks_230 (lv_at hl 2 rfl) ?_
                    refine lv_iload hx hb dL_ticks_232 (lv_at hl 0 rfl) ?_
                    refine q_lald hM hG 7 (i := z % 10) rfl (by omega) (by decide) dL_ticks_234 ?_
                    refine q_renl d9 ?_
                    refine q_fSi (FR.n ((lNet g ka nn aa ll yy tt kk o3) ++ (xNet g q9x x1))) (n := 1) (As := [.long (lN (r3 * 110 + s3 * 11 + (q4 + 1)))]) (rest := []) hM hl.1 hG (c_L_parent l g  (r3 * 110 + s3 * 11 + (q4 + 1)) (by omega) ) rfl gL_ticks_L_parent (by decide +kernel) ⟨Nat.le_of_ble_eq_true rfl, Nat.le_of_ble_eq_true rfl⟩ rfl rfl (Nat.le_of_ble_eq_true rfl) dL_ticks_235 (c1 := 1) (s1 := 10) rfl rfl ⟨Nat.le_of_ble_eq_true rfl, Nat.le_of_ble_eq_true rfl⟩ (fun r_235 u_235 H locs hp_235 hG => ?_)
                    have hG : cC g ((lNet g ka nn aa ll yy tt kk o3) ++ (xNet g q9x x1)) A s H locs := hG
                    subst hp_235
                    refine q_ren (show nI ((r3 * 110 + s3 * 11 + (q4 + 1)) % 11) - 1 = (nI q4) from by rw [show (r3 * 110 + s3 * 11 + (q4 + 1)) % 11 = q4 + 1 by omega]; exact nI_pred q4) ?_
                    refine lv_istore (lv' := [(10, .int (nI q4)), (9, .int (nI (z % 10))), (8, .int (nI z)), (7, .ref q9x), (0, .ref (ka 0)), (1, .ref (ka 1)), (2, .ref (ka 2)), (3, .ref (ka 3)), (4, .ref (ka 4)), (5, .ref (ka 5)), (6, .ref (ka 6))]) hx hb dL_ticks_238 hl (by decide) rfl (fun ls hl => ?_)
                    refine lv_aload_n hx hb dL_ticks_240 rfl (lv_at hl 7 rfl) ?_
                    refine lv_iload hx hb dL_ticks_241 (lv_at hl 0 rfl) ?_
                    refine lv_iload hx hb dL_ticks_243 (lv_at hl 1 rfl) ?_
                    refine q_fSi (FR.l (xNet g q9x x1)) (n := 3) (As := [.ref (ka 3), .int (nI q4), .int (nI (z % 10))]) (rest := []) hM hl.1 hG (c_L_delay l g ka nn aa ll yy tt kk o3 dl q4 (z % 10) (by omega) hzx hne hY) rfl gL_ticks_L_delay (by decide +kernel) ⟨Nat.le_of_ble_eq_true rfl, Nat.le_of_ble_eq_true rfl⟩ rfl rfl (Nat.le_of_ble_eq_true rfl) dL_ticks_245 (c1 := 1) (s1 := 10) rfl rfl ⟨Nat.le_of_ble_eq_true rfl, Nat.le_of_ble_eq_true rfl⟩ (fun r_245 u_245 H locs hp_245 hG => ?_)
                    have hG : cC g ((lNet g ka nn aa ll yy tt kk o3) ++ (xNet g q9x x1)) A s H locs := hG
                    subst hp_245
                    refine lv_aload_n hx hb dL_ticks_248 rfl (lv_at hl 7 rfl) ?_
                    refine lv_iload hx hb dL_ticks_249 (lv_at hl 1 rfl) ?_
                    refine lv_iload hx hb dL_ticks_251 (lv_at hl 0 rfl) ?_
                    refine q_fSi (FR.l (xNet g q9x x1)) (n := 3) (As := [.ref (ka 3), .int (nI (z % 10)), .int (nI q4)]) (rest := [.int (dl (q4 * 10 + (z % 10)))]) hM hl.1 hG (c_L_delay l g ka nn aa ll yy tt kk o3 dl (z % 10) q4 hzx (by omega) (fun h9 => hne h9.symm) hY) rfl gL_ticks_L_delay (by decide +kernel) ⟨Nat.le_of_ble_eq_true rfl, Nat.le_of_ble_eq_true rfl⟩ rfl rfl (Nat.le_of_ble_eq_true rfl) dL_ticks_253 (c1 := 1) (s1 := 10) rfl rfl ⟨Nat.le_of_ble_eq_true rfl, Nat.le_of_ble_eq_true rfl⟩ (fun r_253 u_253 H locs hp_253 hG => ?_)
                    have hG : cC g ((lNet g ka nn aa ll yy tt kk o3) ++ (xNet g q9x x1)) A s H locs := hG
                    subst hp_253
                    refine lv_isub hx hb dL_ticks_256 ?_
                    refine lv_aload hx hb dL_ticks_257 (lv_at hl 8 rfl) ?_
                    refine lv_iload hx hb dL_ticks_259 (lv_at hl 0 rfl) ?_
                    refine lv_iload hx hb dL_ticks_261 (lv_at hl 1 rfl) ?_
                    refine q_fSi (FR.l (xNet g q9x x1)) (n := 3) (As := [.ref (ka 4), .int (nI q4), .int (nI (z % 10))]) (rest := [.int ((dl (q4 * 10 + (z % 10))) - (dl ((z % 10) * 10 + q4)))]) hM hl.1 hG (c_L_told l g ka nn aa ll yy tt kk o3 td q4 (z % 10) (by omega) hzx hne hT) rfl gL_ticks_L_told (by decide +kernel) ⟨Nat.le_of_ble_eq_true rfl, Nat.le_of_ble_eq_true rfl⟩ rfl rfl (Nat.le_of_ble_eq_true rfl) dL_ticks_263 (c1 := 1) (s1 := 10) rfl rfl ⟨Nat.le_of_ble_eq_true rfl, Nat.le_of_ble_eq_true rfl⟩ (fun r_263 u_263 H locs hp_263 hG => ?_)
                    have hG : cC g ((lNet g ka nn aa ll yy tt kk o3) ++ (xNet g q9x x1)) A s H locs := hG
                    subst hp_263
                    refine lv_isub hx hb dL_ticks_266 ?_
                    refine lv_iconst (v := nI 2) hx hb dL_ticks_267 (by decide) ?_
                    refine lv_idiv hx hb dL_ticks_268 (by decide) ?_
                    refine q_ren (show (dl (q4 * 10 + z % 10) - dl (z % 10 * 10 + q4) - td (q4 * 10 + z % 10)) / nI 2 = lerr dl td q4 (z % 10) from rfl) ?_
                    refine lv_istore (lv' := [(11, .int (lerr dl td q4 (z % 10))), (10, .int (nI q4)), (9, .int (nI (z % 10))), (8, .int (nI z)), (7, .ref q9x), (0, .ref (ka 0)), (1, .ref (ka 1)), (2, .ref (ka 2)), (3, .ref (ka 3)), (4, .ref (ka 4)), (5, .ref (ka 5)), (6, .ref (ka 6))]) hx hb dL_ticks_269 hl (by decide) rfl (fun ls hl => ?_)
                    refine lv_aload hx hb dL_ticks_271 (lv_at hl 11 rfl) ?_
                    refine lv_iload hx hb dL_ticks_273 (lv_at hl 2 rfl) ?_
                    refine q_lald hM hG 6 (i := z % 10) rfl (by omega) (by decide) dL_ticks_275 ?_
                    refine q_renl ((hO3 (z % 10) hzx).1) ?_
                    refine lv_aload hx hb dL_ticks_276 (lv_at hl 11 rfl) ?_
                    refine lv_iload hx hb dL_ticks_278 (lv_at hl 1 rfl) ?_
                    refine q_lald hM hG 6 (i := q4) rfl (by omega) (by decide) dL_ticks_280 ?_
                    refine q_renl ((hO3 q4 (by omega)).1) ?_
                    refine lv_lsub hx hb dL_ticks_281 ?_
                    refine lv_iload hx hb dL_ticks_282 (lv_at hl 0 rfl) ?_
                    refine lv_i2l hx hb dL_ticks_284 rfl ?_
                    refine lv_ladd hx hb dL_ticks_285 ?_
                    refine q_renl (show of3 (z % 10) - of3 q4 + (lerr dl td q4 (z % 10)).toInt64 = lmea dl td of3 q4 (z % 10) from rfl) ?_
                    refine lv_lstore (lv' := [(12, .long (lmea dl td of3 q4 (z % 10))), (11, .int (lerr dl td q4 (z % 10))), (10, .int (nI q4)), (9, .int (nI (z % 10))), (8, .int (nI z)), (7, .ref q9x), (0, .ref (ka 0)), (1, .ref (ka 1)), (2, .ref (ka 2)), (3, .ref (ka 3)), (4, .ref (ka 4)), (5, .ref (ka 5)), (6, .ref (ka 6))]) hx hb dL_ticks_286 hl (by decide) rfl (fun ls hl => ?_)
                    refine lv_aload hx hb dL_ticks_288 (lv_at hl 12 rfl) ?_
                    refine lv_iload hx hb dL_ticks_290 (lv_at hl 3 rfl) ?_
                    refine lv_dup2_11 hx hb dL_ticks_292 rfl rfl ?_
                    refine q_lald hM hG 6 (i := z % 10) rfl (by omega) (by decide) dL_ticks_293 ?_
                    refine q_renl ((hO3 (z % 10) hzx).1) ?_
                    refine lv_lload hx hb dL_ticks_294 (lv_at hl 0 rfl) ?_
                    refine lv_ldc2 (v := 2) hx hb hown (hts (.constantLong RL 46 2) (by decide +kernel)) dL_ticks_296 ?_
                    refine lv_ldiv hx hb dL_ticks_299 (by decide) ?_
                    refine lv_lsub hx hb dL_ticks_300 ?_
                    refine q_last hM hG 6 (i := z % 10) rfl (by omega) (by decide) (ws1 := ((lNet g ka nn aa ll yy tt kk (vp_updL o3 (z % 10) ((of3 (z % 10)) - ((lmea dl td of3 q4 (z % 10)) / 2)))) ++ (xNet g q9x x1))) rfl dL_ticks_301 (fun H locs hG => ?_)
                    have hO4 : LO (vp_updL o3 (z % 10) (of3 (z % 10) - lmea dl td of3 q4 (z % 10) / 2)) (vp_updL of3 (z % 10) (of3 (z % 10) - lmea dl td of3 q4 (z % 10) / 2)) rt3 := LO_off hzx hO3
                    refine lv_aload hx hb dL_ticks_302 (lv_at hl 12 rfl) ?_
                    refine lv_bipush (v := nI 10) hx hb dL_ticks_304 (by decide) ?_
                    refine lv_iload hx hb dL_ticks_306 (lv_at hl 3 rfl) ?_
                    refine lv_iadd hx hb dL_ticks_308 ?_
                    refine q_ren (nI_add 10 (z % 10)) ?_
                    refine lv_dup2_11 hx hb dL_ticks_309 rfl rfl ?_
                    refine q_lald hM hG 6 (i := 10 + (z % 10)) rfl (by omega) (by decide) dL_ticks_310 ?_
                    refine q_renl ((hO4 (z % 10) hzx).2) ?_
                    refine lv_lload hx hb dL_ticks_311 (lv_at hl 0 rfl) ?_
                    refine lv_ldc2 (v := 16) hx hb hown (hts (.constantLong RL 48 16) (by decide +kernel)) dL_ticks_313 ?_
                    refine lv_ldiv hx hb dL_ticks_316 (by decide) ?_
                    refine lv_lsub hx hb dL_ticks_317 ?_
                    refine q_last hM hG 6 (i := 10 + (z % 10)) rfl (by omega) (by decide) (ws1 := ((lNet g ka nn aa ll yy tt kk (vp_updL (vp_updL o3 (z % 10) ((of3 (z % 10)) - ((lmea dl td of3 q4 (z % 10)) / 2))) (10 + (z % 10)) ((rt3 (z % 10)) - ((lmea dl td of3 q4 (z % 10)) / 16)))) ++ (xNet g q9x x1))) rfl dL_ticks_318 (fun H locs hG => ?_)
                    refine lv_iinc (v := (nI (z + 1))) (lv' := [(8, .int (nI (z + 1))), (12, .long (lmea dl td of3 q4 (z % 10))), (11, .int (lerr dl td q4 (z % 10))), (10, .int (nI q4)), (9, .int (nI (z % 10))), (7, .ref q9x), (0, .ref (ka 0)), (1, .ref (ka 1)), (2, .ref (ka 2)), (3, .ref (ka 3)), (4, .ref (ka 4)), (5, .ref (ka 5)), (6, .ref (ka 6))]) hx hb dL_ticks_319 hl (k := 4) rfl (nI_1 z) (by decide) rfl (fun ls hl => ?_)
                    refine lv_goto (tgt := 181) hx hb dL_ticks_322 (by decide) ?_
                    exact ih_181 (z + 1) (vp_updL (vp_updL o3 (z % 10) ((of3 (z % 10)) - ((lmea dl td of3 q4 (z % 10)) / 2))) (10 + (z % 10)) ((rt3 (z % 10)) - ((lmea dl td of3 q4 (z % 10)) / 16))) (by omega) (by omega) (⟨_, _, (show (vp_updL of3 (z % 10) (of3 (z % 10) - lmea dl td of3 q4 (z % 10) / 2), vp_updL rt3 (z % 10) (rt3 (z % 10) - lmea dl td of3 q4 (z % 10) / 16)) = _ by rw [lst_next hN, lst_take hN hnd hq4 hd0 (d7.trans c_216) (d8.trans (nI_pred q4)), ← hst]; rfl), LO_rt hzx hO4⟩) _ _ hG _ (lv_sub hl [0, 5, 6, 7, 8, 9, 10, 11, 12] rfl)
        exact loop_181 (100 + 1) 0 o1 (by omega) (by omega) (⟨drf dr rt off N, rt, rfl, by rw [hi] at hO1; exact hO1⟩) _ _ hG _ (lv_sub hl [0, 1, 2, 3, 4, 5, 6, 7, 8] rfl)
      · have hi : i < N := ctr_lt (by omega) (by omega) c_14
        have hix : i < 10 := by omega
        refine lv_aload hx hb dL_ticks_17 (lv_at hl 8 rfl) ?_
        refine lv_iload hx hb dL_ticks_19 (lv_at hl 0 rfl) ?_
        refine lv_dup2_11 hx hb dL_ticks_21 rfl rfl ?_
        refine q_lald hM hG 6 (i := i) rfl (by omega) (by decide) dL_ticks_22 ?_
        refine q_renl ((hO1 i hix).1) ?_
        refine lv_aload hx hb dL_ticks_23 (lv_at hl 8 rfl) ?_
        refine lv_bipush (v := nI 10) hx hb dL_ticks_25 (by decide) ?_
        refine lv_iload hx hb dL_ticks_27 (lv_at hl 0 rfl) ?_
        refine lv_iadd hx hb dL_ticks_29 ?_
        refine q_ren (nI_add 10 i) ?_
        refine q_lald hM hG 6 (i := 10 + i) rfl (by omega) (by decide) dL_ticks_30 ?_
        refine q_renl ((hO1 i hix).2) ?_
        refine lv_aload_n hx hb dL_ticks_31 rfl (lv_at hl 3 rfl) ?_
        refine lv_iconst (v := nI 4) hx hb dL_ticks_32 (by decide) ?_
        refine lv_iload hx hb dL_ticks_33 (lv_at hl 0 rfl) ?_
        refine lv_imul hx hb dL_ticks_35 ?_
        refine q_ren (pk_mul 4 i) ?_
        refine lv_iconst (v := nI 3) hx hb dL_ticks_36 (by decide) ?_
        refine lv_iadd hx hb dL_ticks_37 ?_
        refine q_ren (nI_add (4 * i) 3) ?_
        refine q_iald hM hG 1 (i := 4 * i + 3) rfl (by omega) (by decide) dL_ticks_38 ?_
        refine q_ren ((hA i hi).2.2.2) ?_
        refine lv_i2l hx hb dL_ticks_39 rfl ?_
        refine lv_ladd hx hb dL_ticks_40 ?_
        refine lv_ladd hx hb dL_ticks_41 ?_
        refine q_renl (congrArg (fun z => drf dr rt off i i + z) (Int64.add_comm (rt i) (dr i).toInt64)) ?_
        refine q_last hM hG 6 (i := i) rfl (by omega) (by decide) (ws1 := ((lNet g ka nn aa ll yy tt kk (vp_updL o1 i (drf dr rt off i i + ((dr i).toInt64 + rt i)))) ++ (xNet g q9x x1))) rfl dL_ticks_42 (fun H locs hG => ?_)
        refine lv_aload hx hb dL_ticks_43 (lv_at hl 1 rfl) ?_
        refine lv_iload hx hb dL_ticks_45 (lv_at hl 0 rfl) ?_
        refine lv_aload_n hx hb dL_ticks_47 rfl (lv_at hl 3 rfl) ?_
        refine lv_iload hx hb dL_ticks_48 (lv_at hl 0 rfl) ?_
        refine q_fSl (FR.l (xNet g q9x x1)) (n := 2) (As := [.ref (ka 1), .int (nI i)]) (rest := [.int (nI i), .ref q9x]) hM hl.1 hG (c_L_own l g ka nn aa ll yy tt kk (vp_updL o1 i (drf dr rt off i i + ((dr i).toInt64 + rt i))) N dom gr va dr i hi hN hA hg) rfl gL_ticks_L_own (by decide +kernel) ⟨Nat.le_of_ble_eq_true rfl, Nat.le_of_ble_eq_true rfl⟩ rfl rfl (Nat.le_of_ble_eq_true rfl) dL_ticks_50 (c1 := 1) (s1 := 10) rfl rfl ⟨Nat.le_of_ble_eq_true rfl, Nat.le_of_ble_eq_true rfl⟩ (fun r_50 u_50 H locs hp_50 hG => ?_)
        have hG : cC g ((lNet g ka nn aa ll yy tt kk (vp_updL o1 i (drf dr rt off i i + ((dr i).toInt64 + rt i)))) ++ (xNet g q9x x1)) A s H locs := hG
        subst hp_50
        refine q_last hM hG 7 (i := i) rfl (by omega) (by decide) (ws1 := ((lNet g ka nn aa ll yy tt kk (vp_updL o1 i (drf dr rt off i i + ((dr i).toInt64 + rt i)))) ++ (xNet g q9x (vp_updL x1 i (lN (rkn gr va i * 110)))))) rfl dL_ticks_53 (fun H locs hG => ?_)
        refine lv_iconst (v := nI 0) hx hb dL_ticks_54 (by decide) ?_
        refine lv_istore (lv' := [(9, .int (nI 0)), (8, .int (nI i)), (7, .ref q9x), (0, .ref (ka 0)), (1, .ref (ka 1)), (2, .ref (ka 2)), (3, .ref (ka 3)), (4, .ref (ka 4)), (5, .ref (ka 5)), (6, .ref (ka 6))]) hx hb dL_ticks_55 hl (by decide) rfl (fun ls hl => ?_)
        have loop_57 : ∀ (n9 t : Nat) (x2 : Nat → Int64), t ≤ N → N < t + n9 → ((∀ j, j < i → LK1 (klis dom lk (rk gr va j) K K j N) (x2 j) j N) ∧ LK1 (klis dom lk (rk gr va i) K K i t) (x2 i) i t) → ∀ (H : Heap) (locs : List Loc), cC g ((lNet g ka nn aa ll yy tt kk (vp_updL o1 i (drf dr rt off i i + ((dr i).toInt64 + rt i)))) ++ (xNet g q9x x2)) A s H locs → ∀ (ls : Array Slot), lv_has ls 14 [(9, .int (nI t)), (8, .int (nI i)), (7, .ref q9x), (0, .ref (ka 0)), (1, .ref (ka 1)), (2, .ref (ka 2)), (3, .ref (ka 3)), (4, .ref (ka 4)), (5, .ref (ka 5)), (6, .ref (ka 6))] → W p l e ({ frames := 2, cells := 1, slots := 10, locals := 47 } : Room) s m args below meth c H locs 1 10 Q (F0 m 57 ls []) := by
          intro n9
          induction n9 with
          | zero => intro t x2 h1 h2; exact absurd h2 (by omega)
          | succ n9 ih_57 =>
            intro t x2 hle_t hlt9 hinv_t H locs hG ls hl
            obtain ⟨hX2, hT2⟩ := hinv_t
            refine lv_iload hx hb dL_ticks_57 (lv_at hl 0 rfl) ?_
            refine lv_aload_n hx hb dL_ticks_59 rfl (lv_at hl 3 rfl) ?_
            refine lv_iconst (v := nI 0) hx hb dL_ticks_60 (by decide) ?_
            refine q_iald hM hG 0 (i := 0) rfl (by decide) (by decide) dL_ticks_61 ?_
            refine q_ren hn0 ?_
            refine lv_icmp_ge (tgt := 172) hx hb dL_ticks_62 (by decide) (fun c_62 => ?_) (fun c_62 => ?_)
            · have ht : t = N := by have h9 := ctr_ge (a := t) (b := N) (by omega) (by omega) c_62; omega
              refine lv_iinc (v := (nI (i + 1))) (lv' := [(8, .int (nI (i + 1))), (9, .int (nI t)), (7, .ref q9x), (0, .ref (ka 0)), (1, .ref (ka 1)), (2, .ref (ka 2)), (3, .ref (ka 3)), (4, .ref (ka 4)), (5, .ref (ka 5)), (6, .ref (ka 6))]) hx hb dL_ticks_172 hl (k := 1) rfl (nI_1 i) (by decide) rfl (fun ls hl => ?_)
              refine lv_goto (tgt := 9) hx hb dL_ticks_175 (by decide) ?_
              exact ih_9 (i + 1) (vp_updL o1 i (drf dr rt off i i + ((dr i).toInt64 + rt i))) x2 (by omega) (by omega) (⟨LO_off hix hO1, fun j hj => by by_cases e9 : j = i; (subst e9; rw [ht] at hT2; exact hT2); exact hX2 j (by omega)⟩) _ _ hG _ (lv_sub hl [0, 2, 3, 4, 5, 6, 7, 8, 9] rfl)
            · have ht : t < N := ctr_lt (by omega) (by omega) c_62
              obtain ⟨r2, s2, q2, b1, b2, b3, b4, b5, b6, b7, b8, b9⟩ := id (hK t ht)
              refine lv_aload_n hx hb dL_ticks_65 rfl (lv_at hl 4 rfl) ?_
              refine lv_aload_n hx hb dL_ticks_66 rfl (lv_at hl 5 rfl) ?_
              refine lv_iload hx hb dL_ticks_67 (lv_at hl 1 rfl) ?_
              refine lv_iload hx hb dL_ticks_69 (lv_at hl 0 rfl) ?_
              refine q_fSi (FR.l (xNet g q9x x2)) (n := 4) (As := [.ref (ka 1), .ref (ka 2), .int (nI i), .int (nI t)]) (rest := []) hM hl.1 hG (c_L_areNear l g ka nn aa ll yy tt kk (vp_updL o1 i (drf dr rt off i i + ((dr i).toInt64 + rt i))) N dom gr va dr lk i t hi ht hN hA hB) rfl gL_ticks_L_areNear (by decide +kernel) ⟨Nat.le_of_ble_eq_true rfl, Nat.le_of_ble_eq_true rfl⟩ rfl rfl (Nat.le_of_ble_eq_true rfl) dL_ticks_71 (c1 := 1) (s1 := 10) rfl rfl ⟨Nat.le_of_ble_eq_true rfl, Nat.le_of_ble_eq_true rfl⟩ (fun r_71 u_71 H locs hp_71 hG => ?_)
              have hG : cC g ((lNet g ka nn aa ll yy tt kk (vp_updL o1 i (drf dr rt off i i + ((dr i).toInt64 + rt i)))) ++ (xNet g q9x x2)) A s H locs := hG
              rcases hp_71 with ⟨rfl, hp_71⟩ | ⟨rfl, hp_71⟩
              · refine lv_if_eq (tgt := 107) hx hb dL_ticks_74 (by decide) (fun c9 => False.elim (by revert c9; decide)) (fun _ => ?_)
                refine lv_aload hx hb dL_ticks_77 (lv_at hl 8 rfl) ?_
                refine lv_iload hx hb dL_ticks_79 (lv_at hl 0 rfl) ?_
                refine q_lald hM hG 5 (i := t) rfl (by omega) (by decide) dL_ticks_81 ?_
                refine q_renl b9 ?_
                refine q_fSi (FR.n ((lNet g ka nn aa ll yy tt kk (vp_updL o1 i (drf dr rt off i i + ((dr i).toInt64 + rt i)))) ++ (xNet g q9x x2))) (n := 1) (As := [.long (lN (r2 * 110 + s2 * 11 + q2))]) (rest := []) hM hl.1 hG (c_L_steps l g  (r2 * 110 + s2 * 11 + q2) (by omega) ) rfl gL_ticks_L_steps (by decide +kernel) ⟨Nat.le_of_ble_eq_true rfl, Nat.le_of_ble_eq_true rfl⟩ rfl rfl (Nat.le_of_ble_eq_true rfl) dL_ticks_82 (c1 := 1) (s1 := 10) rfl rfl ⟨Nat.le_of_ble_eq_true rfl, Nat.le_of_ble_eq_true rfl⟩ (fun r_82 u_82 H locs hp_82 hG => ?_)
                have hG : cC g ((lNet g ka nn aa ll yy tt kk (vp_updL o1 i (drf dr rt off i i + ((dr i).toInt64 + rt i)))) ++ (xNet g q9x x2)) A s H locs := hG
                subst hp_82
                refine q_ren (show nI ((r2 * 110 + s2 * 11 + q2) / 11 % 10) = (nI s2) from congrArg nI (by omega)) ?_
                refine lv_bipush (v := nI 9) hx hb dL_ticks_85 (by decide) ?_
                refine lv_icmp_ge (tgt := 107) hx hb dL_ticks_87 (by decide) (fun c_87 => ?_) (fun c_87 => ?_)
                · refine lv_iconst (v := nI 0) hx hb dL_ticks_107 (by decide) ?_
                  refine lv_istore (lv' := [(10, .int (nI 0)), (9, .int (nI t)), (8, .int (nI i)), (7, .ref q9x), (0, .ref (ka 0)), (1, .ref (ka 1)), (2, .ref (ka 2)), (3, .ref (ka 3)), (4, .ref (ka 4)), (5, .ref (ka 5)), (6, .ref (ka 6))]) hx hb dL_ticks_108 hl (by decide) rfl (fun ls hl => ?_)
                  refine lv_aload hx hb dL_ticks_110 (lv_at hl 9 rfl) ?_
                  refine lv_iload hx hb dL_ticks_112 (lv_at hl 1 rfl) ?_
                  refine q_lald hM hG 5 (i := t) rfl (by omega) (by decide) dL_ticks_114 ?_
                  refine q_renl b9 ?_
                  refine lv_ldc2 (v := 11) hx hb hown (hts (.constantLong RL 13 11) (by decide +kernel)) dL_ticks_115 ?_
                  refine q_renl (show (11 : Int64) = lN 11 from rfl) ?_
                  refine lv_ldiv hx hb dL_ticks_118 (by decide) ?_
                  refine q_renl (pk_lDiv (a := r2 * 110 + s2 * 11 + q2) (by omega) (by decide) (by decide)) ?_
                  refine lv_ldc2 (v := 11) hx hb hown (hts (.constantLong RL 13 11) (by decide +kernel)) dL_ticks_119 ?_
                  refine q_renl (show (11 : Int64) = lN 11 from rfl) ?_
                  refine lv_lmul hx hb dL_ticks_122 ?_
                  refine q_renl (lN_mul ((r2 * 110 + s2 * 11 + q2) / 11) 11) ?_
                  refine lv_ldc2 (v := 11) hx hb hown (hts (.constantLong RL 13 11) (by decide +kernel)) dL_ticks_123 ?_
                  refine q_renl (show (11 : Int64) = lN 11 from rfl) ?_
                  refine lv_ladd hx hb dL_ticks_126 ?_
                  refine q_renl (lN_add (((r2 * 110 + s2 * 11 + q2) / 11) * 11) 11) ?_
                  refine lv_iload hx hb dL_ticks_127 (lv_at hl 1 rfl) ?_
                  refine lv_i2l hx hb dL_ticks_129 (nI_l (n := t) (by omega)) ?_
                  refine lv_ladd hx hb dL_ticks_130 ?_
                  refine q_renl (lN_add (((r2 * 110 + s2 * 11 + q2) / 11) * 11 + 11) t) ?_
                  refine lv_lconst (v := lN 1) hx hb dL_ticks_131 (by decide) ?_
                  refine lv_ladd hx hb dL_ticks_132 ?_
                  refine q_renl (lN_add (((r2 * 110 + s2 * 11 + q2) / 11) * 11 + 11 + t) 1) ?_
                  refine q_renl (congrArg lN (show (r2 * 110 + s2 * 11 + q2) / 11 * 11 + 11 + t + 1 = r2 * 110 + (s2 + 1) * 11 + (t + 1) by omega)) ?_
                  refine lv_lstore (lv' := [(11, .long (lN (r2 * 110 + (s2 + 1) * 11 + (t + 1)))), (10, .int (nI 0)), (9, .int (nI t)), (8, .int (nI i)), (7, .ref q9x), (0, .ref (ka 0)), (1, .ref (ka 1)), (2, .ref (ka 2)), (3, .ref (ka 3)), (4, .ref (ka 4)), (5, .ref (ka 5)), (6, .ref (ka 6))]) hx hb dL_ticks_133 hl (by decide) rfl (fun ls hl => ?_)
                  refine lv_aload hx hb dL_ticks_135 (lv_at hl 4 rfl) ?_
                  refine lv_iload hx hb dL_ticks_137 (lv_at hl 3 rfl) ?_
                  refine lv_iload hx hb dL_ticks_139 (lv_at hl 1 rfl) ?_
                  refine lv_if_eq (tgt := 160) hx hb dL_ticks_141 (by decide) (fun _ => ?_) (fun c9 => False.elim (by revert c9; decide))
                  refine lv_aload hx hb dL_ticks_160 (lv_at hl 4 rfl) ?_
                  refine lv_iload hx hb dL_ticks_162 (lv_at hl 3 rfl) ?_
                  refine q_lald hM hG 7 (i := i) rfl (by omega) (by decide) dL_ticks_164 ?_
                  refine q_last hM hG 7 (i := i) rfl (by omega) (by decide) (ws1 := ((lNet g ka nn aa ll yy tt kk (vp_updL o1 i (drf dr rt off i i + ((dr i).toInt64 + rt i)))) ++ (xNet g q9x (vp_updL x2 i (x2 i))))) rfl dL_ticks_165 (fun H locs hG => ?_)
                  refine lv_iinc (v := (nI (t + 1))) (lv' := [(9, .int (nI (t + 1))), (11, .long (lN (r2 * 110 + (s2 + 1) * 11 + (t + 1)))), (10, .int (nI 0)), (8, .int (nI i)), (7, .ref q9x), (0, .ref (ka 0)), (1, .ref (ka 1)), (2, .ref (ka 2)), (3, .ref (ka 3)), (4, .ref (ka 4)), (5, .ref (ka 5)), (6, .ref (ka 6))]) hx hb dL_ticks_166 hl (k := 2) rfl (nI_1 t) (by decide) rfl (fun ls hl => ?_)
                  refine lv_goto (tgt := 57) hx hb dL_ticks_169 (by decide) ?_
                  exact ih_57 (t + 1) (vp_updL x2 i (x2 i)) (by omega) (by omega) (⟨fun j hj => by rw [pk_uLn (by omega)]; exact hX2 j hj, by rw [pk_uLs]; exact (LK1_lis hN hi ht hT2 (hK t ht)).2 (fun h9 => absurd (show (9 : Int32) ≤ K.2.2.1 t by rw [b7]; exact c_87) (nlt h9.2.1))⟩) _ _ hG _ (lv_sub hl [0, 3, 4, 5, 6, 7, 8, 9, 10, 11] rfl)
                · refine lv_aload hx hb dL_ticks_90 (lv_at hl 8 rfl) ?_
                  refine lv_iload hx hb dL_ticks_92 (lv_at hl 0 rfl) ?_
                  refine q_lald hM hG 5 (i := t) rfl (by omega) (by decide) dL_ticks_94 ?_
                  refine q_renl b9 ?_
                  refine q_fSi (FR.n ((lNet g ka nn aa ll yy tt kk (vp_updL o1 i (drf dr rt off i i + ((dr i).toInt64 + rt i)))) ++ (xNet g q9x x2))) (n := 1) (As := [.long (lN (r2 * 110 + s2 * 11 + q2))]) (rest := []) hM hl.1 hG (c_L_parent l g  (r2 * 110 + s2 * 11 + q2) (by omega) ) rfl gL_ticks_L_parent (by decide +kernel) ⟨Nat.le_of_ble_eq_true rfl, Nat.le_of_ble_eq_true rfl⟩ rfl rfl (Nat.le_of_ble_eq_true rfl) dL_ticks_95 (c1 := 1) (s1 := 10) rfl rfl ⟨Nat.le_of_ble_eq_true rfl, Nat.le_of_ble_eq_true rfl⟩ (fun r_95 u_95 H locs hp_95 hG => ?_)
                  have hG : cC g ((lNet g ka nn aa ll yy tt kk (vp_updL o1 i (drf dr rt off i i + ((dr i).toInt64 + rt i)))) ++ (xNet g q9x x2)) A s H locs := hG
                  subst hp_95
                  refine q_ren (show nI ((r2 * 110 + s2 * 11 + q2) % 11) - 1 = (nI q2 - 1) from by rw [show (r2 * 110 + s2 * 11 + q2) % 11 = q2 by omega]) ?_
                  refine lv_iload hx hb dL_ticks_98 (lv_at hl 1 rfl) ?_
                  refine lv_icmp_eq (tgt := 107) hx hb dL_ticks_100 (by decide) (fun c_100 => ?_) (fun c_100 => ?_)
                  · refine lv_iconst (v := nI 0) hx hb dL_ticks_107 (by decide) ?_
                    refine lv_istore (lv' := [(10, .int (nI 0)), (9, .int (nI t)), (8, .int (nI i)), (7, .ref q9x), (0, .ref (ka 0)), (1, .ref (ka 1)), (2, .ref (ka 2)), (3, .ref (ka 3)), (4, .ref (ka 4)), (5, .ref (ka 5)), (6, .ref (ka 6))]) hx hb dL_ticks_108 hl (by decide) rfl (fun ls hl => ?_)
                    refine lv_aload hx hb dL_ticks_110 (lv_at hl 9 rfl) ?_
                    refine lv_iload hx hb dL_ticks_112 (lv_at hl 1 rfl) ?_
                    refine q_lald hM hG 5 (i := t) rfl (by omega) (by decide) dL_ticks_114 ?_
                    refine q_renl b9 ?_
                    refine lv_ldc2 (v := 11) hx hb hown (hts (.constantLong RL 13 11) (by decide +kernel)) dL_ticks_115 ?_
                    refine q_renl (show (11 : Int64) = lN 11 from rfl) ?_
                    refine lv_ldiv hx hb dL_ticks_118 (by decide) ?_
                    refine q_renl (pk_lDiv (a := r2 * 110 + s2 * 11 + q2) (by omega) (by decide) (by decide)) ?_
                    refine lv_ldc2 (v := 11) hx hb hown (hts (.constantLong RL 13 11) (by decide +kernel)) dL_ticks_119 ?_
                    refine q_renl (show (11 : Int64) = lN 11 from rfl) ?_
                    refine lv_lmul hx hb dL_ticks_122 ?_
                    refine q_renl (lN_mul ((r2 * 110 + s2 * 11 + q2) / 11) 11) ?_
                    refine lv_ldc2 (v := 11) hx hb hown (hts (.constantLong RL 13 11) (by decide +kernel)) dL_ticks_123 ?_
                    refine q_renl (show (11 : Int64) = lN 11 from rfl) ?_
                    refine lv_ladd hx hb dL_ticks_126 ?_
                    refine q_renl (lN_add (((r2 * 110 + s2 * 11 + q2) / 11) * 11) 11) ?_
                    refine lv_iload hx hb dL_ticks_127 (lv_at hl 1 rfl) ?_
                    refine lv_i2l hx hb dL_ticks_129 (nI_l (n := t) (by omega)) ?_
                    refine lv_ladd hx hb dL_ticks_130 ?_
                    refine q_renl (lN_add (((r2 * 110 + s2 * 11 + q2) / 11) * 11 + 11) t) ?_
                    refine lv_lconst (v := lN 1) hx hb dL_ticks_131 (by decide) ?_
                    refine lv_ladd hx hb dL_ticks_132 ?_
                    refine q_renl (lN_add (((r2 * 110 + s2 * 11 + q2) / 11) * 11 + 11 + t) 1) ?_
                    refine q_renl (congrArg lN (show (r2 * 110 + s2 * 11 + q2) / 11 * 11 + 11 + t + 1 = r2 * 110 + (s2 + 1) * 11 + (t + 1) by omega)) ?_
                    refine lv_lstore (lv' := [(11, .long (lN (r2 * 110 + (s2 + 1) * 11 + (t + 1)))), (10, .int (nI 0)), (9, .int (nI t)), (8, .int (nI i)), (7, .ref q9x), (0, .ref (ka 0)), (1, .ref (ka 1)), (2, .ref (ka 2)), (3, .ref (ka 3)), (4, .ref (ka 4)), (5, .ref (ka 5)), (6, .ref (ka 6))]) hx hb dL_ticks_133 hl (by decide) rfl (fun ls hl => ?_)
                    refine lv_aload hx hb dL_ticks_135 (lv_at hl 4 rfl) ?_
                    refine lv_iload hx hb dL_ticks_137 (lv_at hl 3 rfl) ?_
                    refine lv_iload hx hb dL_ticks_139 (lv_at hl 1 rfl) ?_
                    refine lv_if_eq (tgt := 160) hx hb dL_ticks_141 (by decide) (fun _ => ?_) (fun c9 => False.elim (by revert c9; decide))
                    refine lv_aload hx hb dL_ticks_160 (lv_at hl 4 rfl) ?_
                    refine lv_iload hx hb dL_ticks_162 (lv_at hl 3 rfl) ?_
                    refine q_lald hM hG 7 (i := i) rfl (by omega) (by decide) dL_ticks_164 ?_
                    refine q_last hM hG 7 (i := i) rfl (by omega) (by decide) (ws1 := ((lNet g ka nn aa ll yy tt kk (vp_updL o1 i (drf dr rt off i i + ((dr i).toInt64 + rt i)))) ++ (xNet g q9x (vp_updL x2 i (x2 i))))) rfl dL_ticks_165 (fun H locs hG => ?_)
                    refine lv_iinc (v := (nI (t + 1))) (lv' := [(9, .int (nI (t + 1))), (11, .long (lN (r2 * 110 + (s2 + 1) * 11 + (t + 1)))), (10, .int (nI 0)), (8, .int (nI i)), (7, .ref q9x), (0, .ref (ka 0)), (1, .ref (ka 1)), (2, .ref (ka 2)), (3, .ref (ka 3)), (4, .ref (ka 4)), (5, .ref (ka 5)), (6, .ref (ka 6))]) hx hb dL_ticks_166 hl (k := 2) rfl (nI_1 t) (by decide) rfl (fun ls hl => ?_)
                    refine lv_goto (tgt := 57) hx hb dL_ticks_169 (by decide) ?_
                    exact ih_57 (t + 1) (vp_updL x2 i (x2 i)) (by omega) (by omega) (⟨fun j hj => by rw [pk_uLn (by omega)]; exact hX2 j hj, by rw [pk_uLs]; exact (LK1_lis hN hi ht hT2 (hK t ht)).2 (fun h9 => h9.2.2 (b8.trans c_100))⟩) _ _ hG _ (lv_sub hl [0, 3, 4, 5, 6, 7, 8, 9, 10, 11] rfl)
                  · refine lv_iconst (v := nI 1) hx hb dL_ticks_103 (by decide) ?_
                    refine lv_goto (tgt := 108) hx hb dL_ticks_104 (by decide) ?_
                    refine lv_istore (lv' := [(10, .int (nI 1)), (9, .int (nI t)), (8, .int (nI i)), (7, .ref q9x), (0, .ref (ka 0)), (1, .ref (ka 1)), (2, .ref (ka 2)), (3, .ref (ka 3)), (4, .ref (ka 4)), (5, .ref (ka 5)), (6, .ref (ka 6))]) hx hb dL_ticks_108 hl (by decide) rfl (fun ls hl => ?_)
                    refine lv_aload hx hb dL_ticks_110 (lv_at hl 9 rfl) ?_
                    refine lv_iload hx hb dL_ticks_112 (lv_at hl 1 rfl) ?_
                    refine q_lald hM hG 5 (i := t) rfl (by omega) (by decide) dL_ticks_114 ?_
                    refine q_renl b9 ?_
                    refine lv_ldc2 (v := 11) hx hb hown (hts (.constantLong RL 13 11) (by decide +kernel)) dL_ticks_115 ?_
                    refine q_renl (show (11 : Int64) = lN 11 from rfl) ?_
                    refine lv_ldiv hx hb dL_ticks_118 (by decide) ?_
                    refine q_renl (pk_lDiv (a := r2 * 110 + s2 * 11 + q2) (by omega) (by decide) (by decide)) ?_
                    refine lv_ldc2 (v := 11) hx hb hown (hts (.constantLong RL 13 11) (by decide +kernel)) dL_ticks_119 ?_
                    refine q_renl (show (11 : Int64) = lN 11 from rfl) ?_
                    refine lv_lmul hx hb dL_ticks_122 ?_
                    refine q_renl (lN_mul ((r2 * 110 + s2 * 11 + q2) / 11) 11) ?_
                    refine lv_ldc2 (v := 11) hx hb hown (hts (.constantLong RL 13 11) (by decide +kernel)) dL_ticks_123 ?_
                    refine q_renl (show (11 : Int64) = lN 11 from rfl) ?_
                    refine lv_ladd hx hb dL_ticks_126 ?_
                    refine q_renl (lN_add (((r2 * 110 + s2 * 11 + q2) / 11) * 11) 11) ?_
                    refine lv_iload hx hb dL_ticks_127 (lv_at hl 1 rfl) ?_
                    refine lv_i2l hx hb dL_ticks_129 (nI_l (n := t) (by omega)) ?_
                    refine lv_ladd hx hb dL_ticks_130 ?_
                    refine q_renl (lN_add (((r2 * 110 + s2 * 11 + q2) / 11) * 11 + 11) t) ?_
                    refine lv_lconst (v := lN 1) hx hb dL_ticks_131 (by decide) ?_
                    refine lv_ladd hx hb dL_ticks_132 ?_
                    refine q_renl (lN_add (((r2 * 110 + s2 * 11 + q2) / 11) * 11 + 11 + t) 1) ?_
                    refine q_renl (congrArg lN (show (r2 * 110 + s2 * 11 + q2) / 11 * 11 + 11 + t + 1 = r2 * 110 + (s2 + 1) * 11 + (t + 1) by omega)) ?_
                    refine lv_lstore (lv' := [(11, .long (lN (r2 * 110 + (s2 + 1) * 11 + (t + 1)))), (10, .int (nI 1)), (9, .int (nI t)), (8, .int (nI i)), (7, .ref q9x), (0, .ref (ka 0)), (1, .ref (ka 1)), (2, .ref (ka 2)), (3, .ref (ka 3)), (4, .ref (ka 4)), (5, .ref (ka 5)), (6, .ref (ka 6))]) hx hb dL_ticks_133 hl (by decide) rfl (fun ls hl => ?_)
                    refine lv_aload hx hb dL_ticks_135 (lv_at hl 4 rfl) ?_
                    refine lv_iload hx hb dL_ticks_137 (lv_at hl 3 rfl) ?_
                    refine lv_iload hx hb dL_ticks_139 (lv_at hl 1 rfl) ?_
                    refine lv_if_eq (tgt := 160) hx hb dL_ticks_141 (by decide) (fun c9 => False.elim (by revert c9; decide)) (fun _ => ?_)
                    refine lv_lload hx hb dL_ticks_144 (lv_at hl 0 rfl) ?_
                    refine lv_aload hx hb dL_ticks_146 (lv_at hl 4 rfl) ?_
                    refine lv_iload hx hb dL_ticks_148 (lv_at hl 3 rfl) ?_
                    refine q_lald hM hG 7 (i := i) rfl (by omega) (by decide) dL_ticks_150 ?_
                    refine W.lcmp hx hb dL_ticks_151 ?_
                    refine lv_if_ge (tgt := 160) hx hb dL_ticks_152 (by decide) (fun c_152 => ?_) (fun c_152 => ?_)
                    · refine lv_aload hx hb dL_ticks_160 (lv_at hl 4 rfl) ?_
                      refine lv_iload hx hb dL_ticks_162 (lv_at hl 3 rfl) ?_
                      refine q_lald hM hG 7 (i := i) rfl (by omega) (by decide) dL_ticks_164 ?_
                      refine q_last hM hG 7 (i := i) rfl (by omega) (by decide) (ws1 := ((lNet g ka nn aa ll yy tt kk (vp_updL o1 i (drf dr rt off i i + ((dr i).toInt64 + rt i)))) ++ (xNet g q9x (vp_updL x2 i (x2 i))))) rfl dL_ticks_165 (fun H locs hG => ?_)
                      refine lv_iinc (v := (nI (t + 1))) (lv' := [(9, .int (nI (t + 1))), (11, .long (lN (r2 * 110 + (s2 + 1) * 11 + (t + 1)))), (10, .int (nI 1)), (8, .int (nI i)), (7, .ref q9x), (0, .ref (ka 0)), (1, .ref (ka 1)), (2, .ref (ka 2)), (3, .ref (ka 3)), (4, .ref (ka 4)), (5, .ref (ka 5)), (6, .ref (ka 6))]) hx hb dL_ticks_166 hl (k := 2) rfl (nI_1 t) (by decide) rfl (fun ls hl => ?_)
                      refine lv_goto (tgt := 57) hx hb dL_ticks_169 (by decide) ?_
                      exact ih_57 (t + 1) (vp_updL x2 i (x2 i)) (by omega) (by omega) (⟨fun j hj => by rw [pk_uLn (by omega)]; exact hX2 j hj, by rw [pk_uLs]; exact ((LK1_lis hN hi ht hT2 (hK t ht)).1 ⟨hp_71, by rw [b7]; exact nle c_87, by rw [b8]; exact c_100⟩ r2 s2 q2 b9 b1 b2 (by omega)).2 (Int64.not_lt.mpr ((lg_cmp_ge _ _).mp c_152))⟩) _ _ hG _ (lv_sub hl [0, 3, 4, 5, 6, 7, 8, 9, 10, 11] rfl)
                    · refine lv_lload hx hb dL_ticks_155 (lv_at hl 0 rfl) ?_
                      refine lv_goto (tgt := 165) hx hb dL_ticks_157 (by decide) ?_
                      refine q_last hM hG 7 (i := i) rfl (by omega) (by decide) (ws1 := ((lNet g ka nn aa ll yy tt kk (vp_updL o1 i (drf dr rt off i i + ((dr i).toInt64 + rt i)))) ++ (xNet g q9x (vp_updL x2 i (lN (r2 * 110 + (s2 + 1) * 11 + (t + 1))))))) rfl dL_ticks_165 (fun H locs hG => ?_)
                      refine lv_iinc (v := (nI (t + 1))) (lv' := [(9, .int (nI (t + 1))), (11, .long (lN (r2 * 110 + (s2 + 1) * 11 + (t + 1)))), (10, .int (nI 1)), (8, .int (nI i)), (7, .ref q9x), (0, .ref (ka 0)), (1, .ref (ka 1)), (2, .ref (ka 2)), (3, .ref (ka 3)), (4, .ref (ka 4)), (5, .ref (ka 5)), (6, .ref (ka 6))]) hx hb dL_ticks_166 hl (k := 2) rfl (nI_1 t) (by decide) rfl (fun ls hl => ?_)
                      refine lv_goto (tgt := 57) hx hb dL_ticks_169 (by decide) ?_
                      exact ih_57 (t + 1) (vp_updL x2 i (lN (r2 * 110 + (s2 + 1) * 11 + (t + 1)))) (by omega) (by omega) (⟨fun j hj => by rw [pk_uLn (by omega)]; exact hX2 j hj, by rw [pk_uLs]; exact ((LK1_lis hN hi ht hT2 (hK t ht)).1 ⟨hp_71, by rw [b7]; exact nle c_87, by rw [b8]; exact c_100⟩ r2 s2 q2 b9 b1 b2 (by omega)).1 (Int64.not_le.mp (fun h9 => c_152 ((lg_cmp_ge _ _).mpr h9)))⟩) _ _ hG _ (lv_sub hl [0, 3, 4, 5, 6, 7, 8, 9, 10, 11] rfl)
              · refine lv_if_eq (tgt := 107) hx hb dL_ticks_74 (by decide) (fun _ => ?_) (fun c9 => False.elim (by revert c9; decide))
                refine lv_iconst (v := nI 0) hx hb dL_ticks_107 (by decide) ?_
                refine lv_istore (lv' := [(10, .int (nI 0)), (9, .int (nI t)), (8, .int (nI i)), (7, .ref q9x), (0, .ref (ka 0)), (1, .ref (ka 1)), (2, .ref (ka 2)), (3, .ref (ka 3)), (4, .ref (ka 4)), (5, .ref (ka 5)), (6, .ref (ka 6))]) hx hb dL_ticks_108 hl (by decide) rfl (fun ls hl => ?_)
                refine lv_aload hx hb dL_ticks_110 (lv_at hl 9 rfl) ?_
                refine lv_iload hx hb dL_ticks_112 (lv_at hl 1 rfl) ?_
                refine q_lald hM hG 5 (i := t) rfl (by omega) (by decide) dL_ticks_114 ?_
                refine q_renl b9 ?_
                refine lv_ldc2 (v := 11) hx hb hown (hts (.constantLong RL 13 11) (by decide +kernel)) dL_ticks_115 ?_
                refine q_renl (show (11 : Int64) = lN 11 from rfl) ?_
                refine lv_ldiv hx hb dL_ticks_118 (by decide) ?_
                refine q_renl (pk_lDiv (a := r2 * 110 + s2 * 11 + q2) (by omega) (by decide) (by decide)) ?_
                refine lv_ldc2 (v := 11) hx hb hown (hts (.constantLong RL 13 11) (by decide +kernel)) dL_ticks_119 ?_
                refine q_renl (show (11 : Int64) = lN 11 from rfl) ?_
                refine lv_lmul hx hb dL_ticks_122 ?_
                refine q_renl (lN_mul ((r2 * 110 + s2 * 11 + q2) / 11) 11) ?_
                refine lv_ldc2 (v := 11) hx hb hown (hts (.constantLong RL 13 11) (by decide +kernel)) dL_ticks_123 ?_
                refine q_renl (show (11 : Int64) = lN 11 from rfl) ?_
                refine lv_ladd hx hb dL_ticks_126 ?_
                refine q_renl (lN_add (((r2 * 110 + s2 * 11 + q2) / 11) * 11) 11) ?_
                refine lv_iload hx hb dL_ticks_127 (lv_at hl 1 rfl) ?_
                refine lv_i2l hx hb dL_ticks_129 (nI_l (n := t) (by omega)) ?_
                refine lv_ladd hx hb dL_ticks_130 ?_
                refine q_renl (lN_add (((r2 * 110 + s2 * 11 + q2) / 11) * 11 + 11) t) ?_
                refine lv_lconst (v := lN 1) hx hb dL_ticks_131 (by decide) ?_
                refine lv_ladd hx hb dL_ticks_132 ?_
                refine q_renl (lN_add (((r2 * 110 + s2 * 11 + q2) / 11) * 11 + 11 + t) 1) ?_
                refine q_renl (congrArg lN (show (r2 * 110 + s2 * 11 + q2) / 11 * 11 + 11 + t + 1 = r2 * 110 + (s2 + 1) * 11 + (t + 1) by omega)) ?_
                refine lv_lstore (lv' := [(11, .long (lN (r2 * 110 + (s2 + 1) * 11 + (t + 1)))), (10, .int (nI 0)), (9, .int (nI t)), (8, .int (nI i)), (7, .ref q9x), (0, .ref (ka 0)), (1, .ref (ka 1)), (2, .ref (ka 2)), (3, .ref (ka 3)), (4, .ref (ka 4)), (5, .ref (ka 5)), (6, .ref (ka 6))]) hx hb dL_ticks_133 hl (by decide) rfl (fun ls hl => ?_)
                refine lv_aload hx hb dL_ticks_135 (lv_at hl 4 rfl) ?_
                refine lv_iload hx hb dL_ticks_137 (lv_at hl 3 rfl) ?_
                refine lv_iload hx hb dL_ticks_139 (lv_at hl 1 rfl) ?_
                refine lv_if_eq (tgt := 160) hx hb dL_ticks_141 (by decide) (fun _ => ?_) (fun c9 => False.elim (by revert c9; decide))
                refine lv_aload hx hb dL_ticks_160 (lv_at hl 4 rfl) ?_
                refine lv_iload hx hb dL_ticks_162 (lv_at hl 3 rfl) ?_
                refine q_lald hM hG 7 (i := i) rfl (by omega) (by decide) dL_ticks_164 ?_
                refine q_last hM hG 7 (i := i) rfl (by omega) (by decide) (ws1 := ((lNet g ka nn aa ll yy tt kk (vp_updL o1 i (drf dr rt off i i + ((dr i).toInt64 + rt i)))) ++ (xNet g q9x (vp_updL x2 i (x2 i))))) rfl dL_ticks_165 (fun H locs hG => ?_)
                refine lv_iinc (v := (nI (t + 1))) (lv' := [(9, .int (nI (t + 1))), (11, .long (lN (r2 * 110 + (s2 + 1) * 11 + (t + 1)))), (10, .int (nI 0)), (8, .int (nI i)), (7, .ref q9x), (0, .ref (ka 0)), (1, .ref (ka 1)), (2, .ref (ka 2)), (3, .ref (ka 3)), (4, .ref (ka 4)), (5, .ref (ka 5)), (6, .ref (ka 6))]) hx hb dL_ticks_166 hl (k := 2) rfl (nI_1 t) (by decide) rfl (fun ls hl => ?_)
                refine lv_goto (tgt := 57) hx hb dL_ticks_169 (by decide) ?_
                exact ih_57 (t + 1) (vp_updL x2 i (x2 i)) (by omega) (by omega) (⟨fun j hj => by rw [pk_uLn (by omega)]; exact hX2 j hj, by rw [pk_uLs]; exact (LK1_lis hN hi ht hT2 (hK t ht)).2 (fun h9 => hp_71 h9.1)⟩) _ _ hG _ (lv_sub hl [0, 3, 4, 5, 6, 7, 8, 9, 10, 11] rfl)
        exact loop_57 (N + 1) 0 (vp_updL x1 i (lN (rkn gr va i * 110))) (by omega) (by omega) (⟨fun j hj => by rw [pk_uLn (by omega)]; exact hX1 j hj, by rw [pk_uLs]; exact LK1_st hg hix⟩) _ _ hG _ (lv_sub hl [0, 1, 2, 3, 4, 5, 6, 7, 8, 9] rfl)
  exact loop_9 (N + 1) 0 oo (fun _ => 0) (by omega) (by omega) (⟨hO, fun j h9 => absurd h9 (Nat.not_lt_zero _)⟩) _ _ hG _ (lv_sub hl [0, 1, 2, 3, 4, 5, 6, 7, 8] rfl)
