set_option maxHeartbeats 4000000 in
set_option maxRecDepth 100000 in
theorem c_L_isNet (l : Launch) (g : EN) (h : Nat → Nat) (ka : Nat → Nat) (N : Nat) (tk : Int32) (dom : Nat → Int32) (gr : Nat → Int32) (va : Nat → Int32) (dr : Nat → Int32) (off : Nat → Int64) (rt : Nat → Int64) (cnt : Int32) (lk : Nat → Int32) (dl : Nat → Int32) (td : Nat → Int32) (K : KT) (E : KT) (ds : Nat → Int32) (nn : Nat → Int32) (aa : Nat → Int32) (ll : Nat → Int32) (yy : Nat → Int64) (tt : Nat → Int32) (kk : Nat → Int64) (oo : Nat → Int64) (x : Nat) (hxb : x < 2 ^ 30) (V : JV N tk dom gr va dr off rt cnt lk dl td K nn aa ll yy tt kk oo) : Ci l yL_isNet wsL_isNet ({ frames := 8, cells := 0, slots := 0, locals := 133 }) g [.ref (h 0), .ref (ka 0), .ref (ka 1), .ref (ka 2), .ref (ka 5), .ref (ka 6), .int (nI x)] ((cNet g h N tk dom gr va dr off rt cnt lk dl td K E ds) ++ (lNet g ka nn aa ll yy tt kk oo)) (fun (r : Int32) (_ : Nat → Int32) => r = 1) (fun (u : Nat → Int32) => ((cNet g h N tk dom gr va dr off rt cnt lk dl td K E u) ++ (lNet g ka nn aa ll yy tt kk oo))) := by
  refine Cz.of (cc := cL_isNet) (maxL := 16) (by decide) rfl (Nat.le_of_ble_eq_true rfl) (fun r u h => Or.inr h) ?_
  intro p e s m args below meth c A Q ls hM hG hRet hl
  have hx := hM.1
  have hb := hM.2.1
  have hown := hM.2.2.2.1
  have hts := hM.2.2.2.2
  have hl : lv_has ls 16 [(0, .ref (h 0)), (1, .ref (ka 0)), (2, .ref (ka 1)), (3, .ref (ka 2)), (4, .ref (ka 5)), (5, .ref (ka 6)), (6, .int (nI x))] := hl
  obtain ⟨hN, hg, hlk, hself, hsy, hn0, hn1, hn2, hA, hB, hY, hT, hK, hO, -⟩ := V
  refine lv_iconst (v := nI 1) hx hb dL_isNet_0 (by decide) ?_
  refine lv_istore (lv' := [(7, .int (nI 1)), (0, .ref (h 0)), (1, .ref (ka 0)), (2, .ref (ka 1)), (3, .ref (ka 2)), (4, .ref (ka 5)), (5, .ref (ka 6)), (6, .int (nI x))]) hx hb dL_isNet_1 hl (by decide) rfl (fun ls hl => ?_)
  refine lv_aload_n hx hb dL_isNet_3 rfl (lv_at hl 1 rfl) ?_
  refine q_fVi (FR.l (lNet g ka nn aa ll yy tt kk oo)) (n := 0) (As := []) (rest := []) hM hl.1 hG (c_X2_nodes l g h N tk dom gr va dr off rt cnt lk dl td K E ds  ) rfl gL_isNet_X2_nodes (by decide +kernel) ⟨Nat.le_of_ble_eq_true rfl, Nat.le_of_ble_eq_true rfl⟩ 0 rfl rfl rfl rfl rfl (Nat.le_of_ble_eq_true rfl) dL_isNet_4 (c1 := 0) (s1 := 0) rfl rfl ⟨Nat.le_of_ble_eq_true rfl, Nat.le_of_ble_eq_true rfl⟩ (fun r_4 u_4 H locs hp_4 hG => ?_)
  have hG : cC g ((cNet g h N tk dom gr va dr off rt cnt lk dl td K E ds) ++ (lNet g ka nn aa ll yy tt kk oo)) A s H locs := hG
  refine q_ren hp_4 ?_
  refine lv_aload_n hx hb dL_isNet_7 rfl (lv_at hl 2 rfl) ?_
  refine lv_iconst (v := nI 0) hx hb dL_isNet_8 (by decide) ?_
  refine q_iald hM hG 22 (i := 0) rfl (by decide) (by decide) dL_isNet_9 ?_
  refine q_ren hn0 ?_
  refine lv_icmp_ne (tgt := 27) hx hb dL_isNet_10 (by decide) (fun c9 => absurd rfl c9) (fun _ => ?_)
  refine lv_aload_n hx hb dL_isNet_13 rfl (lv_at hl 1 rfl) ?_
  refine q_fVi (FR.l (lNet g ka nn aa ll yy tt kk oo)) (n := 0) (As := []) (rest := []) hM hl.1 hG (c_X2_links l g h N tk dom gr va dr off rt cnt lk dl td K E ds  ) rfl gL_isNet_X2_links (by decide +kernel) ⟨Nat.le_of_ble_eq_true rfl, Nat.le_of_ble_eq_true rfl⟩ 0 rfl rfl rfl rfl rfl (Nat.le_of_ble_eq_true rfl) dL_isNet_14 (c1 := 0) (s1 := 0) rfl rfl ⟨Nat.le_of_ble_eq_true rfl, Nat.le_of_ble_eq_true rfl⟩ (fun r_14 u_14 H locs hp_14 hG => ?_)
  have hG : cC g ((cNet g h N tk dom gr va dr off rt cnt lk dl td K E ds) ++ (lNet g ka nn aa ll yy tt kk oo)) A s H locs := hG
  refine q_ren hp_14 ?_
  refine lv_aload_n hx hb dL_isNet_17 rfl (lv_at hl 2 rfl) ?_
  refine lv_iconst (v := nI 1) hx hb dL_isNet_18 (by decide) ?_
  refine q_iald hM hG 22 (i := 1) rfl (by decide) (by decide) dL_isNet_19 ?_
  refine q_ren hn1 ?_
  refine lv_icmp_ne (tgt := 27) hx hb dL_isNet_20 (by decide) (fun c9 => absurd rfl c9) (fun _ => ?_)
  refine lv_iconst (v := nI 1) hx hb dL_isNet_23 (by decide) ?_
  refine lv_goto (tgt := 28) hx hb dL_isNet_24 (by decide) ?_
  refine lv_istore (lv' := [(8, .int (nI 1)), (7, .int (nI 1)), (0, .ref (h 0)), (1, .ref (ka 0)), (2, .ref (ka 1)), (3, .ref (ka 2)), (4, .ref (ka 5)), (5, .ref (ka 6)), (6, .int (nI x))]) hx hb dL_isNet_28 hl (by decide) rfl (fun ls hl => ?_)
  refine lv_iconst (v := nI 0) hx hb dL_isNet_30 (by decide) ?_
  refine lv_istore (lv' := [(9, .int (nI 0)), (8, .int (nI 1)), (7, .int (nI 1)), (0, .ref (h 0)), (1, .ref (ka 0)), (2, .ref (ka 1)), (3, .ref (ka 2)), (4, .ref (ka 5)), (5, .ref (ka 6)), (6, .int (nI x))]) hx hb dL_isNet_31 hl (by decide) rfl (fun ls hl => ?_)
  have loop_33 : ∀ (n9 i : Nat) (f1 : Nat → Int32) (st : Int32), i ≤ N → N < i + n9 → (bP st (∀ j, j < i → stl N dom lk gr va K.1 K.2.2.1 j)) → ∀ (H : Heap) (locs : List Loc), cC g ((cNet g h N tk dom gr va dr off rt cnt lk dl td K E f1) ++ (lNet g ka nn aa ll yy tt kk oo)) A s H locs → ∀ (ls : Array Slot), lv_has ls 16 [(9, .int (nI i)), (8, .int (nI 1)), (7, .int st), (0, .ref (h 0)), (1, .ref (ka 0)), (2, .ref (ka 1)), (3, .ref (ka 2)), (4, .ref (ka 5)), (5, .ref (ka 6)), (6, .int (nI x))] → W p l e ({ frames := 8, cells := 0, slots := 0, locals := 133 } : Room) s m args below meth c H locs 0 0 Q (F0 m 33 ls []) := by
    intro n9
    induction n9 with
    | zero => intro i f1 st h1 h2; exact absurd h2 (by omega)
    | succ n9 ih_33 =>
      intro i f1 st hle_i hlt9 hinv_i H locs hG ls hl
      refine lv_iload hx hb dL_isNet_33 (lv_at hl 0 rfl) ?_
      refine lv_aload_n hx hb dL_isNet_35 rfl (lv_at hl 4 rfl) ?_
      refine lv_iconst (v := nI 0) hx hb dL_isNet_36 (by decide) ?_
      refine q_iald hM hG 22 (i := 0) rfl (by decide) (by decide) dL_isNet_37 ?_
      refine q_ren hn0 ?_
      refine lv_icmp_ge (tgt := 258) hx hb dL_isNet_38 (by decide) (fun c_38 => ?_) (fun c_38 => ?_)
      · have hi : i = N := by have h9 := ctr_ge (a := i) (b := N) (by omega) (by omega) c_38; omega
        have hst9 : bP st (∀ j, j < N → stl N dom lk gr va K.1 K.2.2.1 j) := by rw [hi] at hinv_i; exact hinv_i
        refine lv_iconst (v := nI 0) hx hb dL_isNet_258 (by decide) ?_
        refine lv_istore (lv' := [(9, .int (nI 0)), (8, .int (nI 1)), (7, .int st), (0, .ref (h 0)), (1, .ref (ka 0)), (2, .ref (ka 1)), (3, .ref (ka 2)), (4, .ref (ka 5)), (5, .ref (ka 6)), (6, .int (nI x))]) hx hb dL_isNet_259 hl (by decide) rfl (fun ls hl => ?_)
        have loop_261 : ∀ (n9 dm : Nat) , dm ≤ 2 → 2 < dm + n9 → True → ∀ (H : Heap) (locs : List Loc), cC g ((cNet g h N tk dom gr va dr off rt cnt lk dl td K E f1) ++ (lNet g ka nn aa ll yy tt kk oo)) A s H locs → ∀ (ls : Array Slot), lv_has ls 16 [(9, .int (nI dm)), (8, .int (nI 1)), (7, .int st), (0, .ref (h 0)), (1, .ref (ka 0)), (2, .ref (ka 1)), (3, .ref (ka 2)), (4, .ref (ka 5)), (5, .ref (ka 6)), (6, .int (nI x))] → W p l e ({ frames := 8, cells := 0, slots := 0, locals := 133 } : Room) s m args below meth c H locs 0 0 Q (F0 m 261 ls []) := by
          intro n9
          induction n9 with
          | zero => intro dm  h1 h2; exact absurd h2 (by omega)
          | succ n9 ih_261 =>
            intro dm  hle_dm hlt9 hinv_dm H locs hG ls hl
            refine lv_iload hx hb dL_isNet_261 (lv_at hl 0 rfl) ?_
            refine lv_iconst (v := nI 2) hx hb dL_isNet_263 (by decide) ?_
            refine lv_icmp_ge (tgt := 396) hx hb dL_isNet_264 (by decide) (fun c_264 => ?_) (fun c_264 => ?_)
            · refine lv_iload hx hb dL_isNet_396 (lv_at hl 1 rfl) ?_
              refine lv_if_eq (tgt := 414) hx hb dL_isNet_398 (by decide) (fun c9 => False.elim (by revert c9; decide)) (fun _ => ?_)
              refine lv_aload_n hx hb dL_isNet_401 rfl (lv_at hl 3 rfl) ?_
              refine q_fVi (FR.l (lNet g ka nn aa ll yy tt kk oo)) (n := 0) (As := []) (rest := []) hM hl.1 hG (c_X2_isSettled l g h N tk dom gr va dr off rt cnt lk dl td K E f1  hN hlk hg) rfl gL_isNet_X2_isSettled (by decide +kernel) ⟨Nat.le_of_ble_eq_true rfl, Nat.le_of_ble_eq_true rfl⟩ 0 rfl rfl rfl rfl rfl (Nat.le_of_ble_eq_true rfl) dL_isNet_402 (c1 := 0) (s1 := 0) rfl rfl ⟨Nat.le_of_ble_eq_true rfl, Nat.le_of_ble_eq_true rfl⟩ (fun r_402 u_402 H locs hp_402 hG => ?_)
              have hG : cC g ((cNet g h N tk dom gr va dr off rt cnt lk dl td K E u_402) ++ (lNet g ka nn aa ll yy tt kk oo)) A s H locs := hG
              refine q_ren (bP_uniq hst9 hp_402) ?_
              refine lv_iload hx hb dL_isNet_405 (lv_at hl 2 rfl) ?_
              refine lv_icmp_ne (tgt := 414) hx hb dL_isNet_407 (by decide) (fun c9 => absurd rfl c9) (fun _ => ?_)
              refine lv_iconst (v := nI 1) hx hb dL_isNet_410 (by decide) ?_
              refine lv_goto (tgt := 415) hx hb dL_isNet_411 (by decide) ?_
              exact hRet (nI 1) u_402 _ _ _ _ _ _ rfl hG (Nat.le_of_ble_eq_true rfl) (Nat.le_of_ble_eq_true rfl) dL_isNet_415
            · have hdm : dm < 2 := ctr_lt (by omega) (by omega) c_264
              refine lv_iload hx hb dL_isNet_267 (lv_at hl 1 rfl) ?_
              refine lv_if_eq (tgt := 396) hx hb dL_isNet_269 (by decide) (fun c9 => False.elim (by revert c9; decide)) (fun _ => ?_)
              refine lv_lconst (v := lN 0) hx hb dL_isNet_272 (by decide) ?_
              refine lv_lstore (lv' := [(10, .long (lN 0)), (9, .int (nI dm)), (8, .int (nI 1)), (7, .int st), (0, .ref (h 0)), (1, .ref (ka 0)), (2, .ref (ka 1)), (3, .ref (ka 2)), (4, .ref (ka 5)), (5, .ref (ka 6)), (6, .int (nI x))]) hx hb dL_isNet_273 hl (by decide) rfl (fun ls hl => ?_)
              refine lv_lconst (v := lN 0) hx hb dL_isNet_275 (by decide) ?_
              refine lv_lstore (lv' := [(12, .long (lN 0)), (10, .long (lN 0)), (9, .int (nI dm)), (8, .int (nI 1)), (7, .int st), (0, .ref (h 0)), (1, .ref (ka 0)), (2, .ref (ka 1)), (3, .ref (ka 2)), (4, .ref (ka 5)), (5, .ref (ka 6)), (6, .int (nI x))]) hx hb dL_isNet_276 hl (by decide) rfl (fun ls hl => ?_)
              refine lv_iconst (v := nI 0) hx hb dL_isNet_278 (by decide) ?_
              refine lv_istore (lv' := [(14, .int (nI 0)), (12, .long (lN 0)), (10, .long (lN 0)), (9, .int (nI dm)), (8, .int (nI 1)), (7, .int st), (0, .ref (h 0)), (1, .ref (ka 0)), (2, .ref (ka 1)), (3, .ref (ka 2)), (4, .ref (ka 5)), (5, .ref (ka 6)), (6, .int (nI x))]) hx hb dL_isNet_279 hl (by decide) rfl (fun ls hl => ?_)
              refine lv_iconst (v := nI 0) hx hb dL_isNet_281 (by decide) ?_
              refine lv_istore (lv' := [(15, .int (nI 0)), (14, .int (nI 0)), (12, .long (lN 0)), (10, .long (lN 0)), (9, .int (nI dm)), (8, .int (nI 1)), (7, .int st), (0, .ref (h 0)), (1, .ref (ka 0)), (2, .ref (ka 1)), (3, .ref (ka 2)), (4, .ref (ka 5)), (5, .ref (ka 6)), (6, .int (nI x))]) hx hb dL_isNet_282 hl (by decide) rfl (fun ls hl => ?_)
              have loop_284 : ∀ (n9 z : Nat) (c0 : Nat) (hi0 : Int64) (lo0 : Int64), z ≤ N → N < z + n9 → (spf dom off (nI dm) z = (c0, lo0, hi0)) → ∀ (H : Heap) (locs : List Loc), cC g ((cNet g h N tk dom gr va dr off rt cnt lk dl td K E f1) ++ (lNet g ka nn aa ll yy tt kk oo)) A s H locs → ∀ (ls : Array Slot), lv_has ls 16 [(15, .int (nI z)), (14, .int (nI c0)), (12, .long hi0), (10, .long lo0), (9, .int (nI dm)), (8, .int (nI 1)), (7, .int st), (0, .ref (h 0)), (1, .ref (ka 0)), (2, .ref (ka 1)), (3, .ref (ka 2)), (4, .ref (ka 5)), (5, .ref (ka 6)), (6, .int (nI x))] → W p l e ({ frames := 8, cells := 0, slots := 0, locals := 133 } : Room) s m args below meth c H locs 0 0 Q (F0 m 284 ls []) := by
                intro n9
                induction n9 with
                | zero => intro z c0 hi0 lo0 h1 h2; exact absurd h2 (by omega)
                | succ n9 ih_284 =>
                  intro z c0 hi0 lo0 hle_z hlt9 hinv_z H locs hG ls hl
                  have hcz : c0 ≤ z := by have h9 := spf_le (dom := dom) (off := off) (x := nI dm) z; rw [hinv_z] at h9; exact h9
                  refine lv_iload hx hb dL_isNet_284 (lv_at hl 0 rfl) ?_
                  refine lv_aload_n hx hb dL_isNet_286 rfl (lv_at hl 8 rfl) ?_
                  refine lv_iconst (v := nI 0) hx hb dL_isNet_287 (by decide) ?_
                  refine q_iald hM hG 22 (i := 0) rfl (by decide) (by decide) dL_isNet_288 ?_
                  refine q_ren hn0 ?_
                  refine lv_icmp_ge (tgt := 368) hx hb dL_isNet_289 (by decide) (fun c_289 => ?_) (fun c_289 => ?_)
                  · have hz : z = N := by have h9 := ctr_ge (a := z) (b := N) (by omega) (by omega) c_289; omega
                    refine lv_aload_n hx hb dL_isNet_368 rfl (lv_at hl 7 rfl) ?_
                    refine lv_iload hx hb dL_isNet_369 (lv_at hl 4 rfl) ?_
                    refine q_fVl (FR.l (lNet g ka nn aa ll yy tt kk oo)) (n := 1) (As := [.int (nI dm)]) (rest := []) hM hl.1 hG (c_X2_spreadK l g h N tk dom gr va dr off rt cnt lk dl td K E f1 (nI dm) hN (inR_dm hdm)) rfl gL_isNet_X2_spread (by decide +kernel) ⟨Nat.le_of_ble_eq_true rfl, Nat.le_of_ble_eq_true rfl⟩ 0 rfl rfl rfl rfl rfl (Nat.le_of_ble_eq_true rfl) dL_isNet_371 (c1 := 0) (s1 := 0) rfl rfl ⟨Nat.le_of_ble_eq_true rfl, Nat.le_of_ble_eq_true rfl⟩ (fun r_371 u_371 H locs hp_371 hG => ?_)
                    have hG : cC g ((cNet g h N tk dom gr va dr off rt cnt lk dl td K E f1) ++ (lNet g ka nn aa ll yy tt kk oo)) A s H locs := hG
                    refine q_renl (hp_371.trans (show sprd dom off (nI dm) N = hi0 - lo0 by rw [hz] at hinv_z; unfold sprd; rw [hinv_z])) ?_
                    refine lv_lload hx hb dL_isNet_374 (lv_at hl 2 rfl) ?_
                    refine lv_lload hx hb dL_isNet_376 (lv_at hl 3 rfl) ?_
                    refine lv_lsub hx hb dL_isNet_378 ?_
                    refine W.lcmp hx hb dL_isNet_379 ?_
                    refine q_ren (show lg_cmp (hi0 - lo0) (hi0 - lo0) = nI 0 from (lg_cmp_eq _ _).mpr rfl) ?_
                    refine lv_if_ne (tgt := 387) hx hb dL_isNet_380 (by decide) (fun c9 => False.elim (by revert c9; decide)) (fun _ => ?_)
                    refine lv_iconst (v := nI 1) hx hb dL_isNet_383 (by decide) ?_
                    refine lv_goto (tgt := 388) hx hb dL_isNet_384 (by decide) ?_
                    refine lv_istore (lv' := [(8, .int (nI 1)), (15, .int (nI z)), (14, .int (nI c0)), (12, .long hi0), (10, .long lo0), (9, .int (nI dm)), (7, .int st), (0, .ref (h 0)), (1, .ref (ka 0)), (2, .ref (ka 1)), (3, .ref (ka 2)), (4, .ref (ka 5)), (5, .ref (ka 6)), (6, .int (nI x))]) hx hb dL_isNet_388 hl (by decide) rfl (fun ls hl => ?_)
                    refine lv_iinc (v := (nI (dm + 1))) (lv' := [(9, .int (nI (dm + 1))), (8, .int (nI 1)), (15, .int (nI z)), (14, .int (nI c0)), (12, .long hi0), (10, .long lo0), (7, .int st), (0, .ref (h 0)), (1, .ref (ka 0)), (2, .ref (ka 1)), (3, .ref (ka 2)), (4, .ref (ka 5)), (5, .ref (ka 6)), (6, .int (nI x))]) hx hb dL_isNet_390 hl (k := 5) rfl (nI_1 dm) (by decide) rfl (fun ls hl => ?_)
                    refine lv_goto (tgt := 261) hx hb dL_isNet_393 (by decide) ?_
                    exact ih_261 (dm + 1)  (by omega) (by omega) trivial _ _ hG _ (lv_sub hl [0, 1, 6, 7, 8, 9, 10, 11, 12, 13] rfl)
                  · have hz : z < N := ctr_lt (by omega) (by omega) c_289
                    have hzx : z < 10 := by omega
                    refine lv_aload_n hx hb dL_isNet_292 rfl (lv_at hl 9 rfl) ?_
                    refine lv_iconst (v := nI 4) hx hb dL_isNet_293 (by decide) ?_
                    refine lv_iload hx hb dL_isNet_294 (lv_at hl 0 rfl) ?_
                    refine lv_imul hx hb dL_isNet_296 ?_
                    refine q_ren (pk_mul 4 z) ?_
                    refine q_iald hM hG 23 (i := 4 * z) rfl (by omega) (by decide) dL_isNet_297 ?_
                    refine q_ren ((hA z hz).1) ?_
                    refine lv_iload hx hb dL_isNet_298 (lv_at hl 4 rfl) ?_
                    refine lv_icmp_ne (tgt := 362) hx hb dL_isNet_300 (by decide) (fun c_300 => ?_) (fun c_300 => ?_)
                    · refine lv_iinc (v := (nI (z + 1))) (lv' := [(15, .int (nI (z + 1))), (14, .int (nI c0)), (12, .long hi0), (10, .long lo0), (9, .int (nI dm)), (8, .int (nI 1)), (7, .int st), (0, .ref (h 0)), (1, .ref (ka 0)), (2, .ref (ka 1)), (3, .ref (ka 2)), (4, .ref (ka 5)), (5, .ref (ka 6)), (6, .int (nI x))]) hx hb dL_isNet_362 hl (k := 0) rfl (nI_1 z) (by decide) rfl (fun ls hl => ?_)
                      refine lv_goto (tgt := 284) hx hb dL_isNet_365 (by decide) ?_
                      exact ih_284 (z + 1) c0 hi0 lo0 (by omega) (by omega) ((spf_f c_300).trans hinv_z) _ _ hG _ (lv_sub hl [0, 1, 2, 3, 4, 5, 6, 7, 8, 9, 10, 11, 12, 13] rfl)
                    · refine lv_iload hx hb dL_isNet_303 (lv_at hl 1 rfl) ?_
                      refine lv_if_eq (tgt := 319) hx hb dL_isNet_305 (by decide) (fun c_305 => ?_) (fun c_305 => ?_)
                      · refine lv_aload hx hb dL_isNet_319 (lv_at hl 12 rfl) ?_
                        refine lv_iload hx hb dL_isNet_321 (lv_at hl 0 rfl) ?_
                        refine q_lald hM hG 28 (i := z) rfl (by omega) (by decide) dL_isNet_323 ?_
                        refine q_renl ((hO z hzx).1) ?_
                        refine lv_goto (tgt := 329) hx hb dL_isNet_324 (by decide) ?_
                        refine lv_lstore (lv' := [(10, .long (off z)), (15, .int (nI z)), (14, .int (nI c0)), (12, .long hi0), (9, .int (nI dm)), (8, .int (nI 1)), (7, .int st), (0, .ref (h 0)), (1, .ref (ka 0)), (2, .ref (ka 1)), (3, .ref (ka 2)), (4, .ref (ka 5)), (5, .ref (ka 6)), (6, .int (nI x))]) hx hb dL_isNet_329 hl (by decide) rfl (fun ls hl => ?_)
                        refine lv_iload hx hb dL_isNet_331 (lv_at hl 2 rfl) ?_
                        refine lv_if_eq (tgt := 347) hx hb dL_isNet_333 (by decide) (fun c_333 => ?_) (fun c_333 => ?_)
                        · refine lv_aload hx hb dL_isNet_347 (lv_at hl 12 rfl) ?_
                          refine lv_iload hx hb dL_isNet_349 (lv_at hl 1 rfl) ?_
                          refine q_lald hM hG 28 (i := z) rfl (by omega) (by decide) dL_isNet_351 ?_
                          refine q_renl ((hO z hzx).1) ?_
                          refine lv_goto (tgt := 357) hx hb dL_isNet_352 (by decide) ?_
                          refine lv_lstore (lv' := [(12, .long (off z)), (10, .long (off z)), (15, .int (nI z)), (14, .int (nI c0)), (9, .int (nI dm)), (8, .int (nI 1)), (7, .int st), (0, .ref (h 0)), (1, .ref (ka 0)), (2, .ref (ka 1)), (3, .ref (ka 2)), (4, .ref (ka 5)), (5, .ref (ka 6)), (6, .int (nI x))]) hx hb dL_isNet_357 hl (by decide) rfl (fun ls hl => ?_)
                          refine lv_iinc (v := (nI (c0 + 1))) (lv' := [(14, .int (nI (c0 + 1))), (12, .long (off z)), (10, .long (off z)), (15, .int (nI z)), (9, .int (nI dm)), (8, .int (nI 1)), (7, .int st), (0, .ref (h 0)), (1, .ref (ka 0)), (2, .ref (ka 1)), (3, .ref (ka 2)), (4, .ref (ka 5)), (5, .ref (ka 6)), (6, .int (nI x))]) hx hb dL_isNet_359 hl (k := 3) rfl (nI_1 c0) (by decide) rfl (fun ls hl => ?_)
                          refine lv_iinc (v := (nI (z + 1))) (lv' := [(15, .int (nI (z + 1))), (14, .int (nI (c0 + 1))), (12, .long (off z)), (10, .long (off z)), (9, .int (nI dm)), (8, .int (nI 1)), (7, .int st), (0, .ref (h 0)), (1, .ref (ka 0)), (2, .ref (ka 1)), (3, .ref (ka 2)), (4, .ref (ka 5)), (5, .ref (ka 6)), (6, .int (nI x))]) hx hb dL_isNet_362 hl (k := 3) rfl (nI_1 z) (by decide) rfl (fun ls hl => ?_)
                          refine lv_goto (tgt := 284) hx hb dL_isNet_365 (by decide) ?_
                          exact ih_284 (z + 1) (c0 + 1) (off z) (off z) (by omega) (by omega) (spf_t hinv_z c_300 (Or.inl ⟨Or.inl ((nI_eq (b := 0) (by omega) (by decide)).mp c_305), rfl⟩) (Or.inl ⟨Or.inl ((nI_eq (b := 0) (by omega) (by decide)).mp c_333), rfl⟩)) _ _ hG _ (lv_sub hl [0, 1, 2, 3, 4, 5, 6, 7, 8, 9, 10, 11, 12, 13] rfl)
                        · refine lv_aload hx hb dL_isNet_336 (lv_at hl 12 rfl) ?_
                          refine lv_iload hx hb dL_isNet_338 (lv_at hl 1 rfl) ?_
                          refine q_lald hM hG 28 (i := z) rfl (by omega) (by decide) dL_isNet_340 ?_
                          refine q_renl ((hO z hzx).1) ?_
                          refine lv_lload hx hb dL_isNet_341 (lv_at hl 3 rfl) ?_
                          refine W.lcmp hx hb dL_isNet_343 ?_
                          refine lv_if_le (tgt := 355) hx hb dL_isNet_344 (by decide) (fun c_344 => ?_) (fun c_344 => ?_)
                          · refine lv_lload hx hb dL_isNet_355 (lv_at hl 3 rfl) ?_
                            refine lv_lstore (lv' := [(12, .long hi0), (10, .long (off z)), (15, .int (nI z)), (14, .int (nI c0)), (9, .int (nI dm)), (8, .int (nI 1)), (7, .int st), (0, .ref (h 0)), (1, .ref (ka 0)), (2, .ref (ka 1)), (3, .ref (ka 2)), (4, .ref (ka 5)), (5, .ref (ka 6)), (6, .int (nI x))]) hx hb dL_isNet_357 hl (by decide) rfl (fun ls hl => ?_)
                            refine lv_iinc (v := (nI (c0 + 1))) (lv' := [(14, .int (nI (c0 + 1))), (12, .long hi0), (10, .long (off z)), (15, .int (nI z)), (9, .int (nI dm)), (8, .int (nI 1)), (7, .int st), (0, .ref (h 0)), (1, .ref (ka 0)), (2, .ref (ka 1)), (3, .ref (ka 2)), (4, .ref (ka 5)), (5, .ref (ka 6)), (6, .int (nI x))]) hx hb dL_isNet_359 hl (k := 3) rfl (nI_1 c0) (by decide) rfl (fun ls hl => ?_)
                            refine lv_iinc (v := (nI (z + 1))) (lv' := [(15, .int (nI (z + 1))), (14, .int (nI (c0 + 1))), (12, .long hi0), (10, .long (off z)), (9, .int (nI dm)), (8, .int (nI 1)), (7, .int st), (0, .ref (h 0)), (1, .ref (ka 0)), (2, .ref (ka 1)), (3, .ref (ka 2)), (4, .ref (ka 5)), (5, .ref (ka 6)), (6, .int (nI x))]) hx hb dL_isNet_362 hl (k := 3) rfl (nI_1 z) (by decide) rfl (fun ls hl => ?_)
                            refine lv_goto (tgt := 284) hx hb dL_isNet_365 (by decide) ?_
                            exact ih_284 (z + 1) (c0 + 1) hi0 (off z) (by omega) (by omega) (spf_t hinv_z c_300 (Or.inl ⟨Or.inl ((nI_eq (b := 0) (by omega) (by decide)).mp c_305), rfl⟩) (Or.inr ⟨fun h9 => h9.elim (fun h8 => c_333 (congrArg nI h8)) (Int64.not_lt.mpr ((lg_cmp_le _ _).mp c_344)), rfl⟩)) _ _ hG _ (lv_sub hl [0, 1, 2, 3, 4, 5, 6, 7, 8, 9, 10, 11, 12, 13] rfl)
                          · refine lv_aload hx hb dL_isNet_347 (lv_at hl 12 rfl) ?_
                            refine lv_iload hx hb dL_isNet_349 (lv_at hl 1 rfl) ?_
                            refine q_lald hM hG 28 (i := z) rfl (by omega) (by decide) dL_isNet_351 ?_
                            refine q_renl ((hO z hzx).1) ?_
                            refine lv_goto (tgt := 357) hx hb dL_isNet_352 (by decide) ?_
                            refine lv_lstore (lv' := [(12, .long (off z)), (10, .long (off z)), (15, .int (nI z)), (14, .int (nI c0)), (9, .int (nI dm)), (8, .int (nI 1)), (7, .int st), (0, .ref (h 0)), (1, .ref (ka 0)), (2, .ref (ka 1)), (3, .ref (ka 2)), (4, .ref (ka 5)), (5, .ref (ka 6)), (6, .int (nI x))]) hx hb dL_isNet_357 hl (by decide) rfl (fun ls hl => ?_)
                            refine lv_iinc (v := (nI (c0 + 1))) (lv' := [(14, .int (nI (c0 + 1))), (12, .long (off z)), (10, .long (off z)), (15, .int (nI z)), (9, .int (nI dm)), (8, .int (nI 1)), (7, .int st), (0, .ref (h 0)), (1, .ref (ka 0)), (2, .ref (ka 1)), (3, .ref (ka 2)), (4, .ref (ka 5)), (5, .ref (ka 6)), (6, .int (nI x))]) hx hb dL_isNet_359 hl (k := 3) rfl (nI_1 c0) (by decide) rfl (fun ls hl => ?_)
                            refine lv_iinc (v := (nI (z + 1))) (lv' := [(15, .int (nI (z + 1))), (14, .int (nI (c0 + 1))), (12, .long (off z)), (10, .long (off z)), (9, .int (nI dm)), (8, .int (nI 1)), (7, .int st), (0, .ref (h 0)), (1, .ref (ka 0)), (2, .ref (ka 1)), (3, .ref (ka 2)), (4, .ref (ka 5)), (5, .ref (ka 6)), (6, .int (nI x))]) hx hb dL_isNet_362 hl (k := 3) rfl (nI_1 z) (by decide) rfl (fun ls hl => ?_)
                            refine lv_goto (tgt := 284) hx hb dL_isNet_365 (by decide) ?_
                            exact ih_284 (z + 1) (c0 + 1) (off z) (off z) (by omega) (by omega) (spf_t hinv_z c_300 (Or.inl ⟨Or.inl ((nI_eq (b := 0) (by omega) (by decide)).mp c_305), rfl⟩) (Or.inl ⟨Or.inr (Int64.not_le.mp (fun h9 => c_344 ((lg_cmp_le _ _).mpr h9))), rfl⟩)) _ _ hG _ (lv_sub hl [0, 1, 2, 3, 4, 5, 6, 7, 8, 9, 10, 11, 12, 13] rfl)
                      · refine lv_aload hx hb dL_isNet_308 (lv_at hl 12 rfl) ?_
                        refine lv_iload hx hb dL_isNet_310 (lv_at hl 0 rfl) ?_
                        refine q_lald hM hG 28 (i := z) rfl (by omega) (by decide) dL_isNet_312 ?_
                        refine q_renl ((hO z hzx).1) ?_
                        refine lv_lload hx hb dL_isNet_313 (lv_at hl 3 rfl) ?_
                        refine W.lcmp hx hb dL_isNet_315 ?_
                        refine lv_if_ge (tgt := 327) hx hb dL_isNet_316 (by decide) (fun c_316 => ?_) (fun c_316 => ?_)
                        · refine lv_lload hx hb dL_isNet_327 (lv_at hl 3 rfl) ?_
                          refine lv_lstore (lv' := [(10, .long lo0), (15, .int (nI z)), (14, .int (nI c0)), (12, .long hi0), (9, .int (nI dm)), (8, .int (nI 1)), (7, .int st), (0, .ref (h 0)), (1, .ref (ka 0)), (2, .ref (ka 1)), (3, .ref (ka 2)), (4, .ref (ka 5)), (5, .ref (ka 6)), (6, .int (nI x))]) hx hb dL_isNet_329 hl (by decide) rfl (fun ls hl => ?_)
                          refine lv_iload hx hb dL_isNet_331 (lv_at hl 2 rfl) ?_
                          refine lv_if_eq (tgt := 347) hx hb dL_isNet_333 (by decide) (fun c_333 => ?_) (fun c_333 => ?_)
                          · refine lv_aload hx hb dL_isNet_347 (lv_at hl 12 rfl) ?_
                            refine lv_iload hx hb dL_isNet_349 (lv_at hl 1 rfl) ?_
                            refine q_lald hM hG 28 (i := z) rfl (by omega) (by decide) dL_isNet_351 ?_
                            refine q_renl ((hO z hzx).1) ?_
                            refine lv_goto (tgt := 357) hx hb dL_isNet_352 (by decide) ?_
                            refine lv_lstore (lv' := [(12, .long (off z)), (10, .long lo0), (15, .int (nI z)), (14, .int (nI c0)), (9, .int (nI dm)), (8, .int (nI 1)), (7, .int st), (0, .ref (h 0)), (1, .ref (ka 0)), (2, .ref (ka 1)), (3, .ref (ka 2)), (4, .ref (ka 5)), (5, .ref (ka 6)), (6, .int (nI x))]) hx hb dL_isNet_357 hl (by decide) rfl (fun ls hl => ?_)
                            refine lv_iinc (v := (nI (c0 + 1))) (lv' := [(14, .int (nI (c0 + 1))), (12, .long (off z)), (10, .long lo0), (15, .int (nI z)), (9, .int (nI dm)), (8, .int (nI 1)), (7, .int st), (0, .ref (h 0)), (1, .ref (ka 0)), (2, .ref (ka 1)), (3, .ref (ka 2)), (4, .ref (ka 5)), (5, .ref (ka 6)), (6, .int (nI x))]) hx hb dL_isNet_359 hl (k := 3) rfl (nI_1 c0) (by decide) rfl (fun ls hl => ?_)
                            refine lv_iinc (v := (nI (z + 1))) (lv' := [(15, .int (nI (z + 1))), (14, .int (nI (c0 + 1))), (12, .long (off z)), (10, .long lo0), (9, .int (nI dm)), (8, .int (nI 1)), (7, .int st), (0, .ref (h 0)), (1, .ref (ka 0)), (2, .ref (ka 1)), (3, .ref (ka 2)), (4, .ref (ka 5)), (5, .ref (ka 6)), (6, .int (nI x))]) hx hb dL_isNet_362 hl (k := 3) rfl (nI_1 z) (by decide) rfl (fun ls hl => ?_)
                            refine lv_goto (tgt := 284) hx hb dL_isNet_365 (by decide) ?_
                            exact ih_284 (z + 1) (c0 + 1) (off z) lo0 (by omega) (by omega) (spf_t hinv_z c_300 (Or.inr ⟨fun h9 => h9.elim (fun h8 => c_305 (congrArg nI h8)) (Int64.not_lt.mpr ((lg_cmp_ge _ _).mp c_316)), rfl⟩) (Or.inl ⟨Or.inl ((nI_eq (b := 0) (by omega) (by decide)).mp c_333), rfl⟩)) _ _ hG _ (lv_sub hl [0, 1, 2, 3, 4, 5, 6, 7, 8, 9, 10, 11, 12, 13] rfl)
                          · refine lv_aload hx hb dL_isNet_336 (lv_at hl 12 rfl) ?_
                            refine lv_iload hx hb dL_isNet_338 (lv_at hl 1 rfl) ?_
                            refine q_lald hM hG 28 (i := z) rfl (by omega) (by decide) dL_isNet_340 ?_
                            refine q_renl ((hO z hzx).1) ?_
                            refine lv_lload hx hb dL_isNet_341 (lv_at hl 3 rfl) ?_
                            refine W.lcmp hx hb dL_isNet_343 ?_
                            refine lv_if_le (tgt := 355) hx hb dL_isNet_344 (by decide) (fun c_344 => ?_) (fun c_344 => ?_)
                            · refine lv_lload hx hb dL_isNet_355 (lv_at hl 3 rfl) ?_
                              refine lv_lstore (lv' := [(12, .long hi0), (10, .long lo0), (15, .int (nI z)), (14, .int (nI c0)), (9, .int (nI dm)), (8, .int (nI 1)), (7, .int st), (0, .ref (h 0)), (1, .ref (ka 0)), (2, .ref (ka 1)), (3, .ref (ka 2)), (4, .ref (ka 5)), (5, .ref (ka 6)), (6, .int (nI x))]) hx hb dL_isNet_357 hl (by decide) rfl (fun ls hl => ?_)
                              refine lv_iinc (v := (nI (c0 + 1))) (lv' := [(14, .int (nI (c0 + 1))), (12, .long hi0), (10, .long lo0), (15, .int (nI z)), (9, .int (nI dm)), (8, .int (nI 1)), (7, .int st), (0, .ref (h 0)), (1, .ref (ka 0)), (2, .ref (ka 1)), (3, .ref (ka 2)), (4, .ref (ka 5)), (5, .ref (ka 6)), (6, .int (nI x))]) hx hb dL_isNet_359 hl (k := 3) rfl (nI_1 c0) (by decide) rfl (fun ls hl => ?_)
                              refine lv_iinc (v := (nI (z + 1))) (lv' := [(15, .int (nI (z + 1))), (14, .int (nI (c0 + 1))), (12, .long hi0), (10, .long lo0), (9, .int (nI dm)), (8, .int (nI 1)), (7, .int st), (0, .ref (h 0)), (1, .ref (ka 0)), (2, .ref (ka 1)), (3, .ref (ka 2)), (4, .ref (ka 5)), (5, .ref (ka 6)), (6, .int (nI x))]) hx hb dL_isNet_362 hl (k := 3) rfl (nI_1 z) (by decide) rfl (fun ls hl => ?_)
                              refine lv_goto (tgt := 284) hx hb dL_isNet_365 (by decide) ?_
                              exact ih_284 (z + 1) (c0 + 1) hi0 lo0 (by omega) (by omega) (spf_t hinv_z c_300 (Or.inr ⟨fun h9 => h9.elim (fun h8 => c_305 (congrArg nI h8)) (Int64.not_lt.mpr ((lg_cmp_ge _ _).mp c_316)), rfl⟩) (Or.inr ⟨fun h9 => h9.elim (fun h8 => c_333 (congrArg nI h8)) (Int64.not_lt.mpr ((lg_cmp_le _ _).mp c_344)), rfl⟩)) _ _ hG _ (lv_sub hl [0, 1, 2, 3, 4, 5, 6, 7, 8, 9, 10, 11, 12, 13] rfl)
                            · refine lv_aload hx hb dL_isNet_347 (lv_at hl 12 rfl) ?_
                              refine lv_iload hx hb dL_isNet_349 (lv_at hl 1 rfl) ?_
                              refine q_lald hM hG 28 (i := z) rfl (by omega) (by decide) dL_isNet_351 ?_
                              refine q_renl ((hO z hzx).1) ?_
                              refine lv_goto (tgt := 357) hx hb dL_isNet_352 (by decide) ?_
                              refine lv_lstore (lv' := [(12, .long (off z)), (10, .long lo0), (15, .int (nI z)), (14, .int (nI c0)), (9, .int (nI dm)), (8, .int (nI 1)), (7, .int st), (0, .ref (h 0)), (1, .ref (ka 0)), (2, .ref (ka 1)), (3, .ref (ka 2)), (4, .ref (ka 5)), (5, .ref (ka 6)), (6, .int (nI x))]) hx hb dL_isNet_357 hl (by decide) rfl (fun ls hl => ?_)
                              refine lv_iinc (v := (nI (c0 + 1))) (lv' := [(14, .int (nI (c0 + 1))), (12, .long (off z)), (10, .long lo0), (15, .int (nI z)), (9, .int (nI dm)), (8, .int (nI 1)), (7, .int st), (0, .ref (h 0)), (1, .ref (ka 0)), (2, .ref (ka 1)), (3, .ref (ka 2)), (4, .ref (ka 5)), (5, .ref (ka 6)), (6, .int (nI x))]) hx hb dL_isNet_359 hl (k := 3) rfl (nI_1 c0) (by decide) rfl (fun ls hl => ?_)
                              refine lv_iinc (v := (nI (z + 1))) (lv' := [(15, .int (nI (z + 1))), (14, .int (nI (c0 + 1))), (12, .long (off z)), (10, .long lo0), (9, .int (nI dm)), (8, .int (nI 1)), (7, .int st), (0, .ref (h 0)), (1, .ref (ka 0)), (2, .ref (ka 1)), (3, .ref (ka 2)), (4, .ref (ka 5)), (5, .ref (ka 6)), (6, .int (nI x))]) hx hb dL_isNet_362 hl (k := 3) rfl (nI_1 z) (by decide) rfl (fun ls hl => ?_)
                              refine lv_goto (tgt := 284) hx hb dL_isNet_365 (by decide) ?_
                              exact ih_284 (z + 1) (c0 + 1) (off z) lo0 (by omega) (by omega) (spf_t hinv_z c_300 (Or.inr ⟨fun h9 => h9.elim (fun h8 => c_305 (congrArg nI h8)) (Int64.not_lt.mpr ((lg_cmp_ge _ _).mp c_316)), rfl⟩) (Or.inl ⟨Or.inr (Int64.not_le.mp (fun h9 => c_344 ((lg_cmp_le _ _).mpr h9))), rfl⟩)) _ _ hG _ (lv_sub hl [0, 1, 2, 3, 4, 5, 6, 7, 8, 9, 10, 11, 12, 13] rfl)
                        · refine lv_aload hx hb dL_isNet_319 (lv_at hl 12 rfl) ?_
                          refine lv_iload hx hb dL_isNet_321 (lv_at hl 0 rfl) ?_
                          refine q_lald hM hG 28 (i := z) rfl (by omega) (by decide) dL_isNet_323 ?_
                          refine q_renl ((hO z hzx).1) ?_
                          refine lv_goto (tgt := 329) hx hb dL_isNet_324 (by decide) ?_
                          refine lv_lstore (lv' := [(10, .long (off z)), (15, .int (nI z)), (14, .int (nI c0)), (12, .long hi0), (9, .int (nI dm)), (8, .int (nI 1)), (7, .int st), (0, .ref (h 0)), (1, .ref (ka 0)), (2, .ref (ka 1)), (3, .ref (ka 2)), (4, .ref (ka 5)), (5, .ref (ka 6)), (6, .int (nI x))]) hx hb dL_isNet_329 hl (by decide) rfl (fun ls hl => ?_)
                          refine lv_iload hx hb dL_isNet_331 (lv_at hl 2 rfl) ?_
                          refine lv_if_eq (tgt := 347) hx hb dL_isNet_333 (by decide) (fun c_333 => ?_) (fun c_333 => ?_)
                          · refine lv_aload hx hb dL_isNet_347 (lv_at hl 12 rfl) ?_
                            refine lv_iload hx hb dL_isNet_349 (lv_at hl 1 rfl) ?_
                            refine q_lald hM hG 28 (i := z) rfl (by omega) (by decide) dL_isNet_351 ?_
                            refine q_renl ((hO z hzx).1) ?_
                            refine lv_goto (tgt := 357) hx hb dL_isNet_352 (by decide) ?_
                            refine lv_lstore (lv' := [(12, .long (off z)), (10, .long (off z)), (15, .int (nI z)), (14, .int (nI c0)), (9, .int (nI dm)), (8, .int (nI 1)), (7, .int st), (0, .ref (h 0)), (1, .ref (ka 0)), (2, .ref (ka 1)), (3, .ref (ka 2)), (4, .ref (ka 5)), (5, .ref (ka 6)), (6, .int (nI x))]) hx hb dL_isNet_357 hl (by decide) rfl (fun ls hl => ?_)
                            refine lv_iinc (v := (nI (c0 + 1))) (lv' := [(14, .int (nI (c0 + 1))), (12, .long (off z)), (10, .long (off z)), (15, .int (nI z)), (9, .int (nI dm)), (8, .int (nI 1)), (7, .int st), (0, .ref (h 0)), (1, .ref (ka 0)), (2, .ref (ka 1)), (3, .ref (ka 2)), (4, .ref (ka 5)), (5, .ref (ka 6)), (6, .int (nI x))]) hx hb dL_isNet_359 hl (k := 3) rfl (nI_1 c0) (by decide) rfl (fun ls hl => ?_)
                            refine lv_iinc (v := (nI (z + 1))) (lv' := [(15, .int (nI (z + 1))), (14, .int (nI (c0 + 1))), (12, .long (off z)), (10, .long (off z)), (9, .int (nI dm)), (8, .int (nI 1)), (7, .int st), (0, .ref (h 0)), (1, .ref (ka 0)), (2, .ref (ka 1)), (3, .ref (ka 2)), (4, .ref (ka 5)), (5, .ref (ka 6)), (6, .int (nI x))]) hx hb dL_isNet_362 hl (k := 3) rfl (nI_1 z) (by decide) rfl (fun ls hl => ?_)
                            refine lv_goto (tgt := 284) hx hb dL_isNet_365 (by decide) ?_
                            exact ih_284 (z + 1) (c0 + 1) (off z) (off z) (by omega) (by omega) (spf_t hinv_z c_300 (Or.inl ⟨Or.inr (Int64.not_le.mp (fun h9 => c_316 ((lg_cmp_ge _ _).mpr h9))), rfl⟩) (Or.inl ⟨Or.inl ((nI_eq (b := 0) (by omega) (by decide)).mp c_333), rfl⟩)) _ _ hG _ (lv_sub hl [0, 1, 2, 3, 4, 5, 6, 7, 8, 9, 10, 11, 12, 13] rfl)
                          · refine lv_aload hx hb dL_isNet_336 (lv_at hl 12 rfl) ?_
                            refine lv_iload hx hb dL_isNet_338 (lv_at hl 1 rfl) ?_
                            refine q_lald hM hG 28 (i := z) rfl (by omega) (by decide) dL_isNet_340 ?_
                            refine q_renl ((hO z hzx).1) ?_
                            refine lv_lload hx hb dL_isNet_341 (lv_at hl 3 rfl) ?_
                            refine W.lcmp hx hb dL_isNet_343 ?_
                            refine lv_if_le (tgt := 355) hx hb dL_isNet_344 (by decide) (fun c_344 => ?_) (fun c_344 => ?_)
                            · refine lv_lload hx hb dL_isNet_355 (lv_at hl 3 rfl) ?_
                              refine lv_lstore (lv' := [(12, .long hi0), (10, .long (off z)), (15, .int (nI z)), (14, .int (nI c0)), (9, .int (nI dm)), (8, .int (nI 1)), (7, .int st), (0, .ref (h 0)), (1, .ref (ka 0)), (2, .ref (ka 1)), (3, .ref (ka 2)), (4, .ref (ka 5)), (5, .ref (ka 6)), (6, .int (nI x))]) hx hb dL_isNet_357 hl (by decide) rfl (fun ls hl => ?_)
                              refine lv_iinc (v := (nI (c0 + 1))) (lv' := [(14, .int (nI (c0 + 1))), (12, .long hi0), (10, .long (off z)), (15, .int (nI z)), (9, .int (nI dm)), (8, .int (nI 1)), (7, .int st), (0, .ref (h 0)), (1, .ref (ka 0)), (2, .ref (ka 1)), (3, .ref (ka 2)), (4, .ref (ka 5)), (5, .ref (ka 6)), (6, .int (nI x))]) hx hb dL_isNet_359 hl (k := 3) rfl (nI_1 c0) (by decide) rfl (fun ls hl => ?_)
                              refine lv_iinc (v := (nI (z + 1))) (lv' := [(15, .int (nI (z + 1))), (14, .int (nI (c0 + 1))), (12, .long hi0), (10, .long (off z)), (9, .int (nI dm)), (8, .int (nI 1)), (7, .int st), (0, .ref (h 0)), (1, .ref (ka 0)), (2, .ref (ka 1)), (3, .ref (ka 2)), (4, .ref (ka 5)), (5, .ref (ka 6)), (6, .int (nI x))]) hx hb dL_isNet_362 hl (k := 3) rfl (nI_1 z) (by decide) rfl (fun ls hl => ?_)
                              refine lv_goto (tgt := 284) hx hb dL_isNet_365 (by decide) ?_
                              exact ih_284 (z + 1) (c0 + 1) hi0 (off z) (by omega) (by omega) (spf_t hinv_z c_300 (Or.inl ⟨Or.inr (Int64.not_le.mp (fun h9 => c_316 ((lg_cmp_ge _ _).mpr h9))), rfl⟩) (Or.inr ⟨fun h9 => h9.elim (fun h8 => c_333 (congrArg nI h8)) (Int64.not_lt.mpr ((lg_cmp_le _ _).mp c_344)), rfl⟩)) _ _ hG _ (lv_sub hl [0, 1, 2, 3, 4, 5, 6, 7, 8, 9, 10, 11, 12, 13] rfl)
                            · refine lv_aload hx hb dL_isNet_347 (lv_at hl 12 rfl) ?_
                              refine lv_iload hx hb dL_isNet_349 (lv_at hl 1 rfl) ?_
                              refine q_lald hM hG 28 (i := z) rfl (by omega) (by decide) dL_isNet_351 ?_
                              refine q_renl ((hO z hzx).1) ?_
                              refine lv_goto (tgt := 357) hx hb dL_isNet_352 (by decide) ?_
                              refine lv_lstore (lv' := [(12, .long (off z)), (10, .long (off z)), (15, .int (nI z)), (14, .int (nI c0)), (9, .int (nI dm)), (8, .int (nI 1)), (7, .int st), (0, .ref (h 0)), (1, .ref (ka 0)), (2, .ref (ka 1)), (3, .ref (ka 2)), (4, .ref (ka 5)), (5, .ref (ka 6)), (6, .int (nI x))]) hx hb dL_isNet_357 hl (by decide) rfl (fun ls hl => ?_)
                              refine lv_iinc (v := (nI (c0 + 1))) (lv' := [(14, .int (nI (c0 + 1))), (12, .long (off z)), (10, .long (off z)), (15, .int (nI z)), (9, .int (nI dm)), (8, .int (nI 1)), (7, .int st), (0, .ref (h 0)), (1, .ref (ka 0)), (2, .ref (ka 1)), (3, .ref (ka 2)), (4, .ref (ka 5)), (5, .ref (ka 6)), (6, .int (nI x))]) hx hb dL_isNet_359 hl (k := 3) rfl (nI_1 c0) (by decide) rfl (fun ls hl => ?_)
                              refine lv_iinc (v := (nI (z + 1))) (lv' := [(15, .int (nI (z + 1))), (14, .int (nI (c0 + 1))), (12, .long (off z)), (10, .long (off z)), (9, .int (nI dm)), (8, .int (nI 1)), (7, .int st), (0, .ref (h 0)), (1, .ref (ka 0)), (2, .ref (ka 1)), (3, .ref (ka 2)), (4, .ref (ka 5)), (5, .ref (ka 6)), (6, .int (nI x))]) hx hb dL_isNet_362 hl (k := 3) rfl (nI_1 z) (by decide) rfl (fun ls hl => ?_)
                              refine lv_goto (tgt := 284) hx hb dL_isNet_365 (by decide) ?_
                              exact ih_284 (z + 1) (c0 + 1) (off z) (off z) (by omega) (by omega) (spf_t hinv_z c_300 (Or.inl ⟨Or.inr (Int64.not_le.mp (fun h9 => c_316 ((lg_cmp_ge _ _).mpr h9))), rfl⟩) (Or.inl ⟨Or.inr (Int64.not_le.mp (fun h9 => c_344 ((lg_cmp_le _ _).mpr h9))), rfl⟩)) _ _ hG _ (lv_sub hl [0, 1, 2, 3, 4, 5, 6, 7, 8, 9, 10, 11, 12, 13] rfl)
              exact loop_284 (N + 1) 0 0 (lN 0) (lN 0) (by omega) (by omega) rfl _ _ hG _ (lv_sub hl [0, 1, 2, 3, 4, 5, 6, 7, 8, 9, 10, 11, 12, 13] rfl)
        exact loop_261 (2 + 1) 0  (by omega) (by omega) trivial _ _ hG _ (lv_sub hl [0, 1, 2, 3, 4, 5, 6, 7, 8, 9] rfl)
      · have hi : i < N := ctr_lt (by omega) (by omega) c_38
        have hix : i < 10 := by omega
        have hN0 : 0 < N := by omega
        have hmx : (i + x) % N < N := Nat.mod_lt _ hN0
        obtain ⟨r1, s1, q1, a11, a12, a13, a14, a15, a16, a17, a18, a19⟩ := id (hK i hi)
        refine lv_iload hx hb dL_isNet_41 (lv_at hl 1 rfl) ?_
        refine lv_if_eq (tgt := 258) hx hb dL_isNet_43 (by decide) (fun c9 => False.elim (by revert c9; decide)) (fun _ => ?_)
        refine lv_aload_n hx hb dL_isNet_46 rfl (lv_at hl 4 rfl) ?_
        refine lv_aload_n hx hb dL_isNet_47 rfl (lv_at hl 5 rfl) ?_
        refine lv_aload_n hx hb dL_isNet_48 rfl (lv_at hl 6 rfl) ?_
        refine lv_iload hx hb dL_isNet_49 (lv_at hl 0 rfl) ?_
        refine q_fSi (FR.r (cNet g h N tk dom gr va dr off rt cnt lk dl td K E f1)) (n := 4) (As := [.ref (ka 0), .ref (ka 1), .ref (ka 2), .int (nI i)]) (rest := []) hM hl.1 hG (c_L_best l g ka nn aa ll yy tt kk oo N dom gr va dr lk i hi hn0 hN hA hB hg) rfl gL_isNet_L_best (by decide +kernel) ⟨Nat.le_of_ble_eq_true rfl, Nat.le_of_ble_eq_true rfl⟩ rfl rfl (Nat.le_of_ble_eq_true rfl) dL_isNet_51 (c1 := 0) (s1 := 0) rfl rfl ⟨Nat.le_of_ble_eq_true rfl, Nat.le_of_ble_eq_true rfl⟩ (fun r_51 u_51 H locs hp_51 hG => ?_)
        have hG : cC g ((cNet g h N tk dom gr va dr off rt cnt lk dl td K E f1) ++ (lNet g ka nn aa ll yy tt kk oo)) A s H locs := hG
        obtain ⟨rfl, hb_51⟩ := hp_51
        refine lv_istore (lv' := [(10, .int (nI u_51)), (9, .int (nI i)), (8, .int (nI 1)), (7, .int st), (0, .ref (h 0)), (1, .ref (ka 0)), (2, .ref (ka 1)), (3, .ref (ka 2)), (4, .ref (ka 5)), (5, .ref (ka 6)), (6, .int (nI x))]) hx hb dL_isNet_54 hl (by decide) rfl (fun ls hl => ?_)
        refine lv_aload_n hx hb dL_isNet_56 rfl (lv_at hl 5 rfl) ?_
        refine lv_aload_n hx hb dL_isNet_57 rfl (lv_at hl 6 rfl) ?_
        refine lv_aload_n hx hb dL_isNet_58 rfl (lv_at hl 7 rfl) ?_
        refine lv_iload hx hb dL_isNet_59 (lv_at hl 1 rfl) ?_
        refine lv_iload hx hb dL_isNet_61 (lv_at hl 0 rfl) ?_
        refine q_fSi (FR.r (cNet g h N tk dom gr va dr off rt cnt lk dl td K E f1)) (n := 5) (As := [.ref (ka 0), .ref (ka 1), .ref (ka 2), .int (nI i), .int (nI u_51)]) (rest := []) hM hl.1 hG (c_L_far l g ka nn aa ll yy tt kk oo N dom gr va dr lk i u_51 hi hb_51.1 (fr_in hb_51.2.1) hn0 hN hA hB) rfl gL_isNet_L_far (by decide +kernel) ⟨Nat.le_of_ble_eq_true rfl, Nat.le_of_ble_eq_true rfl⟩ rfl rfl (Nat.le_of_ble_eq_true rfl) dL_isNet_63 (c1 := 0) (s1 := 0) rfl rfl ⟨Nat.le_of_ble_eq_true rfl, Nat.le_of_ble_eq_true rfl⟩ (fun r_63 u_63 H locs hp_63 hG => ?_)
        have hG : cC g ((cNet g h N tk dom gr va dr off rt cnt lk dl td K E f1) ++ (lNet g ka nn aa ll yy tt kk oo)) A s H locs := hG
        obtain ⟨rfl, h9_63, hr_63, hm_63⟩ := hp_63
        refine lv_istore (lv' := [(11, .int (nI u_63)), (10, .int (nI u_51)), (9, .int (nI i)), (8, .int (nI 1)), (7, .int st), (0, .ref (h 0)), (1, .ref (ka 0)), (2, .ref (ka 1)), (3, .ref (ka 2)), (4, .ref (ka 5)), (5, .ref (ka 6)), (6, .int (nI x))]) hx hb dL_isNet_66 hl (by decide) rfl (fun ls hl => ?_)
        refine lv_iload hx hb dL_isNet_68 (lv_at hl 2 rfl) ?_
        refine lv_iload hx hb dL_isNet_70 (lv_at hl 11 rfl) ?_
        refine lv_iadd hx hb dL_isNet_72 ?_
        refine q_ren (nI_add i x) ?_
        refine lv_aload_n hx hb dL_isNet_73 rfl (lv_at hl 6 rfl) ?_
        refine lv_iconst (v := nI 0) hx hb dL_isNet_74 (by decide) ?_
        refine q_iald hM hG 22 (i := 0) rfl (by decide) (by decide) dL_isNet_75 ?_
        refine q_ren hn0 ?_
        refine lv_irem hx hb dL_isNet_76 (nI_ne0 hN0 (by omega)) ?_
        refine q_ren (pk_rem (a := i + x) (by omega) hN0 (by omega)) ?_
        refine lv_istore (lv' := [(12, .int (nI ((i + x) % N))), (11, .int (nI u_63)), (10, .int (nI u_51)), (9, .int (nI i)), (8, .int (nI 1)), (7, .int st), (0, .ref (h 0)), (1, .ref (ka 0)), (2, .ref (ka 1)), (3, .ref (ka 2)), (4, .ref (ka 5)), (5, .ref (ka 6)), (6, .int (nI x))]) hx hb dL_isNet_77 hl (by decide) rfl (fun ls hl => ?_)
        refine lv_aload_n hx hb dL_isNet_79 rfl (lv_at hl 6 rfl) ?_
        refine lv_iload hx hb dL_isNet_80 (lv_at hl 3 rfl) ?_
        refine q_fVi (FR.l (lNet g ka nn aa ll yy tt kk oo)) (n := 1) (As := [.int (nI i)]) (rest := []) hM hl.1 hG (c_X2_bestK l g h N tk dom gr va dr off rt cnt lk dl td K E f1 (nI i) hN ⟨i, hi, rfl⟩) rfl gL_isNet_X2_best (by decide +kernel) ⟨Nat.le_of_ble_eq_true rfl, Nat.le_of_ble_eq_true rfl⟩ 0 rfl rfl rfl rfl rfl (Nat.le_of_ble_eq_true rfl) dL_isNet_82 (c1 := 0) (s1 := 0) rfl rfl ⟨Nat.le_of_ble_eq_true rfl, Nat.le_of_ble_eq_true rfl⟩ (fun r_82 u_82 H locs hp_82 hG => ?_)
        have hG : cC g ((cNet g h N tk dom gr va dr off rt cnt lk dl td K E f1) ++ (lNet g ka nn aa ll yy tt kk oo)) A s H locs := hG
        obtain ⟨i9, hi9, e9, er9⟩ := hp_82
        obtain rfl : i = i9 := (nI_eq (by omega) (by omega)).mp e9
        refine q_ren (er9.trans a15) ?_
        refine lv_aload hx hb dL_isNet_85 (lv_at hl 10 rfl) ?_
        refine lv_iload hx hb dL_isNet_87 (lv_at hl 3 rfl) ?_
        refine q_lald hM hG 27 (i := i) rfl (by omega) (by decide) dL_isNet_89 ?_
        refine q_renl a19 ?_
        refine q_fSi (FR.n ((cNet g h N tk dom gr va dr off rt cnt lk dl td K E f1) ++ (lNet g ka nn aa ll yy tt kk oo))) (n := 1) (As := [.long (lN (r1 * 110 + s1 * 11 + q1))]) (rest := [.int (nI (r1 % 10))]) hM hl.1 hG (c_L_clock l g  (r1 * 110 + s1 * 11 + q1) (by omega) ) rfl gL_isNet_L_clock (by decide +kernel) ⟨Nat.le_of_ble_eq_true rfl, Nat.le_of_ble_eq_true rfl⟩ rfl rfl (Nat.le_of_ble_eq_true rfl) dL_isNet_90 (c1 := 0) (s1 := 0) rfl rfl ⟨Nat.le_of_ble_eq_true rfl, Nat.le_of_ble_eq_true rfl⟩ (fun r_90 u_90 H locs hp_90 hG => ?_)
        have hG : cC g ((cNet g h N tk dom gr va dr off rt cnt lk dl td K E f1) ++ (lNet g ka nn aa ll yy tt kk oo)) A s H locs := hG
        subst hp_90
        refine q_ren (show nI ((r1 * 110 + s1 * 11 + q1) / 110 % 10) = (nI (r1 % 10)) from congrArg nI (by omega)) ?_
        refine lv_icmp_ne (tgt := 211) hx hb dL_isNet_93 (by decide) (fun c9 => absurd rfl c9) (fun _ => ?_)
        refine lv_aload_n hx hb dL_isNet_96 rfl (lv_at hl 6 rfl) ?_
        refine lv_iload hx hb dL_isNet_97 (lv_at hl 3 rfl) ?_
        refine q_fVi (FR.l (lNet g ka nn aa ll yy tt kk oo)) (n := 1) (As := [.int (nI i)]) (rest := []) hM hl.1 hG (c_X2_stepsK l g h N tk dom gr va dr off rt cnt lk dl td K E f1 (nI i) hN ⟨i, hi, rfl⟩) rfl gL_isNet_X2_steps (by decide +kernel) ⟨Nat.le_of_ble_eq_true rfl, Nat.le_of_ble_eq_true rfl⟩ 0 rfl rfl rfl rfl rfl (Nat.le_of_ble_eq_true rfl) dL_isNet_99 (c1 := 0) (s1 := 0) rfl rfl ⟨Nat.le_of_ble_eq_true rfl, Nat.le_of_ble_eq_true rfl⟩ (fun r_99 u_99 H locs hp_99 hG => ?_)
        have hG : cC g ((cNet g h N tk dom gr va dr off rt cnt lk dl td K E f1) ++ (lNet g ka nn aa ll yy tt kk oo)) A s H locs := hG
        obtain ⟨i9, hi9, e9, er9⟩ := hp_99
        obtain rfl : i = i9 := (nI_eq (by omega) (by omega)).mp e9
        refine q_ren (er9.trans a17) ?_
        refine lv_aload hx hb dL_isNet_102 (lv_at hl 10 rfl) ?_
        refine lv_iload hx hb dL_isNet_104 (lv_at hl 3 rfl) ?_
        refine q_lald hM hG 27 (i := i) rfl (by omega) (by decide) dL_isNet_106 ?_
        refine q_renl a19 ?_
        refine q_fSi (FR.n ((cNet g h N tk dom gr va dr off rt cnt lk dl td K E f1) ++ (lNet g ka nn aa ll yy tt kk oo))) (n := 1) (As := [.long (lN (r1 * 110 + s1 * 11 + q1))]) (rest := [.int (nI s1)]) hM hl.1 hG (c_L_steps l g  (r1 * 110 + s1 * 11 + q1) (by omega) ) rfl gL_isNet_L_steps (by decide +kernel) ⟨Nat.le_of_ble_eq_true rfl, Nat.le_of_ble_eq_true rfl⟩ rfl rfl (Nat.le_of_ble_eq_true rfl) dL_isNet_107 (c1 := 0) (s1 := 0) rfl rfl ⟨Nat.le_of_ble_eq_true rfl, Nat.le_of_ble_eq_true rfl⟩ (fun r_107 u_107 H locs hp_107 hG => ?_)
        have hG : cC g ((cNet g h N tk dom gr va dr off rt cnt lk dl td K E f1) ++ (lNet g ka nn aa ll yy tt kk oo)) A s H locs := hG
        subst hp_107
        refine q_ren (show nI ((r1 * 110 + s1 * 11 + q1) / 11 % 10) = (nI s1) from congrArg nI (by omega)) ?_
        refine lv_icmp_ne (tgt := 211) hx hb dL_isNet_110 (by decide) (fun c9 => absurd rfl c9) (fun _ => ?_)
        refine lv_aload_n hx hb dL_isNet_113 rfl (lv_at hl 6 rfl) ?_
        refine lv_iload hx hb dL_isNet_114 (lv_at hl 3 rfl) ?_
        refine q_fVi (FR.l (lNet g ka nn aa ll yy tt kk oo)) (n := 1) (As := [.int (nI i)]) (rest := []) hM hl.1 hG (c_X2_parentK l g h N tk dom gr va dr off rt cnt lk dl td K E f1 (nI i) hN ⟨i, hi, rfl⟩) rfl gL_isNet_X2_parent (by decide +kernel) ⟨Nat.le_of_ble_eq_true rfl, Nat.le_of_ble_eq_true rfl⟩ 0 rfl rfl rfl rfl rfl (Nat.le_of_ble_eq_true rfl) dL_isNet_116 (c1 := 0) (s1 := 0) rfl rfl ⟨Nat.le_of_ble_eq_true rfl, Nat.le_of_ble_eq_true rfl⟩ (fun r_116 u_116 H locs hp_116 hG => ?_)
        have hG : cC g ((cNet g h N tk dom gr va dr off rt cnt lk dl td K E f1) ++ (lNet g ka nn aa ll yy tt kk oo)) A s H locs := hG
        obtain ⟨i9, hi9, e9, er9⟩ := hp_116
        obtain rfl : i = i9 := (nI_eq (by omega) (by omega)).mp e9
        refine q_ren (er9.trans a18) ?_
        refine lv_aload hx hb dL_isNet_119 (lv_at hl 10 rfl) ?_
        refine lv_iload hx hb dL_isNet_121 (lv_at hl 3 rfl) ?_
        refine q_lald hM hG 27 (i := i) rfl (by omega) (by decide) dL_isNet_123 ?_
        refine q_renl a19 ?_
        refine q_fSi (FR.n ((cNet g h N tk dom gr va dr off rt cnt lk dl td K E f1) ++ (lNet g ka nn aa ll yy tt kk oo))) (n := 1) (As := [.long (lN (r1 * 110 + s1 * 11 + q1))]) (rest := [.int (nI q1 - 1)]) hM hl.1 hG (c_L_parent l g  (r1 * 110 + s1 * 11 + q1) (by omega) ) rfl gL_isNet_L_parent (by decide +kernel) ⟨Nat.le_of_ble_eq_true rfl, Nat.le_of_ble_eq_true rfl⟩ rfl rfl (Nat.le_of_ble_eq_true rfl) dL_isNet_124 (c1 := 0) (s1 := 0) rfl rfl ⟨Nat.le_of_ble_eq_true rfl, Nat.le_of_ble_eq_true rfl⟩ (fun r_124 u_124 H locs hp_124 hG => ?_)
        have hG : cC g ((cNet g h N tk dom gr va dr off rt cnt lk dl td K E f1) ++ (lNet g ka nn aa ll yy tt kk oo)) A s H locs := hG
        subst hp_124
        refine q_ren (show nI ((r1 * 110 + s1 * 11 + q1) % 11) - 1 = (nI q1 - 1) from by rw [show (r1 * 110 + s1 * 11 + q1) % 11 = q1 by omega]) ?_
        refine lv_icmp_ne (tgt := 211) hx hb dL_isNet_127 (by decide) (fun c9 => absurd rfl c9) (fun _ => ?_)
        refine lv_aload_n hx hb dL_isNet_130 rfl (lv_at hl 6 rfl) ?_
        refine lv_iload hx hb dL_isNet_131 (lv_at hl 3 rfl) ?_
        refine q_fVi (FR.l (lNet g ka nn aa ll yy tt kk oo)) (n := 1) (As := [.int (nI i)]) (rest := []) hM hl.1 hG (c_X2_bestByGraphK l g h N tk dom gr va dr off rt cnt lk dl td K E f1 (nI i) hN hlk hg ⟨i, hi, rfl⟩) rfl gL_isNet_X2_bestByGraph (by decide +kernel) ⟨Nat.le_of_ble_eq_true rfl, Nat.le_of_ble_eq_true rfl⟩ 0 rfl rfl rfl rfl rfl (Nat.le_of_ble_eq_true rfl) dL_isNet_133 (c1 := 0) (s1 := 0) rfl rfl ⟨Nat.le_of_ble_eq_true rfl, Nat.le_of_ble_eq_true rfl⟩ (fun r_133 u_133 H locs hp_133 hG => ?_)
        have hG : cC g ((cNet g h N tk dom gr va dr off rt cnt lk dl td K E u_133) ++ (lNet g ka nn aa ll yy tt kk oo)) A s H locs := hG
        obtain ⟨i9, hi9, e9, w9, d9, hbb, er9⟩ := hp_133
        obtain rfl : i = i9 := (nI_eq (by omega) (by omega)).mp e9
        have hbf := best_far hN hb_51 hr_63 hm_63 hg hbb
        refine q_ren (er9.trans (congrArg nI hbf.1)) ?_
        have hbs : bestBy N dom lk gr va i u_51 (nI u_63) := by rw [hbf.1, hbf.2] at hbb; exact hbb
        refine lv_iload hx hb dL_isNet_136 (lv_at hl 2 rfl) ?_
        refine lv_icmp_ne (tgt := 211) hx hb dL_isNet_138 (by decide) (fun c9 => absurd rfl c9) (fun _ => ?_)
        refine lv_aload_n hx hb dL_isNet_141 rfl (lv_at hl 6 rfl) ?_
        refine lv_iload hx hb dL_isNet_142 (lv_at hl 3 rfl) ?_
        refine q_fVi (FR.l (lNet g ka nn aa ll yy tt kk oo)) (n := 1) (As := [.int (nI i)]) (rest := []) hM hl.1 hG (c_X2_stepsByGraphK l g h N tk dom gr va dr off rt cnt lk dl td K E u_133 (nI i) hN hlk hg ⟨i, hi, rfl⟩) rfl gL_isNet_X2_stepsByGraph (by decide +kernel) ⟨Nat.le_of_ble_eq_true rfl, Nat.le_of_ble_eq_true rfl⟩ 0 rfl rfl rfl rfl rfl (Nat.le_of_ble_eq_true rfl) dL_isNet_144 (c1 := 0) (s1 := 0) rfl rfl ⟨Nat.le_of_ble_eq_true rfl, Nat.le_of_ble_eq_true rfl⟩ (fun r_144 u_144 H locs hp_144 hG => ?_)
        have hG : cC g ((cNet g h N tk dom gr va dr off rt cnt lk dl td K E u_144) ++ (lNet g ka nn aa ll yy tt kk oo)) A s H locs := hG
        obtain ⟨i9, hi9, e9, w9, d9, hbc, er9⟩ := hp_144
        obtain rfl : i = i9 := (nI_eq (by omega) (by omega)).mp e9
        refine q_ren (er9.trans (best_far hN hb_51 hr_63 hm_63 hg hbc).2) ?_
        refine lv_iload hx hb dL_isNet_147 (lv_at hl 1 rfl) ?_
        refine lv_icmp_ne (tgt := 211) hx hb dL_isNet_149 (by decide) (fun c9 => absurd rfl c9) (fun _ => ?_)
        refine lv_aload_n hx hb dL_isNet_152 rfl (lv_at hl 6 rfl) ?_
        refine lv_iload hx hb dL_isNet_153 (lv_at hl 3 rfl) ?_
        refine q_fVl (FR.l (lNet g ka nn aa ll yy tt kk oo)) (n := 1) (As := [.int (nI i)]) (rest := []) hM hl.1 hG (c_X2_offsetK l g h N tk dom gr va dr off rt cnt lk dl td K E u_144 (nI i) hN ⟨i, hi, rfl⟩) rfl gL_isNet_X2_offset (by decide +kernel) ⟨Nat.le_of_ble_eq_true rfl, Nat.le_of_ble_eq_true rfl⟩ 0 rfl rfl rfl rfl rfl (Nat.le_of_ble_eq_true rfl) dL_isNet_155 (c1 := 0) (s1 := 0) rfl rfl ⟨Nat.le_of_ble_eq_true rfl, Nat.le_of_ble_eq_true rfl⟩ (fun r_155 u_155 H locs hp_155 hG => ?_)
        have hG : cC g ((cNet g h N tk dom gr va dr off rt cnt lk dl td K E u_144) ++ (lNet g ka nn aa ll yy tt kk oo)) A s H locs := hG
        obtain ⟨i9, hi9, e9, er9⟩ := hp_155
        obtain rfl : i = i9 := (nI_eq (by omega) (by omega)).mp e9
        refine q_renl er9 ?_
        refine lv_aload hx hb dL_isNet_158 (lv_at hl 11 rfl) ?_
        refine lv_iload hx hb dL_isNet_160 (lv_at hl 3 rfl) ?_
        refine q_lald hM hG 28 (i := i) rfl (by omega) (by decide) dL_isNet_162 ?_
        refine q_renl ((hO i hix).1) ?_
        refine W.lcmp hx hb dL_isNet_163 ?_
        refine q_ren (show lg_cmp (off i) (off i) = nI 0 from (lg_cmp_eq _ _).mpr rfl) ?_
        refine lv_if_ne (tgt := 211) hx hb dL_isNet_164 (by decide) (fun c9 => False.elim (by revert c9; decide)) (fun _ => ?_)
        refine lv_aload_n hx hb dL_isNet_167 rfl (lv_at hl 6 rfl) ?_
        refine lv_iload hx hb dL_isNet_168 (lv_at hl 3 rfl) ?_
        refine q_fVl (FR.l (lNet g ka nn aa ll yy tt kk oo)) (n := 1) (As := [.int (nI i)]) (rest := []) hM hl.1 hG (c_X2_rateK l g h N tk dom gr va dr off rt cnt lk dl td K E u_144 (nI i) hN ⟨i, hi, rfl⟩) rfl gL_isNet_X2_rate (by decide +kernel) ⟨Nat.le_of_ble_eq_true rfl, Nat.le_of_ble_eq_true rfl⟩ 0 rfl rfl rfl rfl rfl (Nat.le_of_ble_eq_true rfl) dL_isNet_170 (c1 := 0) (s1 := 0) rfl rfl ⟨Nat.le_of_ble_eq_true rfl, Nat.le_of_ble_eq_true rfl⟩ (fun r_170 u_170 H locs hp_170 hG => ?_)
        have hG : cC g ((cNet g h N tk dom gr va dr off rt cnt lk dl td K E u_144) ++ (lNet g ka nn aa ll yy tt kk oo)) A s H locs := hG
        obtain ⟨i9, hi9, e9, er9⟩ := hp_170
        obtain rfl : i = i9 := (nI_eq (by omega) (by omega)).mp e9
        refine q_renl er9 ?_
        refine lv_aload hx hb dL_isNet_173 (lv_at hl 11 rfl) ?_
        refine lv_bipush (v := nI 10) hx hb dL_isNet_175 (by decide) ?_
        refine lv_iload hx hb dL_isNet_177 (lv_at hl 3 rfl) ?_
        refine lv_iadd hx hb dL_isNet_179 ?_
        refine q_ren (nI_add 10 i) ?_
        refine q_lald hM hG 28 (i := 10 + i) rfl (by omega) (by decide) dL_isNet_180 ?_
        refine q_renl ((hO i hix).2) ?_
        refine W.lcmp hx hb dL_isNet_181 ?_
        refine q_ren (show lg_cmp (rt i) (rt i) = nI 0 from (lg_cmp_eq _ _).mpr rfl) ?_
        refine lv_if_ne (tgt := 211) hx hb dL_isNet_182 (by decide) (fun c9 => False.elim (by revert c9; decide)) (fun _ => ?_)
        refine lv_aload_n hx hb dL_isNet_185 rfl (lv_at hl 6 rfl) ?_
        refine lv_iload hx hb dL_isNet_186 (lv_at hl 3 rfl) ?_
        refine lv_iload hx hb dL_isNet_188 (lv_at hl 0 rfl) ?_
        refine q_fVi (FR.l (lNet g ka nn aa ll yy tt kk oo)) (n := 2) (As := [.int (nI i), .int (nI ((i + x) % N))]) (rest := []) hM hl.1 hG (c_X2_portK l g h N tk dom gr va dr off rt cnt lk dl td K E u_144 (nI i) (nI ((i + x) % N)) hN hlk ⟨⟨i, hi, rfl⟩, ⟨(i + x) % N, hmx, rfl⟩⟩) rfl gL_isNet_X2_port (by decide +kernel) ⟨Nat.le_of_ble_eq_true rfl, Nat.le_of_ble_eq_true rfl⟩ 0 rfl rfl rfl rfl rfl (Nat.le_of_ble_eq_true rfl) dL_isNet_190 (c1 := 0) (s1 := 0) rfl rfl ⟨Nat.le_of_ble_eq_true rfl, Nat.le_of_ble_eq_true rfl⟩ (fun r_190 u_190 H locs hp_190 hG => ?_)
        have hG : cC g ((cNet g h N tk dom gr va dr off rt cnt lk dl td K E u_144) ++ (lNet g ka nn aa ll yy tt kk oo)) A s H locs := hG
        obtain ⟨i9, j9, hi9, hj9, e9, f9, er9⟩ := hp_190
        obtain rfl : i = i9 := (nI_eq (by omega) (by omega)).mp e9
        have ej9 : (i + x) % N = j9 := (nI_eq (by omega) (by omega)).mp f9
        subst ej9
        refine q_ren er9 ?_
        refine lv_aload_n hx hb dL_isNet_193 rfl (lv_at hl 8 rfl) ?_
        refine lv_aload_n hx hb dL_isNet_194 rfl (lv_at hl 9 rfl) ?_
        refine lv_aload hx hb dL_isNet_195 (lv_at hl 10 rfl) ?_
        refine lv_iload hx hb dL_isNet_197 (lv_at hl 3 rfl) ?_
        refine lv_iload hx hb dL_isNet_199 (lv_at hl 0 rfl) ?_
        refine q_fSi (FR.r (cNet g h N tk dom gr va dr off rt cnt lk dl td K E u_144)) (n := 5) (As := [.ref (ka 1), .ref (ka 2), .ref (ka 5), .int (nI i), .int (nI ((i + x) % N))]) (rest := [.int (prt dom lk K.2.2.1 K.2.2.2 i ((i + x) % N))]) hM hl.1 hG (c_L_port l g ka nn aa ll yy tt kk oo N dom gr va dr lk K i ((i + x) % N) hi hmx hN hA hB hK) rfl gL_isNet_L_port (by decide +kernel) ⟨Nat.le_of_ble_eq_true rfl, Nat.le_of_ble_eq_true rfl⟩ rfl rfl (Nat.le_of_ble_eq_true rfl) dL_isNet_201 (c1 := 0) (s1 := 0) rfl rfl ⟨Nat.le_of_ble_eq_true rfl, Nat.le_of_ble_eq_true rfl⟩ (fun r_201 u_201 H locs hp_201 hG => ?_)
        have hG : cC g ((cNet g h N tk dom gr va dr off rt cnt lk dl td K E u_144) ++ (lNet g ka nn aa ll yy tt kk oo)) A s H locs := hG
        subst hp_201
        refine lv_icmp_ne (tgt := 211) hx hb dL_isNet_204 (by decide) (fun c9 => absurd rfl c9) (fun _ => ?_)
        refine lv_iconst (v := nI 1) hx hb dL_isNet_207 (by decide) ?_
        refine lv_goto (tgt := 212) hx hb dL_isNet_208 (by decide) ?_
        refine lv_istore (lv' := [(8, .int (nI 1)), (12, .int (nI ((i + x) % N))), (11, .int (nI u_63)), (10, .int (nI u_51)), (9, .int (nI i)), (7, .int st), (0, .ref (h 0)), (1, .ref (ka 0)), (2, .ref (ka 1)), (3, .ref (ka 2)), (4, .ref (ka 5)), (5, .ref (ka 6)), (6, .int (nI x))]) hx hb dL_isNet_212 hl (by decide) rfl (fun ls hl => ?_)
        refine lv_iload hx hb dL_isNet_214 (lv_at hl 5 rfl) ?_
        refine lv_if_eq (tgt := 249) hx hb dL_isNet_216 (by decide) (fun c_216 => ?_) (fun c_216 => ?_)
        · refine lv_iconst (v := nI 0) hx hb dL_isNet_249 (by decide) ?_
          refine lv_istore (lv' := [(7, .int (nI 0)), (8, .int (nI 1)), (12, .int (nI ((i + x) % N))), (11, .int (nI u_63)), (10, .int (nI u_51)), (9, .int (nI i)), (0, .ref (h 0)), (1, .ref (ka 0)), (2, .ref (ka 1)), (3, .ref (ka 2)), (4, .ref (ka 5)), (5, .ref (ka 6)), (6, .int (nI x))]) hx hb dL_isNet_250 hl (by decide) rfl (fun ls hl => ?_)
          refine lv_iinc (v := (nI (i + 1))) (lv' := [(9, .int (nI (i + 1))), (7, .int (nI 0)), (8, .int (nI 1)), (12, .int (nI ((i + x) % N))), (11, .int (nI u_63)), (10, .int (nI u_51)), (0, .ref (h 0)), (1, .ref (ka 0)), (2, .ref (ka 1)), (3, .ref (ka 2)), (4, .ref (ka 5)), (5, .ref (ka 6)), (6, .int (nI x))]) hx hb dL_isNet_252 hl (k := 5) rfl (nI_1 i) (by decide) rfl (fun ls hl => ?_)
          refine lv_goto (tgt := 33) hx hb dL_isNet_255 (by decide) ?_
          exact ih_33 (i + 1) u_144 (nI 0) (by omega) (by omega) (bP.f (fun h9 => hinv_i.z c_216 (fun j hj => h9 j (by omega)))) _ _ hG _ (lv_sub hl [0, 2, 1, 6, 7, 8, 9, 10, 11, 12] rfl)
        · refine lv_aload hx hb dL_isNet_219 (lv_at hl 10 rfl) ?_
          refine lv_iload hx hb dL_isNet_221 (lv_at hl 4 rfl) ?_
          refine q_lald hM hG 27 (i := i) rfl (by omega) (by decide) dL_isNet_223 ?_
          refine q_renl a19 ?_
          refine q_fSi (FR.n ((cNet g h N tk dom gr va dr off rt cnt lk dl td K E u_144) ++ (lNet g ka nn aa ll yy tt kk oo))) (n := 1) (As := [.long (lN (r1 * 110 + s1 * 11 + q1))]) (rest := []) hM hl.1 hG (c_L_clock l g  (r1 * 110 + s1 * 11 + q1) (by omega) ) rfl gL_isNet_L_clock (by decide +kernel) ⟨Nat.le_of_ble_eq_true rfl, Nat.le_of_ble_eq_true rfl⟩ rfl rfl (Nat.le_of_ble_eq_true rfl) dL_isNet_224 (c1 := 0) (s1 := 0) rfl rfl ⟨Nat.le_of_ble_eq_true rfl, Nat.le_of_ble_eq_true rfl⟩ (fun r_224 u_224 H locs hp_224 hG => ?_)
          have hG : cC g ((cNet g h N tk dom gr va dr off rt cnt lk dl td K E u_144) ++ (lNet g ka nn aa ll yy tt kk oo)) A s H locs := hG
          subst hp_224
          refine q_ren (show nI ((r1 * 110 + s1 * 11 + q1) / 110 % 10) = (nI (r1 % 10)) from congrArg nI (by omega)) ?_
          refine lv_iload hx hb dL_isNet_227 (lv_at hl 3 rfl) ?_
          refine lv_icmp_ne (tgt := 249) hx hb dL_isNet_229 (by decide) (fun c_229 => ?_) (fun c_229 => ?_)
          · refine lv_iconst (v := nI 0) hx hb dL_isNet_249 (by decide) ?_
            refine lv_istore (lv' := [(7, .int (nI 0)), (8, .int (nI 1)), (12, .int (nI ((i + x) % N))), (11, .int (nI u_63)), (10, .int (nI u_51)), (9, .int (nI i)), (0, .ref (h 0)), (1, .ref (ka 0)), (2, .ref (ka 1)), (3, .ref (ka 2)), (4, .ref (ka 5)), (5, .ref (ka 6)), (6, .int (nI x))]) hx hb dL_isNet_250 hl (by decide) rfl (fun ls hl => ?_)
            refine lv_iinc (v := (nI (i + 1))) (lv' := [(9, .int (nI (i + 1))), (7, .int (nI 0)), (8, .int (nI 1)), (12, .int (nI ((i + x) % N))), (11, .int (nI u_63)), (10, .int (nI u_51)), (0, .ref (h 0)), (1, .ref (ka 0)), (2, .ref (ka 1)), (3, .ref (ka 2)), (4, .ref (ka 5)), (5, .ref (ka 6)), (6, .int (nI x))]) hx hb dL_isNet_252 hl (k := 5) rfl (nI_1 i) (by decide) rfl (fun ls hl => ?_)
            refine lv_goto (tgt := 33) hx hb dL_isNet_255 (by decide) ?_
            exact ih_33 (i + 1) u_144 (nI 0) (by omega) (by omega) (bP.f (fun h9 => stl_no hN hg hbs (Or.inl (fun h8 => c_229 (a15.symm.trans h8))) (h9 i (by omega)))) _ _ hG _ (lv_sub hl [0, 2, 1, 6, 7, 8, 9, 10, 11, 12] rfl)
          · refine lv_aload hx hb dL_isNet_232 (lv_at hl 10 rfl) ?_
            refine lv_iload hx hb dL_isNet_234 (lv_at hl 4 rfl) ?_
            refine q_lald hM hG 27 (i := i) rfl (by omega) (by decide) dL_isNet_236 ?_
            refine q_renl a19 ?_
            refine q_fSi (FR.n ((cNet g h N tk dom gr va dr off rt cnt lk dl td K E u_144) ++ (lNet g ka nn aa ll yy tt kk oo))) (n := 1) (As := [.long (lN (r1 * 110 + s1 * 11 + q1))]) (rest := []) hM hl.1 hG (c_L_steps l g  (r1 * 110 + s1 * 11 + q1) (by omega) ) rfl gL_isNet_L_steps (by decide +kernel) ⟨Nat.le_of_ble_eq_true rfl, Nat.le_of_ble_eq_true rfl⟩ rfl rfl (Nat.le_of_ble_eq_true rfl) dL_isNet_237 (c1 := 0) (s1 := 0) rfl rfl ⟨Nat.le_of_ble_eq_true rfl, Nat.le_of_ble_eq_true rfl⟩ (fun r_237 u_237 H locs hp_237 hG => ?_)
            have hG : cC g ((cNet g h N tk dom gr va dr off rt cnt lk dl td K E u_144) ++ (lNet g ka nn aa ll yy tt kk oo)) A s H locs := hG
            subst hp_237
            refine q_ren (show nI ((r1 * 110 + s1 * 11 + q1) / 11 % 10) = (nI s1) from congrArg nI (by omega)) ?_
            refine lv_iload hx hb dL_isNet_240 (lv_at hl 2 rfl) ?_
            refine lv_icmp_ne (tgt := 249) hx hb dL_isNet_242 (by decide) (fun c_242 => ?_) (fun c_242 => ?_)
            · refine lv_iconst (v := nI 0) hx hb dL_isNet_249 (by decide) ?_
              refine lv_istore (lv' := [(7, .int (nI 0)), (8, .int (nI 1)), (12, .int (nI ((i + x) % N))), (11, .int (nI u_63)), (10, .int (nI u_51)), (9, .int (nI i)), (0, .ref (h 0)), (1, .ref (ka 0)), (2, .ref (ka 1)), (3, .ref (ka 2)), (4, .ref (ka 5)), (5, .ref (ka 6)), (6, .int (nI x))]) hx hb dL_isNet_250 hl (by decide) rfl (fun ls hl => ?_)
              refine lv_iinc (v := (nI (i + 1))) (lv' := [(9, .int (nI (i + 1))), (7, .int (nI 0)), (8, .int (nI 1)), (12, .int (nI ((i + x) % N))), (11, .int (nI u_63)), (10, .int (nI u_51)), (0, .ref (h 0)), (1, .ref (ka 0)), (2, .ref (ka 1)), (3, .ref (ka 2)), (4, .ref (ka 5)), (5, .ref (ka 6)), (6, .int (nI x))]) hx hb dL_isNet_252 hl (k := 5) rfl (nI_1 i) (by decide) rfl (fun ls hl => ?_)
              refine lv_goto (tgt := 33) hx hb dL_isNet_255 (by decide) ?_
              exact ih_33 (i + 1) u_144 (nI 0) (by omega) (by omega) (bP.f (fun h9 => stl_no hN hg hbs (Or.inr (fun h8 => c_242 (a17.symm.trans h8))) (h9 i (by omega)))) _ _ hG _ (lv_sub hl [0, 2, 1, 6, 7, 8, 9, 10, 11, 12] rfl)
            · refine lv_iconst (v := nI 1) hx hb dL_isNet_245 (by decide) ?_
              refine lv_goto (tgt := 250) hx hb dL_isNet_246 (by decide) ?_
              refine lv_istore (lv' := [(7, .int (nI 1)), (8, .int (nI 1)), (12, .int (nI ((i + x) % N))), (11, .int (nI u_63)), (10, .int (nI u_51)), (9, .int (nI i)), (0, .ref (h 0)), (1, .ref (ka 0)), (2, .ref (ka 1)), (3, .ref (ka 2)), (4, .ref (ka 5)), (5, .ref (ka 6)), (6, .int (nI x))]) hx hb dL_isNet_250 hl (by decide) rfl (fun ls hl => ?_)
              refine lv_iinc (v := (nI (i + 1))) (lv' := [(9, .int (nI (i + 1))), (7, .int (nI 1)), (8, .int (nI 1)), (12, .int (nI ((i + x) % N))), (11, .int (nI u_63)), (10, .int (nI u_51)), (0, .ref (h 0)), (1, .ref (ka 0)), (2, .ref (ka 1)), (3, .ref (ka 2)), (4, .ref (ka 5)), (5, .ref (ka 6)), (6, .int (nI x))]) hx hb dL_isNet_252 hl (k := 5) rfl (nI_1 i) (by decide) rfl (fun ls hl => ?_)
              refine lv_goto (tgt := 33) hx hb dL_isNet_255 (by decide) ?_
              exact ih_33 (i + 1) u_144 (nI 1) (by omega) (by omega) (bP.t (fun j hj => by by_cases e8 : j = i; (subst e8; exact ⟨u_51, nI u_63, hbs, a15.trans c_229, a17.trans c_242⟩); exact hinv_i.nz c_216 j (by omega))) _ _ hG _ (lv_sub hl [0, 2, 1, 6, 7, 8, 9, 10, 11, 12] rfl)
  exact loop_33 (N + 1) 0 ds (nI 1) (by omega) (by omega) (bP.t (fun j h9 => absurd h9 (Nat.not_lt_zero _))) _ _ hG _ (lv_sub hl [0, 1, 2, 3, 4, 5, 6, 7, 8, 9] rfl)
