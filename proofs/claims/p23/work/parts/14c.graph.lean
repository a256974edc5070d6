set_option maxHeartbeats 4000000 in
set_option maxRecDepth 100000 in
theorem c_L_reached (l : Launch) (g : EN) (ka : Nat → Nat) (nn : Nat → Int32) (aa : Nat → Int32) (ll : Nat → Int32) (yy : Nat → Int64) (tt : Nat → Int32) (kk : Nat → Int64) (oo : Nat → Int64) (N : Nat) (dom gr va dr : Nat → Int32) (lk : Nat → Int32) (f0 d0 : Nat) (hf : f0 < N) (hd : d0 ≤ 9) (hn0 : nn 0 = nI N) (hN : N ≤ 10) (hA : LA N aa dom gr va dr) (hB : LB ll lk) : Ci l yL_reached wsL_reached ({ frames := 1, cells := 0, slots := 0, locals := 23 }) g [.ref (ka 0), .ref (ka 1), .ref (ka 2), .int (nI f0), .int (nI d0)] (lNet g ka nn aa ll yy tt kk oo) (fun (r : Int32) (_ : Unit) => SB N (rch N dom lk f0 d0) r) (fun (_ : Unit) => (lNet g ka nn aa ll yy tt kk oo)) := by
  refine Ci.of (cc := cL_reached) (maxL := 10) (by decide) rfl (Nat.le_of_ble_eq_true rfl) ?_
  intro p e s m args below meth c A Q ls hM hG hRet hl
  have hx := hM.1
  have hb := hM.2.1
  have hown := hM.2.2.2.1
  have hts := hM.2.2.2.2
  have hl : lv_has ls 10 [(0, .ref (ka 0)), (1, .ref (ka 1)), (2, .ref (ka 2)), (3, .int (nI f0)), (4, .int (nI d0))] := hl
  have hN0 : 0 < N := by omega
  have hNN : N * N ≤ 100 := Nat.mul_le_mul hN hN
  refine lv_iconst (v := nI 1) hx hb dL_reached_0 (by decide) ?_
  refine lv_iload_n hx hb dL_reached_1 rfl (lv_at hl 3 rfl) ?_
  refine lv_ishl hx hb dL_reached_2 ?_
  refine lv_istore (lv' := [(5, .int ((nI 1) <<< ((nI f0) &&& 31))), (0, .ref (ka 0)), (1, .ref (ka 1)), (2, .ref (ka 2)), (3, .int (nI f0)), (4, .int (nI d0))]) hx hb dL_reached_3 hl (by decide) rfl (fun ls hl => ?_)
  refine lv_iconst (v := nI 0) hx hb dL_reached_5 (by decide) ?_
  refine lv_istore (lv' := [(6, .int (nI 0)), (5, .int ((nI 1) <<< ((nI f0) &&& 31))), (0, .ref (ka 0)), (1, .ref (ka 1)), (2, .ref (ka 2)), (3, .int (nI f0)), (4, .int (nI d0))]) hx hb dL_reached_6 hl (by decide) rfl (fun ls hl => ?_)
  have loop_8 : ∀ (n9 a : Nat) (s5 : Int32), a ≤ d0 → d0 < a + n9 → (SB N (rch N dom lk f0 a) s5) → ∀ (H : Heap) (locs : List Loc), cC g (lNet g ka nn aa ll yy tt kk oo) A s H locs → ∀ (ls : Array Slot), lv_has ls 10 [(6, .int (nI a)), (5, .int s5), (0, .ref (ka 0)), (1, .ref (ka 1)), (2, .ref (ka 2)), (3, .int (nI f0)), (4, .int (nI d0))] → W p l e ({ frames := 1, cells := 0, slots := 0, locals := 23 } : Room) s m args below meth c H locs 0 0 Q (F0 m 8 ls []) := by
    intro n9
    induction n9 with
    | zero => intro a s5 h1 h2; exact absurd h2 (by omega)
    | succ n9 ih_8 =>
      intro a s5 hle_a hlt9 hinv_a H locs hG ls hl
      refine lv_iload hx hb dL_reached_8 (lv_at hl 0 rfl) ?_
      refine lv_iload hx hb dL_reached_10 (lv_at hl 6 rfl) ?_
      refine lv_icmp_ge (tgt := 104) hx hb dL_reached_12 (by decide) (fun c_12 => ?_) (fun c_12 => ?_)
      · have ha : a = d0 := by have h9 := ctr_ge (a := a) (b := d0) (by omega) (by omega) c_12; omega
        refine lv_iload hx hb dL_reached_104 (lv_at hl 1 rfl) ?_
        exact hRet s5 () _ _ _ _ _ _ (by rw [ha] at hinv_a; exact hinv_a) hG (Nat.le_of_ble_eq_true rfl) (Nat.le_of_ble_eq_true rfl) dL_reached_106
      · have ha : a < d0 := ctr_lt (by omega) (by omega) c_12
        refine lv_iconst (v := nI 0) hx hb dL_reached_15 (by decide) ?_
        refine lv_istore (lv' := [(7, .int (nI 0)), (6, .int (nI a)), (5, .int s5), (0, .ref (ka 0)), (1, .ref (ka 1)), (2, .ref (ka 2)), (3, .int (nI f0)), (4, .int (nI d0))]) hx hb dL_reached_16 hl (by decide) rfl (fun ls hl => ?_)
        refine lv_iconst (v := nI 0) hx hb dL_reached_18 (by decide) ?_
        refine lv_istore (lv' := [(8, .int (nI 0)), (7, .int (nI 0)), (6, .int (nI a)), (5, .int s5), (0, .ref (ka 0)), (1, .ref (ka 1)), (2, .ref (ka 2)), (3, .int (nI f0)), (4, .int (nI d0))]) hx hb dL_reached_19 hl (by decide) rfl (fun ls hl => ?_)
        have loop_21 : ∀ (n9 q : Nat) (mo : Int32), q ≤ (N * N) → (N * N) < q + n9 → (SB N (mor N dom lk f0 a q) mo) → ∀ (H : Heap) (locs : List Loc), cC g (lNet g ka nn aa ll yy tt kk oo) A s H locs → ∀ (ls : Array Slot), lv_has ls 10 [(8, .int (nI q)), (7, .int mo), (6, .int (nI a)), (5, .int s5), (0, .ref (ka 0)), (1, .ref (ka 1)), (2, .ref (ka 2)), (3, .int (nI f0)), (4, .int (nI d0))] → W p l e ({ frames := 1, cells := 0, slots := 0, locals := 23 } : Room) s m args below meth c H locs 0 0 Q (F0 m 21 ls []) := by
          intro n9
          induction n9 with
          | zero => intro q mo h1 h2; exact absurd h2 (by omega)
          | succ n9 ih_21 =>
            intro q mo hle_q hlt9 hinv_q H locs hG ls hl
            refine lv_iload hx hb dL_reached_21 (lv_at hl 0 rfl) ?_
            refine lv_aload_n hx hb dL_reached_23 rfl (lv_at hl 4 rfl) ?_
            refine lv_iconst (v := nI 0) hx hb dL_reached_24 (by decide) ?_
            refine q_iald hM hG 0 (i := 0) rfl (by decide) (by decide) dL_reached_25 ?_
            refine q_ren hn0 ?_
            refine lv_aload_n hx hb dL_reached_26 rfl (lv_at hl 4 rfl) ?_
            refine lv_iconst (v := nI 0) hx hb dL_reached_27 (by decide) ?_
            refine q_iald hM hG 0 (i := 0) rfl (by decide) (by decide) dL_reached_28 ?_
            refine q_ren hn0 ?_
            refine lv_imul hx hb dL_reached_29 ?_
            refine q_ren (pk_mul N N) ?_
            refine lv_icmp_ge (tgt := 91) hx hb dL_reached_30 (by decide) (fun c_30 => ?_) (fun c_30 => ?_)
            · have hq : q = N * N := by have h9 := ctr_ge (a := q) (b := N * N) (by omega) (by omega) c_30; omega
              refine lv_iload hx hb dL_reached_91 (lv_at hl 3 rfl) ?_
              refine lv_iload hx hb dL_reached_93 (lv_at hl 1 rfl) ?_
              refine lv_ior hx hb dL_reached_95 ?_
              refine lv_istore (lv' := [(5, .int (s5 ||| mo)), (8, .int (nI q)), (7, .int mo), (6, .int (nI a)), (0, .ref (ka 0)), (1, .ref (ka 1)), (2, .ref (ka 2)), (3, .int (nI f0)), (4, .int (nI d0))]) hx hb dL_reached_96 hl (by decide) rfl (fun ls hl => ?_)
              refine lv_iinc (v := (nI (a + 1))) (lv' := [(6, .int (nI (a + 1))), (5, .int (s5 ||| mo)), (8, .int (nI q)), (7, .int mo), (0, .ref (ka 0)), (1, .ref (ka 1)), (2, .ref (ka 2)), (3, .int (nI f0)), (4, .int (nI d0))]) hx hb dL_reached_98 hl (k := 3) rfl (nI_1 a) (by decide) rfl (fun ls hl => ?_)
              refine lv_goto (tgt := 8) hx hb dL_reached_101 (by decide) ?_
              exact ih_8 (a + 1) (s5 ||| mo) (by omega) (by omega) ((SB_or hinv_a (by rw [hq] at hinv_q; exact hinv_q)).to (fun j hj => mor_all hN0 hj)) _ _ hG _ (lv_sub hl [0, 1, 4, 5, 6, 7, 8] rfl)
            · have hq : q < N * N := ctr_lt (by omega) (by omega) c_30
              have hdv : q / N < N := Nat.div_lt_of_lt_mul hq
              have hmd : q % N < N := Nat.mod_lt q hN0
              refine lv_iload hx hb dL_reached_33 (lv_at hl 0 rfl) ?_
              refine lv_aload_n hx hb dL_reached_35 rfl (lv_at hl 4 rfl) ?_
              refine lv_iconst (v := nI 0) hx hb dL_reached_36 (by decide) ?_
              refine q_iald hM hG 0 (i := 0) rfl (by decide) (by decide) dL_reached_37 ?_
              refine q_ren hn0 ?_
              refine lv_idiv hx hb dL_reached_38 (nI_ne0 hN0 (by omega)) ?_
              refine q_ren (pk_div (a := q) (by omega) hN0 (by omega)) ?_
              refine lv_istore (lv' := [(9, .int (nI (q / N))), (8, .int (nI q)), (7, .int mo), (6, .int (nI a)), (5, .int s5), (0, .ref (ka 0)), (1, .ref (ka 1)), (2, .ref (ka 2)), (3, .int (nI f0)), (4, .int (nI d0))]) hx hb dL_reached_39 hl (by decide) rfl (fun ls hl => ?_)
              refine lv_iload hx hb dL_reached_41 (lv_at hl 2 rfl) ?_
              refine lv_iload hx hb dL_reached_43 (lv_at hl 4 rfl) ?_
              refine lv_iload hx hb dL_reached_45 (lv_at hl 0 rfl) ?_
              refine lv_ishr hx hb dL_reached_47 ?_
              refine lv_iconst (v := nI 1) hx hb dL_reached_48 (by decide) ?_
              refine lv_iand hx hb dL_reached_49 ?_
              by_cases hbt : bt s5 (q / N) = true
              · refine q_ren (sh1_t (by omega) hbt) ?_
                refine lv_iconst (v := nI 1) hx hb dL_reached_50 (by decide) ?_
                refine lv_icmp_ne (tgt := 81) hx hb dL_reached_51 (by decide) (fun c9 => False.elim (by revert c9; decide)) (fun _ => ?_)
                refine lv_aload_n hx hb dL_reached_54 rfl (lv_at hl 6 rfl) ?_
                refine lv_aload_n hx hb dL_reached_55 rfl (lv_at hl 7 rfl) ?_
                refine lv_iload hx hb dL_reached_56 (lv_at hl 0 rfl) ?_
                refine lv_iload hx hb dL_reached_58 (lv_at hl 1 rfl) ?_
                refine lv_aload_n hx hb dL_reached_60 rfl (lv_at hl 5 rfl) ?_
                refine lv_iconst (v := nI 0) hx hb dL_reached_61 (by decide) ?_
                refine q_iald hM hG 0 (i := 0) rfl (by decide) (by decide) dL_reached_62 ?_
                refine q_ren hn0 ?_
                refine lv_irem hx hb dL_reached_63 (nI_ne0 hN0 (by omega)) ?_
                refine q_ren (pk_rem (a := q) (by omega) hN0 (by omega)) ?_
                refine q_fSi FR.i (n := 4) (As := [.ref (ka 1), .ref (ka 2), .int (nI (q / N)), .int (nI (q % N))]) (rest := [.int mo]) hM hl.1 hG (c_L_areNear l g ka nn aa ll yy tt kk oo N dom gr va dr lk (q / N) (q % N) hdv hmd hN hA hB) rfl gL_reached_L_areNear (by decide +kernel) ⟨Nat.le_of_ble_eq_true rfl, Nat.le_of_ble_eq_true rfl⟩ rfl rfl (Nat.le_of_ble_eq_true rfl) dL_reached_64 (c1 := 0) (s1 := 0) rfl rfl ⟨Nat.le_of_ble_eq_true rfl, Nat.le_of_ble_eq_true rfl⟩ (fun r_64 u_64 H locs hp_64 hG => ?_)
                have hG : cC g (lNet g ka nn aa ll yy tt kk oo) A s H locs := hG
                rcases hp_64 with ⟨rfl, hp_64⟩ | ⟨rfl, hp_64⟩
                · refine lv_if_eq (tgt := 81) hx hb dL_reached_67 (by decide) (fun c9 => False.elim (by revert c9; decide)) (fun _ => ?_)
                  refine lv_iconst (v := nI 1) hx hb dL_reached_70 (by decide) ?_
                  refine lv_iload hx hb dL_reached_71 (lv_at hl 1 rfl) ?_
                  refine lv_aload_n hx hb dL_reached_73 rfl (lv_at hl 5 rfl) ?_
                  refine lv_iconst (v := nI 0) hx hb dL_reached_74 (by decide) ?_
                  refine q_iald hM hG 0 (i := 0) rfl (by decide) (by decide) dL_reached_75 ?_
                  refine q_ren hn0 ?_
                  refine lv_irem hx hb dL_reached_76 (nI_ne0 hN0 (by omega)) ?_
                  refine q_ren (pk_rem (a := q) (by omega) hN0 (by omega)) ?_
                  refine lv_ishl hx hb dL_reached_77 ?_
                  refine lv_goto (tgt := 82) hx hb dL_reached_78 (by decide) ?_
                  refine lv_ior hx hb dL_reached_82 ?_
                  refine lv_istore (lv' := [(7, .int (mo ||| ((nI 1) <<< ((nI (q % N)) &&& 31)))), (9, .int (nI (q / N))), (8, .int (nI q)), (6, .int (nI a)), (5, .int s5), (0, .ref (ka 0)), (1, .ref (ka 1)), (2, .ref (ka 2)), (3, .int (nI f0)), (4, .int (nI d0))]) hx hb dL_reached_83 hl (by decide) rfl (fun ls hl => ?_)
                  refine lv_iinc (v := (nI (q + 1))) (lv' := [(8, .int (nI (q + 1))), (7, .int (mo ||| ((nI 1) <<< ((nI (q % N)) &&& 31)))), (9, .int (nI (q / N))), (6, .int (nI a)), (5, .int s5), (0, .ref (ka 0)), (1, .ref (ka 1)), (2, .ref (ka 2)), (3, .int (nI f0)), (4, .int (nI d0))]) hx hb dL_reached_85 hl (k := 2) rfl (nI_1 q) (by decide) rfl (fun ls hl => ?_)
                  refine lv_goto (tgt := 21) hx hb dL_reached_88 (by decide) ?_
                  exact ih_21 (q + 1) (mo ||| ((nI 1) <<< ((nI (q % N)) &&& 31))) (by omega) (by omega) (mor_yes hN hN0 hinv_q ((hinv_a _ hdv).mp hbt) hp_64) _ _ hG _ (lv_sub hl [0, 1, 3, 4, 5, 6, 7, 8, 9] rfl)
                · refine lv_if_eq (tgt := 81) hx hb dL_reached_67 (by decide) (fun _ => ?_) (fun c9 => False.elim (by revert c9; decide))
                  refine lv_iconst (v := nI 0) hx hb dL_reached_81 (by decide) ?_
                  refine lv_ior hx hb dL_reached_82 ?_
                  refine lv_istore (lv' := [(7, .int (mo ||| (nI 0))), (9, .int (nI (q / N))), (8, .int (nI q)), (6, .int (nI a)), (5, .int s5), (0, .ref (ka 0)), (1, .ref (ka 1)), (2, .ref (ka 2)), (3, .int (nI f0)), (4, .int (nI d0))]) hx hb dL_reached_83 hl (by decide) rfl (fun ls hl => ?_)
                  refine lv_iinc (v := (nI (q + 1))) (lv' := [(8, .int (nI (q + 1))), (7, .int (mo ||| (nI 0))), (9, .int (nI (q / N))), (6, .int (nI a)), (5, .int s5), (0, .ref (ka 0)), (1, .ref (ka 1)), (2, .ref (ka 2)), (3, .int (nI f0)), (4, .int (nI d0))]) hx hb dL_reached_85 hl (k := 2) rfl (nI_1 q) (by decide) rfl (fun ls hl => ?_)
                  refine lv_goto (tgt := 21) hx hb dL_reached_88 (by decide) ?_
                  exact ih_21 (q + 1) (mo ||| (nI 0)) (by omega) (by omega) (mor_no hinv_q (fun h9 => hp_64 h9.2)) _ _ hG _ (lv_sub hl [0, 1, 3, 4, 5, 6, 7, 8, 9] rfl)
              · refine q_ren (sh1_f (by omega) hbt) ?_
                refine lv_iconst (v := nI 1) hx hb dL_reached_50 (by decide) ?_
                refine lv_icmp_ne (tgt := 81) hx hb dL_reached_51 (by decide) (fun _ => ?_) (fun c9 => False.elim (by revert c9; decide))
                refine lv_iconst (v := nI 0) hx hb dL_reached_81 (by decide) ?_
                refine lv_ior hx hb dL_reached_82 ?_
                refine lv_istore (lv' := [(7, .int (mo ||| (nI 0))), (9, .int (nI (q / N))), (8, .int (nI q)), (6, .int (nI a)), (5, .int s5), (0, .ref (ka 0)), (1, .ref (ka 1)), (2, .ref (ka 2)), (3, .int (nI f0)), (4, .int (nI d0))]) hx hb dL_reached_83 hl (by decide) rfl (fun ls hl => ?_)
                refine lv_iinc (v := (nI (q + 1))) (lv' := [(8, .int (nI (q + 1))), (7, .int (mo ||| (nI 0))), (9, .int (nI (q / N))), (6, .int (nI a)), (5, .int s5), (0, .ref (ka 0)), (1, .ref (ka 1)), (2, .ref (ka 2)), (3, .int (nI f0)), (4, .int (nI d0))]) hx hb dL_reached_85 hl (k := 2) rfl (nI_1 q) (by decide) rfl (fun ls hl => ?_)
                refine lv_goto (tgt := 21) hx hb dL_reached_88 (by decide) ?_
                exact ih_21 (q + 1) (mo ||| (nI 0)) (by omega) (by omega) (mor_no hinv_q (fun h9 => hbt ((hinv_a _ hdv).mpr h9.1))) _ _ hG _ (lv_sub hl [0, 1, 3, 4, 5, 6, 7, 8, 9] rfl)
        exact loop_21 ((N * N) + 1) 0 (nI 0) (by omega) (by omega) (SB_0 (fun j => mor_0)) _ _ hG _ (lv_sub hl [0, 1, 2, 3, 4, 5, 6, 7, 8] rfl)
  exact loop_8 (d0 + 1) 0 ((nI 1) <<< ((nI f0) &&& 31)) (by omega) (by omega) (SB_1 hN hf) _ _ hG _ (lv_sub hl [0, 1, 2, 3, 4, 5, 6] rfl)

set_option maxHeartbeats 4000000 in
set_option maxRecDepth 100000 in
theorem c_L_best (l : Launch) (g : EN) (ka : Nat → Nat) (nn : Nat → Int32) (aa : Nat → Int32) (ll : Nat → Int32) (yy : Nat → Int64) (tt : Nat → Int32) (kk : Nat → Int64) (oo : Nat → Int64) (N : Nat) (dom gr va dr : Nat → Int32) (lk : Nat → Int32) (f0 : Nat) (hf : f0 < N) (hn0 : nn 0 = nI N) (hN : N ≤ 10) (hA : LA N aa dom gr va dr) (hB : LB ll lk) (hg : rng gr va) : Ci l yL_best wsL_best ({ frames := 2, cells := 0, slots := 0, locals := 52 }) g [.ref (ka 0), .ref (ka 1), .ref (ka 2), .int (nI f0)] (lNet g ka nn aa ll yy tt kk oo) (fun (r : Int32) (w : Nat) => r = nI w ∧ isBest N gr va (fr N dom lk f0) w) (fun (_ : Nat) => (lNet g ka nn aa ll yy tt kk oo)) := by
  refine Ci.of (cc := cL_best) (maxL := 7) (by decide) rfl (Nat.le_of_ble_eq_true rfl) ?_
  intro p e s m args below meth c A Q ls hM hG hRet hl
  have hx := hM.1
  have hb := hM.2.1
  have hown := hM.2.2.2.1
  have hts := hM.2.2.2.2
  have hl : lv_has ls 7 [(0, .ref (ka 0)), (1, .ref (ka 1)), (2, .ref (ka 2)), (3, .int (nI f0))] := hl
  refine lv_aload_n hx hb dL_best_0 rfl (lv_at hl 0 rfl) ?_
  refine lv_aload_n hx hb dL_best_1 rfl (lv_at hl 1 rfl) ?_
  refine lv_aload_n hx hb dL_best_2 rfl (lv_at hl 2 rfl) ?_
  refine lv_iload_n hx hb dL_best_3 rfl (lv_at hl 3 rfl) ?_
  refine lv_bipush (v := nI 9) hx hb dL_best_4 (by decide) ?_
  refine q_fSi FR.i (n := 5) (As := [.ref (ka 0), .ref (ka 1), .ref (ka 2), .int (nI f0), .int (nI 9)]) (rest := []) hM hl.1 hG (c_L_reached l g ka nn aa ll yy tt kk oo N dom gr va dr lk f0 9 hf (by omega) hn0 hN hA hB) rfl gL_best_L_reached (by decide +kernel) ⟨Nat.le_of_ble_eq_true rfl, Nat.le_of_ble_eq_true rfl⟩ rfl rfl (Nat.le_of_ble_eq_true rfl) dL_best_6 (c1 := 0) (s1 := 0) rfl rfl ⟨Nat.le_of_ble_eq_true rfl, Nat.le_of_ble_eq_true rfl⟩ (fun r_6 u_6 H locs hp_6 hG => ?_)
  have hG : cC g (lNet g ka nn aa ll yy tt kk oo) A s H locs := hG
  refine lv_istore (lv' := [(4, .int r_6), (0, .ref (ka 0)), (1, .ref (ka 1)), (2, .ref (ka 2)), (3, .int (nI f0))]) hx hb dL_best_9 hl (by decide) rfl (fun ls hl => ?_)
  refine lv_iload_n hx hb dL_best_11 rfl (lv_at hl 4 rfl) ?_
  refine lv_istore (lv' := [(5, .int (nI f0)), (4, .int r_6), (0, .ref (ka 0)), (1, .ref (ka 1)), (2, .ref (ka 2)), (3, .int (nI f0))]) hx hb dL_best_12 hl (by decide) rfl (fun ls hl => ?_)
  refine lv_iconst (v := nI 0) hx hb dL_best_14 (by decide) ?_
  refine lv_istore (lv' := [(6, .int (nI 0)), (5, .int (nI f0)), (4, .int r_6), (0, .ref (ka 0)), (1, .ref (ka 1)), (2, .ref (ka 2)), (3, .int (nI f0))]) hx hb dL_best_15 hl (by decide) rfl (fun ls hl => ?_)
  have loop_17 : ∀ (n9 z : Nat) (w : Nat), z ≤ N → N < z + n9 → (bestTo gr va (fr N dom lk f0) N z w) → ∀ (H : Heap) (locs : List Loc), cC g (lNet g ka nn aa ll yy tt kk oo) A s H locs → ∀ (ls : Array Slot), lv_has ls 7 [(6, .int (nI z)), (5, .int (nI w)), (4, .int r_6), (0, .ref (ka 0)), (1, .ref (ka 1)), (2, .ref (ka 2)), (3, .int (nI f0))] → W p l e ({ frames := 2, cells := 0, slots := 0, locals := 52 } : Room) s m args below meth c H locs 0 0 Q (F0 m 17 ls []) := by
    intro n9
    induction n9 with
    | zero => intro z w h1 h2; exact absurd h2 (by omega)
    | succ n9 ih_17 =>
      intro z w hle_z hlt9 hinv_z H locs hG ls hl
      refine lv_iload hx hb dL_best_17 (lv_at hl 0 rfl) ?_
      refine lv_aload_n hx hb dL_best_19 rfl (lv_at hl 3 rfl) ?_
      refine lv_iconst (v := nI 0) hx hb dL_best_20 (by decide) ?_
      refine q_iald hM hG 0 (i := 0) rfl (by decide) (by decide) dL_best_21 ?_
      refine q_ren hn0 ?_
      refine lv_icmp_ge (tgt := 67) hx hb dL_best_22 (by decide) (fun c_22 => ?_) (fun c_22 => ?_)
      · have hz : z = N := by have h9 := ctr_ge (a := z) (b := N) (by omega) (by omega) c_22; omega
        refine lv_iload hx hb dL_best_67 (lv_at hl 1 rfl) ?_
        exact hRet (nI w) w _ _ _ _ _ _ (⟨rfl, by rw [hz] at hinv_z; exact hinv_z⟩) hG (Nat.le_of_ble_eq_true rfl) (Nat.le_of_ble_eq_true rfl) dL_best_69
      · have hz : z < N := ctr_lt (by omega) (by omega) c_22
        have hwx : w < 10 := by have h9 := hinv_z.1; omega
        have hr1 := (rkn_val hg (show z < 10 by omega)).2.1
        have hr2 := (rkn_val hg hwx).2.1
        refine lv_iload hx hb dL_best_25 (lv_at hl 2 rfl) ?_
        refine lv_iload hx hb dL_best_27 (lv_at hl 0 rfl) ?_
        refine lv_ishr hx hb dL_best_29 ?_
        refine lv_iconst (v := nI 1) hx hb dL_best_30 (by decide) ?_
        refine lv_iand hx hb dL_best_31 ?_
        by_cases hbt : bt r_6 z = true
        · refine q_ren (sh1_t (by omega) hbt) ?_
          refine lv_iconst (v := nI 1) hx hb dL_best_32 (by decide) ?_
          refine lv_icmp_ne (tgt := 57) hx hb dL_best_33 (by decide) (fun c9 => False.elim (by revert c9; decide)) (fun _ => ?_)
          refine lv_aload_n hx hb dL_best_36 rfl (lv_at hl 4 rfl) ?_
          refine lv_iload hx hb dL_best_37 (lv_at hl 0 rfl) ?_
          refine q_fSl FR.i (n := 2) (As := [.ref (ka 1), .int (nI z)]) (rest := []) hM hl.1 hG (c_L_own l g ka nn aa ll yy tt kk oo N dom gr va dr z hz hN hA hg) rfl gL_best_L_own (by decide +kernel) ⟨Nat.le_of_ble_eq_true rfl, Nat.le_of_ble_eq_true rfl⟩ rfl rfl (Nat.le_of_ble_eq_true rfl) dL_best_39 (c1 := 0) (s1 := 0) rfl rfl ⟨Nat.le_of_ble_eq_true rfl, Nat.le_of_ble_eq_true rfl⟩ (fun r_39 u_39 H locs hp_39 hG => ?_)
          have hG : cC g (lNet g ka nn aa ll yy tt kk oo) A s H locs := hG
          subst hp_39
          refine lv_aload_n hx hb dL_best_42 rfl (lv_at hl 4 rfl) ?_
          refine lv_iload hx hb dL_best_43 (lv_at hl 1 rfl) ?_
          refine q_fSl FR.i (n := 2) (As := [.ref (ka 1), .int (nI w)]) (rest := [.long (lN (rkn gr va z * 110))]) hM hl.1 hG (c_L_own l g ka nn aa ll yy tt kk oo N dom gr va dr w (by have h9 := hinv_z.1; omega) hN hA hg) rfl gL_best_L_own (by decide +kernel) ⟨Nat.le_of_ble_eq_true rfl, Nat.le_of_ble_eq_true rfl⟩ rfl rfl (Nat.le_of_ble_eq_true rfl) dL_best_45 (c1 := 0) (s1 := 0) rfl rfl ⟨Nat.le_of_ble_eq_true rfl, Nat.le_of_ble_eq_true rfl⟩ (fun r_45 u_45 H locs hp_45 hG => ?_)
          have hG : cC g (lNet g ka nn aa ll yy tt kk oo) A s H locs := hG
          subst hp_45
          refine W.lcmp hx hb dL_best_48 ?_
          refine lv_if_ge (tgt := 57) hx hb dL_best_49 (by decide) (fun c_49 => ?_) (fun c_49 => ?_)
          · refine lv_iload hx hb dL_best_57 (lv_at hl 1 rfl) ?_
            refine lv_istore (lv' := [(5, .int (nI w)), (6, .int (nI z)), (4, .int r_6), (0, .ref (ka 0)), (1, .ref (ka 1)), (2, .ref (ka 2)), (3, .int (nI f0))]) hx hb dL_best_59 hl (by decide) rfl (fun ls hl => ?_)
            refine lv_iinc (v := (nI (z + 1))) (lv' := [(6, .int (nI (z + 1))), (5, .int (nI w)), (4, .int r_6), (0, .ref (ka 0)), (1, .ref (ka 1)), (2, .ref (ka 2)), (3, .int (nI f0))]) hx hb dL_best_61 hl (k := 1) rfl (nI_1 z) (by decide) rfl (fun ls hl => ?_)
            refine lv_goto (tgt := 17) hx hb dL_best_64 (by decide) ?_
            exact ih_17 (z + 1) w (by omega) (by omega) (bestTo_skip hinv_z (Or.inr (fun h9 => absurd ((pk_lLT (by omega) (by omega)).mpr (show rkn gr va z * 110 < rkn gr va w * 110 by have h8 := (rkn_btr hg (by omega) hwx).mpr h9; omega)) (Int64.not_lt.mpr ((lg_cmp_ge _ _).mp c_49))))) _ _ hG _ (lv_sub hl [0, 1, 2, 3, 4, 5, 6] rfl)
          · refine lv_iload hx hb dL_best_52 (lv_at hl 0 rfl) ?_
            refine lv_goto (tgt := 59) hx hb dL_best_54 (by decide) ?_
            refine lv_istore (lv' := [(5, .int (nI z)), (6, .int (nI z)), (4, .int r_6), (0, .ref (ka 0)), (1, .ref (ka 1)), (2, .ref (ka 2)), (3, .int (nI f0))]) hx hb dL_best_59 hl (by decide) rfl (fun ls hl => ?_)
            refine lv_iinc (v := (nI (z + 1))) (lv' := [(6, .int (nI (z + 1))), (5, .int (nI z)), (4, .int r_6), (0, .ref (ka 0)), (1, .ref (ka 1)), (2, .ref (ka 2)), (3, .int (nI f0))]) hx hb dL_best_61 hl (k := 1) rfl (nI_1 z) (by decide) rfl (fun ls hl => ?_)
            refine lv_goto (tgt := 17) hx hb dL_best_64 (by decide) ?_
            exact ih_17 (z + 1) z (by omega) (by omega) (bestTo_take hN hz hg hinv_z (fun h9 => fr_m1.mp h9 ((hp_6 z hz).mp hbt)) ((rkn_btr hg (by omega) hwx).mp (by have h8 := (pk_lLT (by omega) (by omega)).mp (Int64.not_le.mp (fun h9 => c_49 ((lg_cmp_ge _ _).mpr h9))); omega))) _ _ hG _ (lv_sub hl [0, 1, 2, 3, 4, 5, 6] rfl)
        · refine q_ren (sh1_f (by omega) hbt) ?_
          refine lv_iconst (v := nI 1) hx hb dL_best_32 (by decide) ?_
          refine lv_icmp_ne (tgt := 57) hx hb dL_best_33 (by decide) (fun _ => ?_) (fun c9 => False.elim (by revert c9; decide))
          refine lv_iload hx hb dL_best_57 (lv_at hl 1 rfl) ?_
          refine lv_istore (lv' := [(5, .int (nI w)), (6, .int (nI z)), (4, .int r_6), (0, .ref (ka 0)), (1, .ref (ka 1)), (2, .ref (ka 2)), (3, .int (nI f0))]) hx hb dL_best_59 hl (by decide) rfl (fun ls hl => ?_)
          refine lv_iinc (v := (nI (z + 1))) (lv' := [(6, .int (nI (z + 1))), (5, .int (nI w)), (4, .int r_6), (0, .ref (ka 0)), (1, .ref (ka 1)), (2, .ref (ka 2)), (3, .int (nI f0))]) hx hb dL_best_61 hl (k := 1) rfl (nI_1 z) (by decide) rfl (fun ls hl => ?_)
          refine lv_goto (tgt := 17) hx hb dL_best_64 (by decide) ?_
          exact ih_17 (z + 1) w (by omega) (by omega) (bestTo_skip hinv_z (Or.inl (fr_m1.mpr (fun h9 => hbt ((hp_6 z hz).mpr h9))))) _ _ hG _ (lv_sub hl [0, 1, 2, 3, 4, 5, 6] rfl)
  exact loop_17 (N + 1) 0 f0 (by omega) (by omega) (⟨hf, fr_self, fun j h9 => absurd h9 (Nat.not_lt_zero _)⟩) _ _ hG _ (lv_sub hl [0, 1, 2, 3, 4, 5, 6] rfl)

set_option maxHeartbeats 4000000 in
set_option maxRecDepth 100000 in
theorem c_L_far (l : Launch) (g : EN) (ka : Nat → Nat) (nn : Nat → Int32) (aa : Nat → Int32) (ll : Nat → Int32) (yy : Nat → Int64) (tt : Nat → Int32) (kk : Nat → Int64) (oo : Nat → Int64) (N : Nat) (dom gr va dr : Nat → Int32) (lk : Nat → Int32) (f0 w0 : Nat) (hf : f0 < N) (hw : w0 < N) (hr9 : rch N dom lk f0 9 w0) (hn0 : nn 0 = nI N) (hN : N ≤ 10) (hA : LA N aa dom gr va dr) (hB : LB ll lk) : Ci l yL_far wsL_far ({ frames := 2, cells := 0, slots := 0, locals := 52 }) g [.ref (ka 0), .ref (ka 1), .ref (ka 2), .int (nI f0), .int (nI w0)] (lNet g ka nn aa ll yy tt kk oo) (fun (r : Int32) (k : Nat) => r = nI k ∧ k ≤ 9 ∧ rch N dom lk f0 k w0 ∧ ∀ k', k' < k → ¬ rch N dom lk f0 k' w0) (fun (_ : Nat) => (lNet g ka nn aa ll yy tt kk oo)) := by
  refine Ci.of (cc := cL_far) (maxL := 6) (by decide) rfl (Nat.le_of_ble_eq_true rfl) ?_
  intro p e s m args below meth c A Q ls hM hG hRet hl
  have hx := hM.1
  have hb := hM.2.1
  have hown := hM.2.2.2.1
  have hts := hM.2.2.2.2
  have hl : lv_has ls 6 [(0, .ref (ka 0)), (1, .ref (ka 1)), (2, .ref (ka 2)), (3, .int (nI f0)), (4, .int (nI w0))] := hl
  refine lv_iconst (v := nI 0) hx hb dL_far_0 (by decide) ?_
  refine lv_istore (lv' := [(5, .int (nI 0)), (0, .ref (ka 0)), (1, .ref (ka 1)), (2, .ref (ka 2)), (3, .int (nI f0)), (4, .int (nI w0))]) hx hb dL_far_1 hl (by decide) rfl (fun ls hl => ?_)
  have loop_3 : ∀ (n9 z : Nat) , z ≤ 9 → 9 < z + n9 → (∀ k', k' < z → ¬ rch N dom lk f0 k' w0) → ∀ (H : Heap) (locs : List Loc), cC g (lNet g ka nn aa ll yy tt kk oo) A s H locs → ∀ (ls : Array Slot), lv_has ls 6 [(5, .int (nI z)), (0, .ref (ka 0)), (1, .ref (ka 1)), (2, .ref (ka 2)), (3, .int (nI f0)), (4, .int (nI w0))] → W p l e ({ frames := 2, cells := 0, slots := 0, locals := 52 } : Room) s m args below meth c H locs 0 0 Q (F0 m 3 ls []) := by
    intro n9
    induction n9 with
    | zero => intro z  h1 h2; exact absurd h2 (by omega)
    | succ n9 ih_3 =>
      intro z  hle_z hlt9 hinv_z H locs hG ls hl
      refine lv_aload_n hx hb dL_far_3 rfl (lv_at hl 1 rfl) ?_
      refine lv_aload_n hx hb dL_far_4 rfl (lv_at hl 2 rfl) ?_
      refine lv_aload_n hx hb dL_far_5 rfl (lv_at hl 3 rfl) ?_
      refine lv_iload_n hx hb dL_far_6 rfl (lv_at hl 4 rfl) ?_
      refine lv_iload hx hb dL_far_7 (lv_at hl 0 rfl) ?_
      refine q_fSi FR.i (n := 5) (As := [.ref (ka 0), .ref (ka 1), .ref (ka 2), .int (nI f0), .int (nI z)]) (rest := []) hM hl.1 hG (c_L_reached l g ka nn aa ll yy tt kk oo N dom gr va dr lk f0 z hf (by omega) hn0 hN hA hB) rfl gL_far_L_reached (by decide +kernel) ⟨Nat.le_of_ble_eq_true rfl, Nat.le_of_ble_eq_true rfl⟩ rfl rfl (Nat.le_of_ble_eq_true rfl) dL_far_9 (c1 := 0) (s1 := 0) rfl rfl ⟨Nat.le_of_ble_eq_true rfl, Nat.le_of_ble_eq_true rfl⟩ (fun r_9 u_9 H locs hp_9 hG => ?_)
      have hG : cC g (lNet g ka nn aa ll yy tt kk oo) A s H locs := hG
      refine lv_iload hx hb dL_far_12 (lv_at hl 5 rfl) ?_
      refine lv_ishr hx hb dL_far_14 ?_
      refine lv_iconst (v := nI 1) hx hb dL_far_15 (by decide) ?_
      refine lv_iand hx hb dL_far_16 ?_
      by_cases hbt : bt r_9 w0 = true
      · refine q_ren (sh1_t (by omega) hbt) ?_
        refine lv_if_ne (tgt := 26) hx hb dL_far_17 (by decide) (fun _ => ?_) (fun c9 => False.elim (by revert c9; decide))
        refine lv_iload hx hb dL_far_26 (lv_at hl 0 rfl) ?_
        exact hRet (nI z) z _ _ _ _ _ _ (⟨rfl, hle_z, (hp_9 w0 hw).mp hbt, hinv_z⟩) hG (Nat.le_of_ble_eq_true rfl) (Nat.le_of_ble_eq_true rfl) dL_far_28
      · refine q_ren (sh1_f (by omega) hbt) ?_
        have hz9 : z < 9 := by rcases Nat.lt_or_ge z 9 with h9 | h9; (exact h9); (have e9 : z = 9 := (by omega); subst e9; exact absurd ((hp_9 w0 hw).mpr hr9) hbt)
        refine lv_if_ne (tgt := 26) hx hb dL_far_17 (by decide) (fun c9 => False.elim (by revert c9; decide)) (fun _ => ?_)
        refine lv_iinc (v := (nI (z + 1))) (lv' := [(5, .int (nI (z + 1))), (0, .ref (ka 0)), (1, .ref (ka 1)), (2, .ref (ka 2)), (3, .int (nI f0)), (4, .int (nI w0))]) hx hb dL_far_20 hl (k := 0) rfl (nI_1 z) (by decide) rfl (fun ls hl => ?_)
        refine lv_goto (tgt := 3) hx hb dL_far_23 (by decide) ?_
        exact ih_3 (z + 1)  (by omega) (by omega) (fun k' hk => by by_cases e9 : k' = z; (subst e9; exact fun h9 => hbt ((hp_9 w0 hw).mpr h9)); exact hinv_z k' (by omega)) _ _ hG _ (lv_sub hl [0, 1, 2, 3, 4, 5] rfl)
  exact loop_3 (9 + 1) 0  (by omega) (by omega) (fun k' h9 => absurd h9 (Nat.not_lt_zero _)) _ _ hG _ (lv_sub hl [0, 1, 2, 3, 4, 5] rfl)

set_option maxHeartbeats 4000000 in
set_option maxRecDepth 100000 in
theorem c_L_port (l : Launch) (g : EN) (ka : Nat → Nat) (nn : Nat → Int32) (aa : Nat → Int32) (ll : Nat → Int32) (yy : Nat → Int64) (tt : Nat → Int32) (kk : Nat → Int64) (oo : Nat → Int64) (N : Nat) (dom gr va dr : Nat → Int32) (lk : Nat → Int32) (K : KT) (i j : Nat) (hi : i < N) (hj : j < N) (hN : N ≤ 10) (hA : LA N aa dom gr va dr) (hB : LB ll lk) (hK : LK N K kk) : Ci l yL_port wsL_port ({ frames := 1, cells := 0, slots := 0, locals := 23 }) g [.ref (ka 1), .ref (ka 2), .ref (ka 5), .int (nI i), .int (nI j)] (lNet g ka nn aa ll yy tt kk oo) (fun (r : Int32) (_ : Unit) => r = prt dom lk K.2.2.1 K.2.2.2 i j) (fun (_ : Unit) => (lNet g ka nn aa ll yy tt kk oo)) := by
  refine Ci.of (cc := cL_port) (maxL := 6) (by decide) rfl (Nat.le_of_ble_eq_true rfl) ?_
  intro p e s m args below meth c A Q ls hM hG hRet hl
  have hx := hM.1
  have hb := hM.2.1
  have hown := hM.2.2.2.1
  have hts := hM.2.2.2.2
  have hl : lv_has ls 6 [(0, .ref (ka 1)), (1, .ref (ka 2)), (2, .ref (ka 5)), (3, .int (nI i)), (4, .int (nI j))] := hl
  obtain ⟨r1, s1, q1, a11, a12, a13, a14, a15, a16, a17, a18, a19⟩ := id (hK i hi)
  obtain ⟨r2, s2, q2, a21, a22, a23, a24, a25, a26, a27, a28, a29⟩ := id (hK j hj)
  have hnr : (K.2.2.1 i < K.2.2.1 j ∨ K.2.2.1 i = K.2.2.1 j ∧ i < j) ↔ s1 * 10 + i < s2 * 10 + j := by rw [a17, a27, nI_ltI (by omega) (by omega), nI_eq (by omega) (by omega)]; omega
  refine lv_aload_n hx hb dL_port_0 rfl (lv_at hl 0 rfl) ?_
  refine lv_aload_n hx hb dL_port_1 rfl (lv_at hl 1 rfl) ?_
  refine lv_iload_n hx hb dL_port_2 rfl (lv_at hl 3 rfl) ?_
  refine lv_iload hx hb dL_port_3 (lv_at hl 4 rfl) ?_
  refine q_fSi FR.i (n := 4) (As := [.ref (ka 1), .ref (ka 2), .int (nI i), .int (nI j)]) (rest := []) hM hl.1 hG (c_L_areNear l g ka nn aa ll yy tt kk oo N dom gr va dr lk i j hi hj hN hA hB) rfl gL_port_L_areNear (by decide +kernel) ⟨Nat.le_of_ble_eq_true rfl, Nat.le_of_ble_eq_true rfl⟩ rfl rfl (Nat.le_of_ble_eq_true rfl) dL_port_5 (c1 := 0) (s1 := 0) rfl rfl ⟨Nat.le_of_ble_eq_true rfl, Nat.le_of_ble_eq_true rfl⟩ (fun r_5 u_5 H locs hp_5 hG => ?_)
  have hG : cC g (lNet g ka nn aa ll yy tt kk oo) A s H locs := hG
  rcases hp_5 with ⟨rfl, hp_5⟩ | ⟨rfl, hp_5⟩
  · refine lv_if_ne (tgt := 13) hx hb dL_port_8 (by decide) (fun _ => ?_) (fun c9 => False.elim (by revert c9; decide))
    refine lv_aload_n hx hb dL_port_13 rfl (lv_at hl 2 rfl) ?_
    refine lv_iload_n hx hb dL_port_14 rfl (lv_at hl 3 rfl) ?_
    refine q_lald hM hG 5 (i := i) rfl (by omega) (by decide) dL_port_15 ?_
    refine q_renl a19 ?_
    refine q_fSi (FR.n (lNet g ka nn aa ll yy tt kk oo)) (n := 1) (As := [.long (lN (r1 * 110 + s1 * 11 + q1))]) (rest := []) hM hl.1 hG (c_L_steps l g  (r1 * 110 + s1 * 11 + q1) (by omega) ) rfl gL_port_L_steps (by decide +kernel) ⟨Nat.le_of_ble_eq_true rfl, Nat.le_of_ble_eq_true rfl⟩ rfl rfl (Nat.le_of_ble_eq_true rfl) dL_port_16 (c1 := 0) (s1 := 0) rfl rfl ⟨Nat.le_of_ble_eq_true rfl, Nat.le_of_ble_eq_true rfl⟩ (fun r_16 u_16 H locs hp_16 hG => ?_)
    have hG : cC g (lNet g ka nn aa ll yy tt kk oo) A s H locs := hG
    subst hp_16
    refine q_ren (show nI ((r1 * 110 + s1 * 11 + q1) / 11 % 10) = (nI s1) from congrArg nI (by omega)) ?_
    refine lv_bipush (v := nI 10) hx hb dL_port_19 (by decide) ?_
    refine lv_imul hx hb dL_port_21 ?_
    refine q_ren (pk_mul s1 10) ?_
    refine lv_iload_n hx hb dL_port_22 rfl (lv_at hl 3 rfl) ?_
    refine lv_iadd hx hb dL_port_23 ?_
    refine q_ren (nI_add (s1 * 10) i) ?_
    refine lv_aload_n hx hb dL_port_24 rfl (lv_at hl 2 rfl) ?_
    refine lv_iload hx hb dL_port_25 (lv_at hl 4 rfl) ?_
    refine q_lald hM hG 5 (i := j) rfl (by omega) (by decide) dL_port_27 ?_
    refine q_renl a29 ?_
    refine q_fSi (FR.n (lNet g ka nn aa ll yy tt kk oo)) (n := 1) (As := [.long (lN (r2 * 110 + s2 * 11 + q2))]) (rest := [.int (nI (s1 * 10 + i))]) hM hl.1 hG (c_L_steps l g  (r2 * 110 + s2 * 11 + q2) (by omega) ) rfl gL_port_L_steps (by decide +kernel) ⟨Nat.le_of_ble_eq_true rfl, Nat.le_of_ble_eq_true rfl⟩ rfl rfl (Nat.le_of_ble_eq_true rfl) dL_port_28 (c1 := 0) (s1 := 0) rfl rfl ⟨Nat.le_of_ble_eq_true rfl, Nat.le_of_ble_eq_true rfl⟩ (fun r_28 u_28 H locs hp_28 hG => ?_)
    have hG : cC g (lNet g ka nn aa ll yy tt kk oo) A s H locs := hG
    subst hp_28
    refine q_ren (show nI ((r2 * 110 + s2 * 11 + q2) / 11 % 10) = (nI s2) from congrArg nI (by omega)) ?_
    refine lv_bipush (v := nI 10) hx hb dL_port_31 (by decide) ?_
    refine lv_imul hx hb dL_port_33 ?_
    refine q_ren (pk_mul s2 10) ?_
    refine lv_iload hx hb dL_port_34 (lv_at hl 4 rfl) ?_
    refine lv_iadd hx hb dL_port_36 ?_
    refine q_ren (nI_add (s2 * 10) j) ?_
    refine lv_icmp_ge (tgt := 44) hx hb dL_port_37 (by decide) (fun c_37 => ?_) (fun c_37 => ?_)
    · have hnn : ¬ s1 * 10 + i < s2 * 10 + j := by have h9 := (nI_leI (by omega) (by omega)).mp c_37; omega
      refine lv_iconst (v := nI 0) hx hb dL_port_44 (by decide) ?_
      refine lv_istore (lv' := [(5, .int (nI 0)), (0, .ref (ka 1)), (1, .ref (ka 2)), (2, .ref (ka 5)), (3, .int (nI i)), (4, .int (nI j))]) hx hb dL_port_45 hl (by decide) rfl (fun ls hl => ?_)
      refine lv_aload_n hx hb dL_port_47 rfl (lv_at hl 3 rfl) ?_
      refine lv_iload_n hx hb dL_port_48 rfl (lv_at hl 4 rfl) ?_
      refine q_lald hM hG 5 (i := i) rfl (by omega) (by decide) dL_port_49 ?_
      refine q_renl a19 ?_
      refine q_fSi (FR.n (lNet g ka nn aa ll yy tt kk oo)) (n := 1) (As := [.long (lN (r1 * 110 + s1 * 11 + q1))]) (rest := []) hM hl.1 hG (c_L_parent l g  (r1 * 110 + s1 * 11 + q1) (by omega) ) rfl gL_port_L_parent (by decide +kernel) ⟨Nat.le_of_ble_eq_true rfl, Nat.le_of_ble_eq_true rfl⟩ rfl rfl (Nat.le_of_ble_eq_true rfl) dL_port_50 (c1 := 0) (s1 := 0) rfl rfl ⟨Nat.le_of_ble_eq_true rfl, Nat.le_of_ble_eq_true rfl⟩ (fun r_50 u_50 H locs hp_50 hG => ?_)
      have hG : cC g (lNet g ka nn aa ll yy tt kk oo) A s H locs := hG
      subst hp_50
      refine q_ren (show nI ((r1 * 110 + s1 * 11 + q1) % 11) - 1 = (nI q1 - 1) from by rw [show (r1 * 110 + s1 * 11 + q1) % 11 = q1 by omega]) ?_
      refine lv_iload hx hb dL_port_53 (lv_at hl 5 rfl) ?_
      refine lv_icmp_ne (tgt := 62) hx hb dL_port_55 (by decide) (fun c_55 => ?_) (fun c_55 => ?_)
      · refine lv_aload_n hx hb dL_port_62 rfl (lv_at hl 3 rfl) ?_
        refine lv_iload hx hb dL_port_63 (lv_at hl 5 rfl) ?_
        refine q_lald hM hG 5 (i := j) rfl (by omega) (by decide) dL_port_65 ?_
        refine q_renl a29 ?_
        refine q_fSi (FR.n (lNet g ka nn aa ll yy tt kk oo)) (n := 1) (As := [.long (lN (r2 * 110 + s2 * 11 + q2))]) (rest := []) hM hl.1 hG (c_L_parent l g  (r2 * 110 + s2 * 11 + q2) (by omega) ) rfl gL_port_L_parent (by decide +kernel) ⟨Nat.le_of_ble_eq_true rfl, Nat.le_of_ble_eq_true rfl⟩ rfl rfl (Nat.le_of_ble_eq_true rfl) dL_port_66 (c1 := 0) (s1 := 0) rfl rfl ⟨Nat.le_of_ble_eq_true rfl, Nat.le_of_ble_eq_true rfl⟩ (fun r_66 u_66 H locs hp_66 hG => ?_)
        have hG : cC g (lNet g ka nn aa ll yy tt kk oo) A s H locs := hG
        subst hp_66
        refine q_ren (show nI ((r2 * 110 + s2 * 11 + q2) % 11) - 1 = (nI q2 - 1) from by rw [show (r2 * 110 + s2 * 11 + q2) % 11 = q2 by omega]) ?_
        refine lv_iload_n hx hb dL_port_69 rfl (lv_at hl 4 rfl) ?_
        refine lv_icmp_eq (tgt := 78) hx hb dL_port_70 (by decide) (fun c_70 => ?_) (fun c_70 => ?_)
        · refine lv_iconst (v := nI 2) hx hb dL_port_78 (by decide) ?_
          refine lv_goto (tgt := 83) hx hb dL_port_79 (by decide) ?_
          exact hRet (nI 2) () _ _ _ _ _ _ (by unfold prt; rw [if_neg (fun h9 => h9 hp_5), if_neg (fun h9 => c_55 (a18.symm.trans h9)), if_pos (Or.inl (a28.trans c_70))]; rfl) hG (Nat.le_of_ble_eq_true rfl) (Nat.le_of_ble_eq_true rfl) dL_port_83
        · refine lv_iload hx hb dL_port_73 (lv_at hl 0 rfl) ?_
          refine lv_if_eq (tgt := 82) hx hb dL_port_75 (by decide) (fun _ => ?_) (fun c9 => False.elim (by revert c9; decide))
          refine lv_iconst (v := nI 3) hx hb dL_port_82 (by decide) ?_
          exact hRet (nI 3) () _ _ _ _ _ _ (by unfold prt; rw [if_neg (fun h9 => h9 hp_5), if_neg (fun h9 => c_55 (a18.symm.trans h9)), if_neg (fun h9 => h9.elim (fun h8 => c_70 (a28.symm.trans h8)) (fun h8 => hnn (hnr.mp h8)))]; rfl) hG (Nat.le_of_ble_eq_true rfl) (Nat.le_of_ble_eq_true rfl) dL_port_83
      · refine lv_iconst (v := nI 1) hx hb dL_port_58 (by decide) ?_
        refine lv_goto (tgt := 83) hx hb dL_port_59 (by decide) ?_
        exact hRet (nI 1) () _ _ _ _ _ _ (by unfold prt; rw [if_neg (fun h9 => h9 hp_5), if_pos (a18.trans c_55)]; rfl) hG (Nat.le_of_ble_eq_true rfl) (Nat.le_of_ble_eq_true rfl) dL_port_83
    · have hnn : s1 * 10 + i < s2 * 10 + j := Nat.lt_of_not_le (fun h9 => c_37 ((nI_leI (by omega) (by omega)).mpr h9))
      refine lv_iconst (v := nI 1) hx hb dL_port_40 (by decide) ?_
      refine lv_goto (tgt := 45) hx hb dL_port_41 (by decide) ?_
      refine lv_istore (lv' := [(5, .int (nI 1)), (0, .ref (ka 1)), (1, .ref (ka 2)), (2, .ref (ka 5)), (3, .int (nI i)), (4, .int (nI j))]) hx hb dL_port_45 hl (by decide) rfl (fun ls hl => ?_)
      refine lv_aload_n hx hb dL_port_47 rfl (lv_at hl 3 rfl) ?_
      refine lv_iload_n hx hb dL_port_48 rfl (lv_at hl 4 rfl) ?_
      refine q_lald hM hG 5 (i := i) rfl (by omega) (by decide) dL_port_49 ?_
      refine q_renl a19 ?_
      refine q_fSi (FR.n (lNet g ka nn aa ll yy tt kk oo)) (n := 1) (As := [.long (lN (r1 * 110 + s1 * 11 + q1))]) (rest := []) hM hl.1 hG (c_L_parent l g  (r1 * 110 + s1 * 11 + q1) (by omega) ) rfl gL_port_L_parent (by decide +kernel) ⟨Nat.le_of_ble_eq_true rfl, Nat.le_of_ble_eq_true rfl⟩ rfl rfl (Nat.le_of_ble_eq_true rfl) dL_port_50 (c1 := 0) (s1 := 0) rfl rfl ⟨Nat.le_of_ble_eq_true rfl, Nat.le_of_ble_eq_true rfl⟩ (fun r_50 u_50 H locs hp_50 hG => ?_)
      have hG : cC g (lNet g ka nn aa ll yy tt kk oo) A s H locs := hG
      subst hp_50
      refine q_ren (show nI ((r1 * 110 + s1 * 11 + q1) % 11) - 1 = (nI q1 - 1) from by rw [show (r1 * 110 + s1 * 11 + q1) % 11 = q1 by omega]) ?_
      refine lv_iload hx hb dL_port_53 (lv_at hl 5 rfl) ?_
      refine lv_icmp_ne (tgt := 62) hx hb dL_port_55 (by decide) (fun c_55 => ?_) (fun c_55 => ?_)
      · refine lv_aload_n hx hb dL_port_62 rfl (lv_at hl 3 rfl) ?_
        refine lv_iload hx hb dL_port_63 (lv_at hl 5 rfl) ?_
        refine q_lald hM hG 5 (i := j) rfl (by omega) (by decide) dL_port_65 ?_
        refine q_renl a29 ?_
        refine q_fSi (FR.n (lNet g ka nn aa ll yy tt kk oo)) (n := 1) (As := [.long (lN (r2 * 110 + s2 * 11 + q2))]) (rest := []) hM hl.1 hG (c_L_parent l g  (r2 * 110 + s2 * 11 + q2) (by omega) ) rfl gL_port_L_parent (by decide +kernel) ⟨Nat.le_of_ble_eq_true rfl, Nat.le_of_ble_eq_true rfl⟩ rfl rfl (Nat.le_of_ble_eq_true rfl) dL_port_66 (c1 := 0) (s1 := 0) rfl rfl ⟨Nat.le_of_ble_eq_true rfl, Nat.le_of_ble_eq_true rfl⟩ (fun r_66 u_66 H locs hp_66 hG => ?_)
        have hG : cC g (lNet g ka nn aa ll yy tt kk oo) A s H locs := hG
        subst hp_66
        refine q_ren (show nI ((r2 * 110 + s2 * 11 + q2) % 11) - 1 = (nI q2 - 1) from by rw [show (r2 * 110 + s2 * 11 + q2) % 11 = q2 by omega]) ?_
        refine lv_iload_n hx hb dL_port_69 rfl (lv_at hl 4 rfl) ?_
        refine lv_icmp_eq (tgt := 78) hx hb dL_port_70 (by decide) (fun c_70 => ?_) (fun c_70 => ?_)
        · refine lv_iconst (v := nI 2) hx hb dL_port_78 (by decide) ?_
          refine lv_goto (tgt := 83) hx hb dL_port_79 (by decide) ?_
          exact hRet (nI 2) () _ _ _ _ _ _ (by unfold prt; rw [if_neg (fun h9 => h9 hp_5), if_neg (fun h9 => c_55 (a18.symm.trans h9)), if_pos (Or.inl (a28.trans c_70))]; rfl) hG (Nat.le_of_ble_eq_true rfl) (Nat.le_of_ble_eq_true rfl) dL_port_83
        · refine lv_iload hx hb dL_port_73 (lv_at hl 0 rfl) ?_
          refine lv_if_eq (tgt := 82) hx hb dL_port_75 (by decide) (fun c9 => False.elim (by revert c9; decide)) (fun _ => ?_)
          refine lv_iconst (v := nI 2) hx hb dL_port_78 (by decide) ?_
          refine lv_goto (tgt := 83) hx hb dL_port_79 (by decide) ?_
          exact hRet (nI 2) () _ _ _ _ _ _ (by unfold prt; rw [if_neg (fun h9 => h9 hp_5), if_neg (fun h9 => c_55 (a18.symm.trans h9)), if_pos (Or.inr (hnr.mpr hnn))]; rfl) hG (Nat.le_of_ble_eq_true rfl) (Nat.le_of_ble_eq_true rfl) dL_port_83
      · refine lv_iconst (v := nI 1) hx hb dL_port_58 (by decide) ?_
        refine lv_goto (tgt := 83) hx hb dL_port_59 (by decide) ?_
        exact hRet (nI 1) () _ _ _ _ _ _ (by unfold prt; rw [if_neg (fun h9 => h9 hp_5), if_pos (a18.trans c_55)]; rfl) hG (Nat.le_of_ble_eq_true rfl) (Nat.le_of_ble_eq_true rfl) dL_port_83
  · refine lv_if_ne (tgt := 13) hx hb dL_port_8 (by decide) (fun c9 => False.elim (by revert c9; decide)) (fun _ => ?_)
    refine lv_iconst (v := nI 0) hx hb dL_port_11 (by decide) ?_
    exact hRet (nI 0) () _ _ _ _ _ _ (by unfold prt; rw [if_pos hp_5]; rfl) hG (Nat.le_of_ble_eq_true rfl) (Nat.le_of_ble_eq_true rfl) dL_port_12
