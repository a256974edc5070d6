/-- what holds at the loop's head, behind t turns -/
def JZ (g : EN) (h ka : Nat → Nat) (A : Nat → Prop) (s : State) (t : Nat) (H : Heap) (locs : List Loc) : Prop :=
  ∃ (N : Nat) (tk : Int32) (dom : Nat → Int32) (gr : Nat → Int32) (va : Nat → Int32) (dr : Nat → Int32) (off : Nat → Int64) (rt : Nat → Int64) (cnt : Int32) (lk : Nat → Int32) (dl : Nat → Int32) (td : Nat → Int32) (K : KT) (E : KT) (ds : Nat → Int32) (nn : Nat → Int32) (aa : Nat → Int32) (ll : Nat → Int32) (yy : Nat → Int64) (tt : Nat → Int32) (kk : Nat → Int64) (oo : Nat → Int64), cC g ((cNet g h N tk dom gr va dr off rt cnt lk dl td K E ds) ++ (lNet g ka nn aa ll yy tt kk oo)) A s H locs ∧ JV N tk dom gr va dr off rt cnt lk dl td K nn aa ll yy tt kk oo ∧ (0 < t → 0 < N)
theorem ctr_ge' {a b : Nat} (ha : a ≤ 1000) (hb : b ≤ 1000) (c : nI b ≤ nI a) : b ≤ a := (nI_leI (by omega) (by omega)).mp c
set_option maxHeartbeats 4000000 in
set_option maxRecDepth 100000 in
theorem law_loop {p : Program} {e : Env} {s : State} {m : MethodId} {below : List Frame} {meth : Method} {c : Code} (l : Launch) (hl0 : l.stackTraces = false) {b L : Nat} {xs : Nat → Int32} (C0 : lw_At p s m meth c b L xs) {g : EN} {h ka : Nat → Nat} {A : Nat → Prop} (hbA : ¬ A b) (hAs : ∀ q, A q → s.heap.size ≤ q) (hL30 : L < 2 ^ 30) : ∀ (n t : Nat) {H : Heap} {locs : List Loc} {ls : Array Slot}, t ≤ 110 → 110 < t + n → JZ g h ka A s t H locs → lv_has ls 20 [(0, .ref b), (1, .ref (h 0)), (2, .ref (ka 0)), (3, .ref (ka 1)), (4, .ref (ka 2)), (5, .ref (ka 3)), (6, .ref (ka 4)), (7, .ref (ka 5)), (8, .ref (ka 6)), (9, .int (nI 1)), (10, .int (nI t))] → W p l e room_1 s m #[Value.ref b] below meth c H locs (29 + 60 * t) (647 + 600 * t) (lw_Z below #[Value.ref b] s) (F0 m 65 ls []) := by
  intro n
  induction n with
  | zero => intro t H locs ls h1 h2; omega
  | succ n ih =>
    intro t H locs ls ht110 hn9 hJ hl
    obtain ⟨hx, hb, hr, hml, hown, hts0, hX, hbl, hlocks, hgv⟩ := id C0
    have hM : CallFix p m c cL_law 20 s #[Value.ref b] wsL_law RL := ⟨hx, hb, hml, hown, fun w h => hts0 w (wsL_law_in w h)⟩
    have hts := hM.2.2.2.2
    obtain ⟨N, tk, dom, gr, va, dr, off, rt, cnt, lk, dl, td, K, E, ds, nn, aa, ll, yy, tt, kk, oo, hG, V, hz0⟩ := hJ
    obtain ⟨hN, hg, hlk, hself, hsy, hn0, hn1, hn2, hA, hB, hY, hT, hK, hO, C1, hC1, hC2, hC3⟩ := id V
    refine lv_iload hx hb dL_law_65 (lv_at hl 10 rfl) ?_
    refine lv_bipush (v := nI 110) hx hb dL_law_67 (by decide) ?_
    refine lv_icmp_ge (tgt := 1303) hx hb dL_law_69 (by decide) (fun c_69 => ?_) (fun c_69 => ?_)
    · have ht : t = 110 := by have h9 := ctr_ge' (a := t) (b := 110) (by omega) (by omega) c_69; omega
      have hroom : 29 + 60 * t ≤ room_1.cells ∧ 647 + 600 * t ≤ room_1.slots := ⟨show _ ≤ 600104 by omega, show _ ≤ 7301314 by omega⟩
      refine lv_iload hx hb dL_law_1303 (lv_at hl 9 rfl) ?_
      refine lv_if_eq (tgt := 1328) hx hb dL_law_1305 (by decide) (fun c9 => False.elim (by revert c9; decide)) (fun _ => ?_)
      refine lv_aload_n hx hb dL_law_1308 rfl (lv_at hl 1 rfl) ?_
      refine lv_aload_n hx hb dL_law_1309 rfl (lv_at hl 2 rfl) ?_
      refine lv_aload_n hx hb dL_law_1310 rfl (lv_at hl 3 rfl) ?_
      refine lv_aload hx hb dL_law_1311 (lv_at hl 4 rfl) ?_
      refine lv_aload hx hb dL_law_1313 (lv_at hl 7 rfl) ?_
      refine lv_aload hx hb dL_law_1315 (lv_at hl 8 rfl) ?_
      refine lv_iconst (v := nI 1) hx hb dL_law_1317 (by decide) ?_
      refine q_fSi FR.i (n := 7) (As := [.ref (h 0), .ref (ka 0), .ref (ka 1), .ref (ka 2), .ref (ka 5), .ref (ka 6), .int (nI 1)]) (rest := []) hM hl.1 hG (c_L_isNet l g h ka N tk dom gr va dr off rt cnt lk dl td K E ds nn aa ll yy tt kk oo 1 (by decide) V) rfl gL_law_L_isNet (by decide +kernel) ⟨Nat.le_of_ble_eq_true rfl, Nat.le_of_ble_eq_true rfl⟩ rfl rfl (Nat.le_of_ble_eq_true rfl) dL_law_1318 (c1 := 29 + 60 * t) (s1 := 647 + 600 * t) rfl rfl ⟨by omega, by omega⟩ (fun r_1318 u_1318 H locs hp_1318 hG => ?_)
      have hG : cC g ((cNet g h N tk dom gr va dr off rt cnt lk dl td K E u_1318) ++ (lNet g ka nn aa ll yy tt kk oo)) A s H locs := hG
      subst hp_1318
      refine lv_if_eq (tgt := 1328) hx hb dL_law_1321 (by decide) (fun c9 => False.elim (by revert c9; decide)) (fun _ => ?_)
      refine lv_iconst (v := nI 1) hx hb dL_law_1324 (by decide) ?_
      refine lv_goto (tgt := 1329) hx hb dL_law_1325 (by decide) ?_
      refine va_forget (fun q hq => hAs _ (hG.2.2.2.1.2.2 q hq)) ?_
      refine W.widen (k := 600104) (n := 7301314) (by omega) (by omega) ?_
      exact lw_ret hx hb hr hlocks dL_law_1329
    · have ht : t < 110 := by rcases Nat.lt_or_ge t 110 with h9 | h9; (exact h9); exact absurd ((nI_leI (by omega) (by omega)).mpr h9) c_69
      have hroom : 29 + 60 * t + 60 ≤ room_1.cells ∧ 647 + 600 * t + 600 ≤ room_1.slots := ⟨show _ ≤ 600104 by omega, show _ ≤ 7301314 by omega⟩
      have kont : ∀ (z : Nat), z < 2 ^ 27 → ∀ (H1 : Heap) (locs1 : List Loc) (ls1 : Array Slot), JI g h ka A s H1 locs1 → lv_has ls1 20 [(0, .ref b), (1, .ref (h 0)), (2, .ref (ka 0)), (3, .ref (ka 1)), (4, .ref (ka 2)), (5, .ref (ka 3)), (6, .ref (ka 4)), (7, .ref (ka 5)), (8, .ref (ka 6)), (9, .int (nI 1)), (10, .int (nI t)), (13, .int (nI z))] → W p l e room_1 s m #[Value.ref b] below meth c H1 locs1 (29 + 60 * t + 60) (647 + 600 * t + 600) (lw_Z below #[Value.ref b] s) (F0 m 1260 ls1 []) := by
        intro z h_z H locs ls hI hl
        obtain ⟨N, tk, dom, gr, va, dr, off, rt, cnt, lk, dl, td, K, E, ds, nn, aa, ll, yy, tt, kk, oo, hG, V, hN0⟩ := hI
        refine lv_iload hx hb dL_law_1260 (lv_at hl 9 rfl) ?_
        refine lv_if_eq (tgt := 1294) hx hb dL_law_1262 (by decide) (fun c9 => False.elim (by revert c9; decide)) (fun _ => ?_)
        refine lv_iload hx hb dL_law_1265 (lv_at hl 10 rfl) ?_
        refine lv_iconst (v := nI 4) hx hb dL_law_1267 (by decide) ?_
        refine lv_irem hx hb dL_law_1268 (by decide) ?_
        refine q_ren (pk_rem (a := t) (by omega) (by decide) (by decide)) ?_
        refine lv_iconst (v := nI 3) hx hb dL_law_1269 (by decide) ?_
        refine lv_icmp_lt (tgt := 1290) hx hb dL_law_1270 (by decide) (fun c_1270 => ?_) (fun c_1270 => ?_)
        · refine lv_iconst (v := nI 1) hx hb dL_law_1290 (by decide) ?_
          refine lv_goto (tgt := 1295) hx hb dL_law_1291 (by decide) ?_
          refine lv_istore (lv' := [(9, .int (nI 1)), (0, .ref b), (1, .ref (h 0)), (2, .ref (ka 0)), (3, .ref (ka 1)), (4, .ref (ka 2)), (5, .ref (ka 3)), (6, .ref (ka 4)), (7, .ref (ka 5)), (8, .ref (ka 6)), (10, .int (nI t)), (13, .int (nI z))]) hx hb dL_law_1295 hl (by decide) rfl (fun ls hl => ?_)
          refine lv_iinc (v := (nI (t + 1))) (lv' := [(10, .int (nI (t + 1))), (9, .int (nI 1)), (0, .ref b), (1, .ref (h 0)), (2, .ref (ka 0)), (3, .ref (ka 1)), (4, .ref (ka 2)), (5, .ref (ka 3)), (6, .ref (ka 4)), (7, .ref (ka 5)), (8, .ref (ka 6)), (13, .int (nI z))]) hx hb dL_law_1297 hl (k := 10) rfl (nI_1 t) (by decide) rfl (fun ls hl => ?_)
          refine lv_goto (tgt := 65) hx hb dL_law_1300 (by decide) ?_
          have h9 := ih (t + 1) (by omega) (by omega) (show JZ g h ka A s (t + 1) _ _ from ⟨_, _, _, _, _, _, _, _, _, _, _, _, _, _, _, _, _, _, _, _, _, _, hG, V, fun _ => hN0⟩) (lv_sub hl [2, 3, 4, 5, 6, 7, 8, 9, 10, 1, 0] rfl)
          rw [show 29 + 60 * (t + 1) = 29 + 60 * t + 60 by omega, show 647 + 600 * (t + 1) = 647 + 600 * t + 600 by omega] at h9
          exact h9
        · refine lv_aload_n hx hb dL_law_1273 rfl (lv_at hl 1 rfl) ?_
          refine lv_aload_n hx hb dL_law_1274 rfl (lv_at hl 2 rfl) ?_
          refine lv_aload_n hx hb dL_law_1275 rfl (lv_at hl 3 rfl) ?_
          refine lv_aload hx hb dL_law_1276 (lv_at hl 4 rfl) ?_
          refine lv_aload hx hb dL_law_1278 (lv_at hl 7 rfl) ?_
          refine lv_aload hx hb dL_law_1280 (lv_at hl 8 rfl) ?_
          refine lv_iload hx hb dL_law_1282 (lv_at hl 11 rfl) ?_
          refine q_fSi FR.i (n := 7) (As := [.ref (h 0), .ref (ka 0), .ref (ka 1), .ref (ka 2), .ref (ka 5), .ref (ka 6), .int (nI z)]) (rest := []) hM hl.1 hG (c_L_isNet l g h ka N tk dom gr va dr off rt cnt lk dl td K E ds nn aa ll yy tt kk oo z (by omega) V) rfl gL_law_L_isNet (by decide +kernel) ⟨Nat.le_of_ble_eq_true rfl, Nat.le_of_ble_eq_true rfl⟩ rfl rfl (Nat.le_of_ble_eq_true rfl) dL_law_1284 (c1 := 29 + 60 * t + 60) (s1 := 647 + 600 * t + 600) rfl rfl ⟨by omega, by omega⟩ (fun r_1284 u_1284 H locs hp_1284 hG => ?_)
          have hG : cC g ((cNet g h N tk dom gr va dr off rt cnt lk dl td K E u_1284) ++ (lNet g ka nn aa ll yy tt kk oo)) A s H locs := hG
          subst hp_1284
          refine lv_if_eq (tgt := 1294) hx hb dL_law_1287 (by decide) (fun c9 => False.elim (by revert c9; decide)) (fun _ => ?_)
          refine lv_iconst (v := nI 1) hx hb dL_law_1290 (by decide) ?_
          refine lv_goto (tgt := 1295) hx hb dL_law_1291 (by decide) ?_
          refine lv_istore (lv' := [(9, .int (nI 1)), (0, .ref b), (1, .ref (h 0)), (2, .ref (ka 0)), (3, .ref (ka 1)), (4, .ref (ka 2)), (5, .ref (ka 3)), (6, .ref (ka 4)), (7, .ref (ka 5)), (8, .ref (ka 6)), (10, .int (nI t)), (13, .int (nI z))]) hx hb dL_law_1295 hl (by decide) rfl (fun ls hl => ?_)
          refine lv_iinc (v := (nI (t + 1))) (lv' := [(10, .int (nI (t + 1))), (9, .int (nI 1)), (0, .ref b), (1, .ref (h 0)), (2, .ref (ka 0)), (3, .ref (ka 1)), (4, .ref (ka 2)), (5, .ref (ka 3)), (6, .ref (ka 4)), (7, .ref (ka 5)), (8, .ref (ka 6)), (13, .int (nI z))]) hx hb dL_law_1297 hl (k := 10) rfl (nI_1 t) (by decide) rfl (fun ls hl => ?_)
          refine lv_goto (tgt := 65) hx hb dL_law_1300 (by decide) ?_
          have h9 := ih (t + 1) (by omega) (by omega) (show JZ g h ka A s (t + 1) _ _ from ⟨_, _, _, _, _, _, _, _, _, _, _, _, _, _, _, _, _, _, _, _, _, _, hG, V, fun _ => hN0⟩) (lv_sub hl [2, 3, 4, 5, 6, 7, 8, 9, 10, 1, 0] rfl)
          rw [show 29 + 60 * (t + 1) = 29 + 60 * t + 60 by omega, show 647 + 600 * (t + 1) = 647 + 600 * t + 600 by omega] at h9
          exact h9
      refine lv_iload hx hb dL_law_72 (lv_at hl 9 rfl) ?_
      refine lv_if_eq (tgt := 1303) hx hb dL_law_74 (by decide) (fun c9 => False.elim (by revert c9; decide)) (fun _ => ?_)
      have cut_117 : ∀ (X : Nat), X < 2 ^ 31 → ∀ (H : Heap) (locs : List Loc), cC g ((cNet g h N tk dom gr va dr off rt cnt lk dl td K E ds) ++ (lNet g ka nn aa ll yy tt kk oo)) A s H locs → ∀ (ls : Array Slot), lv_has ls 20 [(11, .int (nI X)), (0, .ref b), (1, .ref (h 0)), (2, .ref (ka 0)), (3, .ref (ka 1)), (4, .ref (ka 2)), (5, .ref (ka 3)), (6, .ref (ka 4)), (7, .ref (ka 5)), (8, .ref (ka 6)), (9, .int (nI 1)), (10, .int (nI t))] → W p l e room_1 s m #[Value.ref b] below meth c H locs (29 + 60 * t) (647 + 600 * t) (lw_Z below #[Value.ref b] s) (F0 m 117 ls []) := by
        intro X h_X H locs hG ls hl
        have cut_145 : ∀ (kd : Nat), (t = 0 → kd = 0) ∧ kd ≤ 16 → ∀ (H : Heap) (locs : List Loc), cC g ((cNet g h N tk dom gr va dr off rt cnt lk dl td K E ds) ++ (lNet g ka nn aa ll yy tt kk oo)) A s H locs → ∀ (ls : Array Slot), lv_has ls 20 [(12, .int (nI kd)), (11, .int (nI X)), (0, .ref b), (1, .ref (h 0)), (2, .ref (ka 0)), (3, .ref (ka 1)), (4, .ref (ka 2)), (5, .ref (ka 3)), (6, .ref (ka 4)), (7, .ref (ka 5)), (8, .ref (ka 6)), (9, .int (nI 1)), (10, .int (nI t))] → W p l e room_1 s m #[Value.ref b] below meth c H locs (29 + 60 * t) (647 + 600 * t) (lw_Z below #[Value.ref b] s) (F0 m 145 ls []) := by
          intro kd h_kd H locs hG ls hl
          have cut_152 : ∀ (z : Nat), z < 2 ^ 27 → ∀ (H : Heap) (locs : List Loc), cC g ((cNet g h N tk dom gr va dr off rt cnt lk dl td K E ds) ++ (lNet g ka nn aa ll yy tt kk oo)) A s H locs → ∀ (ls : Array Slot), lv_has ls 20 [(13, .int (nI z)), (12, .int (nI kd)), (11, .int (nI X)), (0, .ref b), (1, .ref (h 0)), (2, .ref (ka 0)), (3, .ref (ka 1)), (4, .ref (ka 2)), (5, .ref (ka 3)), (6, .ref (ka 4)), (7, .ref (ka 5)), (8, .ref (ka 6)), (9, .int (nI 1)), (10, .int (nI t))] → W p l e room_1 s m #[Value.ref b] below meth c H locs (29 + 60 * t) (647 + 600 * t) (lw_Z below #[Value.ref b] s) (F0 m 152 ls []) := by
            intro z h_z H locs hG ls hl
            have cut_170 : ∀ (i0 : Nat), (0 < N → i0 < N) → ∀ (H : Heap) (locs : List Loc), cC g ((cNet g h N tk dom gr va dr off rt cnt lk dl td K E ds) ++ (lNet g ka nn aa ll yy tt kk oo)) A s H locs → ∀ (ls : Array Slot), lv_has ls 20 [(14, .int (nI i0)), (13, .int (nI z)), (12, .int (nI kd)), (11, .int (nI X)), (0, .ref b), (1, .ref (h 0)), (2, .ref (ka 0)), (3, .ref (ka 1)), (4, .ref (ka 2)), (5, .ref (ka 3)), (6, .ref (ka 4)), (7, .ref (ka 5)), (8, .ref (ka 6)), (9, .int (nI 1)), (10, .int (nI t))] → W p l e room_1 s m #[Value.ref b] below meth c H locs (29 + 60 * t) (647 + 600 * t) (lw_Z below #[Value.ref b] s) (F0 m 170 ls []) := by
              intro i0 h_i0 H locs hG ls hl
              have cut_191 : ∀ (j1 : Nat), (0 < N → j1 < N) → ∀ (H : Heap) (locs : List Loc), cC g ((cNet g h N tk dom gr va dr off rt cnt lk dl td K E ds) ++ (lNet g ka nn aa ll yy tt kk oo)) A s H locs → ∀ (ls : Array Slot), lv_has ls 20 [(15, .int (nI j1)), (14, .int (nI i0)), (13, .int (nI z)), (12, .int (nI kd)), (11, .int (nI X)), (0, .ref b), (1, .ref (h 0)), (2, .ref (ka 0)), (3, .ref (ka 1)), (4, .ref (ka 2)), (5, .ref (ka 3)), (6, .ref (ka 4)), (7, .ref (ka 5)), (8, .ref (ka 6)), (9, .int (nI 1)), (10, .int (nI t))] → W p l e room_1 s m #[Value.ref b] below meth c H locs (29 + 60 * t) (647 + 600 * t) (lw_Z below #[Value.ref b] s) (F0 m 191 ls []) := by
                intro j1 h_j1 H locs hG ls hl
                have cut_251 : ∀ (j0 : Nat), (0 < N → j0 < N) → ∀ (H : Heap) (locs : List Loc), cC g ((cNet g h N tk dom gr va dr off rt cnt lk dl td K E ds) ++ (lNet g ka nn aa ll yy tt kk oo)) A s H locs → ∀ (ls : Array Slot), lv_has ls 20 [(15, .int (nI j0)), (14, .int (nI i0)), (13, .int (nI z)), (12, .int (nI kd)), (0, .ref b), (1, .ref (h 0)), (2, .ref (ka 0)), (3, .ref (ka 1)), (4, .ref (ka 2)), (5, .ref (ka 3)), (6, .ref (ka 4)), (7, .ref (ka 5)), (8, .ref (ka 6)), (9, .int (nI 1)), (10, .int (nI t))] → W p l e room_1 s m #[Value.ref b] below meth c H locs (29 + 60 * t) (647 + 600 * t) (lw_Z below #[Value.ref b] s) (F0 m 251 ls []) := by
                  intro j0 h_j0 H locs hG ls hl
                  refine lv_aload_n hx hb dL_law_251 rfl (lv_at hl 6 rfl) ?_
                  refine lv_iconst (v := nI 0) hx hb dL_law_252 (by decide) ?_
                  refine q_iald hM hG 22 (i := 0) rfl (by decide) (by decide) dL_law_253 ?_
                  refine q_ren hn0 ?_
                  refine lv_if_le (tgt := 275) hx hb dL_law_254 (by decide) (fun c_254 => ?_) (fun c_254 => ?_)
                  · have hN00 : N = 0 := by rcases Nat.eq_zero_or_pos N with h9 | h9; (exact h9); exact absurd c_254 (nI_nle h9 (by omega))
                    have hk0 : kd = 0 := h_kd.1 (by rcases Nat.eq_zero_or_pos t with h9 | h9; (exact h9); exact absurd (hz0 h9) (by omega))
                    refine lv_iconst (v := nI 0) hx hb dL_law_275 (by decide) ?_
                    refine lv_istore (lv' := [(16, .int (nI 0)), (15, .int (nI j0)), (14, .int (nI i0)), (13, .int (nI z)), (12, .int (nI kd)), (0, .ref b), (1, .ref (h 0)), (2, .ref (ka 0)), (3, .ref (ka 1)), (4, .ref (ka 2)), (5, .ref (ka 3)), (6, .ref (ka 4)), (7, .ref (ka 5)), (8, .ref (ka 6)), (9, .int (nI 1)), (10, .int (nI t))]) hx hb dL_law_276 hl (by decide) rfl (fun ls hl => ?_)
                    refine lv_iload hx hb dL_law_278 (lv_at hl 4 rfl) ?_
                    refine lv_if_ne (tgt := 472) hx hb dL_law_280 (by decide) (fun c_280 => ?_) (fun c_280 => ?_)
                    · exact absurd (congrArg nI hk0) c_280
                    · exact lc_add l hl0 C0 hroom hG V h_z  (lv_sub hl [5, 6, 7, 8, 9, 10, 11, 12, 13, 14, 15, 3] rfl) (kont z h_z)
                  · have hN0 : 0 < N := by rcases Nat.eq_zero_or_pos N with h9 | h9; (exact absurd (by rw [h9]; decide) c_254); exact h9
                    have hi0 : i0 < N := h_i0 hN0
                    have hj0 : j0 < N := h_j0 hN0
                    refine lv_aload hx hb dL_law_257 (lv_at hl 8 rfl) ?_
                    refine lv_iload hx hb dL_law_259 (lv_at hl 1 rfl) ?_
                    refine q_iald hM hG 24 (i := i0) rfl (by omega) (by decide) dL_law_261 ?_
                    refine lv_iload hx hb dL_law_262 (lv_at hl 0 rfl) ?_
                    refine lv_ishr hx hb dL_law_264 ?_
                    refine lv_iconst (v := nI 1) hx hb dL_law_265 (by decide) ?_
                    refine lv_iand hx hb dL_law_266 ?_
                    by_cases hbt : bt (ll i0) j0 = true
                    · refine q_ren (sh1_t (by omega) hbt) ?_
                      refine lv_iconst (v := nI 1) hx hb dL_law_267 (by decide) ?_
                      refine lv_icmp_ne (tgt := 275) hx hb dL_law_268 (by decide) (fun c9 => False.elim (by revert c9; decide)) (fun _ => ?_)
                      refine lv_iconst (v := nI 1) hx hb dL_law_271 (by decide) ?_
                      refine lv_goto (tgt := 276) hx hb dL_law_272 (by decide) ?_
                      refine lv_istore (lv' := [(16, .int (nI 1)), (15, .int (nI j0)), (14, .int (nI i0)), (13, .int (nI z)), (12, .int (nI kd)), (0, .ref b), (1, .ref (h 0)), (2, .ref (ka 0)), (3, .ref (ka 1)), (4, .ref (ka 2)), (5, .ref (ka 3)), (6, .ref (ka 4)), (7, .ref (ka 5)), (8, .ref (ka 6)), (9, .int (nI 1)), (10, .int (nI t))]) hx hb dL_law_276 hl (by decide) rfl (fun ls hl => ?_)
                      refine lv_iload hx hb dL_law_278 (lv_at hl 4 rfl) ?_
                      refine lv_if_ne (tgt := 472) hx hb dL_law_280 (by decide) (fun c_280 => ?_) (fun c_280 => ?_)
                      · refine lv_iload hx hb dL_law_472 (lv_at hl 4 rfl) ?_
                        refine lv_iconst (v := nI 3) hx hb dL_law_474 (by decide) ?_
                        refine lv_icmp_ge (tgt := 673) hx hb dL_law_475 (by decide) (fun c_475 => ?_) (fun c_475 => ?_)
                        · refine lv_iload hx hb dL_law_673 (lv_at hl 4 rfl) ?_
                          refine lv_iconst (v := nI 3) hx hb dL_law_675 (by decide) ?_
                          refine lv_icmp_ne (tgt := 825) hx hb dL_law_676 (by decide) (fun c_676 => ?_) (fun c_676 => ?_)
                          · refine lv_iload hx hb dL_law_825 (lv_at hl 4 rfl) ?_
                            refine lv_bipush (v := nI 6) hx hb dL_law_827 (by decide) ?_
                            refine lv_icmp_ge (tgt := 952) hx hb dL_law_829 (by decide) (fun c_829 => ?_) (fun c_829 => ?_)
                            · refine lv_iload hx hb dL_law_952 (lv_at hl 4 rfl) ?_
                              refine lv_bipush (v := nI 6) hx hb dL_law_954 (by decide) ?_
                              refine lv_icmp_ne (tgt := 1074) hx hb dL_law_956 (by decide) (fun c_956 => ?_) (fun c_956 => ?_)
                              · refine lv_iload hx hb dL_law_1074 (lv_at hl 4 rfl) ?_
                                refine lv_bipush (v := nI 7) hx hb dL_law_1076 (by decide) ?_
                                refine lv_icmp_ne (tgt := 1134) hx hb dL_law_1078 (by decide) (fun c_1078 => ?_) (fun c_1078 => ?_)
                                · refine lv_iload hx hb dL_law_1134 (lv_at hl 4 rfl) ?_
                                  refine lv_bipush (v := nI 8) hx hb dL_law_1136 (by decide) ?_
                                  refine lv_icmp_ne (tgt := 1189) hx hb dL_law_1138 (by decide) (fun c_1138 => ?_) (fun c_1138 => ?_)
                                  · exact lc_tick l hl0 C0 hroom hG V h_z hN0 (lv_sub hl [5, 6, 7, 8, 9, 10, 11, 12, 13, 14, 15, 3] rfl) (kont z h_z)
                                  · exact lc_offset l hl0 C0 hroom hG V h_z hi0 hN0 (lv_sub hl [5, 6, 7, 8, 9, 10, 11, 12, 13, 14, 15, 3, 2] rfl) (kont z h_z)
                                · exact lc_drift l hl0 C0 hroom hG V h_z hi0 hN0 (lv_sub hl [5, 6, 7, 8, 9, 10, 11, 12, 13, 14, 15, 3, 2] rfl) (kont z h_z)
                              · exact lc_clock l hl0 C0 hroom hG V h_z hi0 hN0 (lv_sub hl [5, 6, 7, 8, 9, 10, 11, 12, 13, 14, 15, 3, 2] rfl) (kont z h_z)
                            · exact lc_tell1 l hl0 C0 hroom hG V h_z hi0 hj0 hN0 ((hB i0 j0 (by omega) (by omega)).mp hbt) (lv_sub hl [5, 6, 7, 8, 9, 10, 11, 12, 13, 14, 15, 3, 2, 1, 0] rfl) (kont z h_z)
                          · exact lc_cut1 l hl0 C0 hroom hG V h_z hi0 hj0 hN0 ((hB i0 j0 (by omega) (by omega)).mp hbt) (lv_sub hl [5, 6, 7, 8, 9, 10, 11, 12, 13, 14, 15, 3, 2, 1, 0] rfl) (kont z h_z)
                        · exact lc_link1 l hl0 C0 hroom hG V h_z hi0 hj0 hN0 ((hB i0 j0 (by omega) (by omega)).mp hbt) (lv_sub hl [5, 6, 7, 8, 9, 10, 11, 12, 13, 14, 15, 3, 2, 1, 0] rfl) (kont z h_z)
                      · exact lc_add l hl0 C0 hroom hG V h_z  (lv_sub hl [5, 6, 7, 8, 9, 10, 11, 12, 13, 14, 15, 3] rfl) (kont z h_z)
                    · refine q_ren (sh1_f (by omega) hbt) ?_
                      refine lv_iconst (v := nI 1) hx hb dL_law_267 (by decide) ?_
                      refine lv_icmp_ne (tgt := 275) hx hb dL_law_268 (by decide) (fun _ => ?_) (fun c9 => False.elim (by revert c9; decide))
                      refine lv_iconst (v := nI 0) hx hb dL_law_275 (by decide) ?_
                      refine lv_istore (lv' := [(16, .int (nI 0)), (15, .int (nI j0)), (14, .int (nI i0)), (13, .int (nI z)), (12, .int (nI kd)), (0, .ref b), (1, .ref (h 0)), (2, .ref (ka 0)), (3, .ref (ka 1)), (4, .ref (ka 2)), (5, .ref (ka 3)), (6, .ref (ka 4)), (7, .ref (ka 5)), (8, .ref (ka 6)), (9, .int (nI 1)), (10, .int (nI t))]) hx hb dL_law_276 hl (by decide) rfl (fun ls hl => ?_)
                      refine lv_iload hx hb dL_law_278 (lv_at hl 4 rfl) ?_
                      refine lv_if_ne (tgt := 472) hx hb dL_law_280 (by decide) (fun c_280 => ?_) (fun c_280 => ?_)
                      · refine lv_iload hx hb dL_law_472 (lv_at hl 4 rfl) ?_
                        refine lv_iconst (v := nI 3) hx hb dL_law_474 (by decide) ?_
                        refine lv_icmp_ge (tgt := 673) hx hb dL_law_475 (by decide) (fun c_475 => ?_) (fun c_475 => ?_)
                        · refine lv_iload hx hb dL_law_673 (lv_at hl 4 rfl) ?_
                          refine lv_iconst (v := nI 3) hx hb dL_law_675 (by decide) ?_
                          refine lv_icmp_ne (tgt := 825) hx hb dL_law_676 (by decide) (fun c_676 => ?_) (fun c_676 => ?_)
                          · refine lv_iload hx hb dL_law_825 (lv_at hl 4 rfl) ?_
                            refine lv_bipush (v := nI 6) hx hb dL_law_827 (by decide) ?_
                            refine lv_icmp_ge (tgt := 952) hx hb dL_law_829 (by decide) (fun c_829 => ?_) (fun c_829 => ?_)
                            · refine lv_iload hx hb dL_law_952 (lv_at hl 4 rfl) ?_
                              refine lv_bipush (v := nI 6) hx hb dL_law_954 (by decide) ?_
                              refine lv_icmp_ne (tgt := 1074) hx hb dL_law_956 (by decide) (fun c_956 => ?_) (fun c_956 => ?_)
                              · refine lv_iload hx hb dL_law_1074 (lv_at hl 4 rfl) ?_
                                refine lv_bipush (v := nI 7) hx hb dL_law_1076 (by decide) ?_
                                refine lv_icmp_ne (tgt := 1134) hx hb dL_law_1078 (by decide) (fun c_1078 => ?_) (fun c_1078 => ?_)
                                · refine lv_iload hx hb dL_law_1134 (lv_at hl 4 rfl) ?_
                                  refine lv_bipush (v := nI 8) hx hb dL_law_1136 (by decide) ?_
                                  refine lv_icmp_ne (tgt := 1189) hx hb dL_law_1138 (by decide) (fun c_1138 => ?_) (fun c_1138 => ?_)
                                  · exact lc_tick l hl0 C0 hroom hG V h_z hN0 (lv_sub hl [5, 6, 7, 8, 9, 10, 11, 12, 13, 14, 15, 3] rfl) (kont z h_z)
                                  · exact lc_offset l hl0 C0 hroom hG V h_z hi0 hN0 (lv_sub hl [5, 6, 7, 8, 9, 10, 11, 12, 13, 14, 15, 3, 2] rfl) (kont z h_z)
                                · exact lc_drift l hl0 C0 hroom hG V h_z hi0 hN0 (lv_sub hl [5, 6, 7, 8, 9, 10, 11, 12, 13, 14, 15, 3, 2] rfl) (kont z h_z)
                              · exact lc_clock l hl0 C0 hroom hG V h_z hi0 hN0 (lv_sub hl [5, 6, 7, 8, 9, 10, 11, 12, 13, 14, 15, 3, 2] rfl) (kont z h_z)
                            · exact lc_tell0 l hl0 C0 hroom hG V h_z hi0 hj0 hN0 (fun h9 => hbt ((hB i0 j0 (by omega) (by omega)).mpr h9)) (lv_sub hl [5, 6, 7, 8, 9, 10, 11, 12, 13, 14, 15, 3, 2, 1, 0] rfl) (kont z h_z)
                          · exact lc_cut0 l hl0 C0 hroom hG V h_z hi0 hj0 hN0 (fun h9 => hbt ((hB i0 j0 (by omega) (by omega)).mpr h9)) (lv_sub hl [5, 6, 7, 8, 9, 10, 11, 12, 13, 14, 15, 3, 2, 1, 0] rfl) (kont z h_z)
                        · exact lc_link0 l hl0 C0 hroom hG V h_z hi0 hj0 hN0 (fun h9 => hbt ((hB i0 j0 (by omega) (by omega)).mpr h9)) (lv_sub hl [5, 6, 7, 8, 9, 10, 11, 12, 13, 14, 15, 3, 2, 1, 0] rfl) (kont z h_z)
                      · exact lc_add l hl0 C0 hroom hG V h_z  (lv_sub hl [5, 6, 7, 8, 9, 10, 11, 12, 13, 14, 15, 3] rfl) (kont z h_z)
                refine lv_iconst (v := nI 0) hx hb dL_law_191 (by decide) ?_
                refine lv_istore (lv' := [(16, .int (nI 0)), (15, .int (nI j1)), (14, .int (nI i0)), (13, .int (nI z)), (12, .int (nI kd)), (11, .int (nI X)), (0, .ref b), (1, .ref (h 0)), (2, .ref (ka 0)), (3, .ref (ka 1)), (4, .ref (ka 2)), (5, .ref (ka 3)), (6, .ref (ka 4)), (7, .ref (ka 5)), (8, .ref (ka 6)), (9, .int (nI 1)), (10, .int (nI t))]) hx hb dL_law_192 hl (by decide) rfl (fun ls hl => ?_)
                have loop_194 : ∀ (n9 w : Nat) (j2 : Nat), w ≤ N → N < w + n9 → (0 < N → j2 < N) → ∀ (H : Heap) (locs : List Loc), cC g ((cNet g h N tk dom gr va dr off rt cnt lk dl td K E ds) ++ (lNet g ka nn aa ll yy tt kk oo)) A s H locs → ∀ (ls : Array Slot), lv_has ls 20 [(16, .int (nI w)), (15, .int (nI j2)), (14, .int (nI i0)), (13, .int (nI z)), (12, .int (nI kd)), (0, .ref b), (1, .ref (h 0)), (2, .ref (ka 0)), (3, .ref (ka 1)), (4, .ref (ka 2)), (5, .ref (ka 3)), (6, .ref (ka 4)), (7, .ref (ka 5)), (8, .ref (ka 6)), (9, .int (nI 1)), (10, .int (nI t))] → W p l e room_1 s m #[Value.ref b] below meth c H locs (29 + 60 * t) (647 + 600 * t) (lw_Z below #[Value.ref b] s) (F0 m 194 ls []) := by
                  intro n9
                  induction n9 with
                  | zero => intro w j2 h1 h2; exact absurd h2 (by omega)
                  | succ n9 ih_194 =>
                    intro w j2 hle_w hlt9 hinv_w H locs hG ls hl
                    refine lv_iload hx hb dL_law_194 (lv_at hl 0 rfl) ?_
                    refine lv_aload_n hx hb dL_law_196 rfl (lv_at hl 7 rfl) ?_
                    refine lv_iconst (v := nI 0) hx hb dL_law_197 (by decide) ?_
                    refine q_iald hM hG 22 (i := 0) rfl (by decide) (by decide) dL_law_198 ?_
                    refine q_ren hn0 ?_
                    refine lv_icmp_ge (tgt := 251) hx hb dL_law_199 (by decide) (fun c_199 => ?_) (fun c_199 => ?_)
                    · exact cut_251 j2 hinv_w _ _ hG _ (lv_sub hl [1, 2, 3, 4, 5, 6, 7, 8, 9, 10, 11, 12, 13, 14, 15] rfl)
                    · have hw : w < N := ctr_lt (by omega) (by omega) c_199
                      have hN0 : 0 < N := by omega
                      have hi0 : i0 < N := h_i0 hN0
                      have hj2 : j2 < N := hinv_w hN0
                      refine lv_iload hx hb dL_law_202 (lv_at hl 4 rfl) ?_
                      refine lv_iconst (v := nI 2) hx hb dL_law_204 (by decide) ?_
                      refine lv_icmp_le (tgt := 251) hx hb dL_law_205 (by decide) (fun c_205 => ?_) (fun c_205 => ?_)
                      · exact cut_251 j2 hinv_w _ _ hG _ (lv_sub hl [1, 2, 3, 4, 5, 6, 7, 8, 9, 10, 11, 12, 13, 14, 15] rfl)
                      · refine lv_iload hx hb dL_law_208 (lv_at hl 4 rfl) ?_
                        refine lv_bipush (v := nI 7) hx hb dL_law_210 (by decide) ?_
                        refine lv_icmp_ge (tgt := 251) hx hb dL_law_212 (by decide) (fun c_212 => ?_) (fun c_212 => ?_)
                        · exact cut_251 j2 hinv_w _ _ hG _ (lv_sub hl [1, 2, 3, 4, 5, 6, 7, 8, 9, 10, 11, 12, 13, 14, 15] rfl)
                        · refine lv_iload hx hb dL_law_215 (lv_at hl 3 rfl) ?_
                          refine lv_iconst (v := nI 5) hx hb dL_law_217 (by decide) ?_
                          refine lv_irem hx hb dL_law_218 (by decide) ?_
                          refine q_ren (pk_rem (a := z) (by omega) (by decide) (by decide)) ?_
                          refine lv_if_le (tgt := 251) hx hb dL_law_219 (by decide) (fun c_219 => ?_) (fun c_219 => ?_)
                          · exact cut_251 j2 hinv_w _ _ hG _ (lv_sub hl [1, 2, 3, 4, 5, 6, 7, 8, 9, 10, 11, 12, 13, 14, 15] rfl)
                          · refine lv_aload hx hb dL_law_222 (lv_at hl 9 rfl) ?_
                            refine lv_iload hx hb dL_law_224 (lv_at hl 2 rfl) ?_
                            refine q_iald hM hG 24 (i := i0) rfl (by omega) (by decide) dL_law_226 ?_
                            refine lv_iload hx hb dL_law_227 (lv_at hl 1 rfl) ?_
                            refine lv_ishr hx hb dL_law_229 ?_
                            refine lv_iconst (v := nI 1) hx hb dL_law_230 (by decide) ?_
                            refine lv_iand hx hb dL_law_231 ?_
                            by_cases hbt : bt (ll i0) j2 = true
                            · refine q_ren (sh1_t (by omega) hbt) ?_
                              refine lv_if_ne (tgt := 251) hx hb dL_law_232 (by decide) (fun _ => ?_) (fun c9 => False.elim (by revert c9; decide))
                              exact cut_251 j2 hinv_w _ _ hG _ (lv_sub hl [1, 2, 3, 4, 5, 6, 7, 8, 9, 10, 11, 12, 13, 14, 15] rfl)
                            · refine q_ren (sh1_f (by omega) hbt) ?_
                              refine lv_if_ne (tgt := 251) hx hb dL_law_232 (by decide) (fun c9 => False.elim (by revert c9; decide)) (fun _ => ?_)
                              refine lv_iload hx hb dL_law_235 (lv_at hl 1 rfl) ?_
                              refine lv_iconst (v := nI 1) hx hb dL_law_237 (by decide) ?_
                              refine lv_iadd hx hb dL_law_238 ?_
                              refine q_ren (nI_add j2 1) ?_
                              refine lv_aload_n hx hb dL_law_239 rfl (lv_at hl 7 rfl) ?_
                              refine lv_iconst (v := nI 0) hx hb dL_law_240 (by decide) ?_
                              refine q_iald hM hG 22 (i := 0) rfl (by decide) (by decide) dL_law_241 ?_
                              refine q_ren hn0 ?_
                              refine lv_irem hx hb dL_law_242 (nI_ne0 hN0 (by omega)) ?_
                              refine q_ren (pk_rem (a := j2 + 1) (by omega) hN0 (by omega)) ?_
                              refine lv_istore (lv' := [(15, .int (nI ((j2 + 1) % N))), (16, .int (nI w)), (14, .int (nI i0)), (13, .int (nI z)), (12, .int (nI kd)), (0, .ref b), (1, .ref (h 0)), (2, .ref (ka 0)), (3, .ref (ka 1)), (4, .ref (ka 2)), (5, .ref (ka 3)), (6, .ref (ka 4)), (7, .ref (ka 5)), (8, .ref (ka 6)), (9, .int (nI 1)), (10, .int (nI t))]) hx hb dL_law_243 hl (by decide) rfl (fun ls hl => ?_)
                              refine lv_iinc (v := (nI (w + 1))) (lv' := [(16, .int (nI (w + 1))), (15, .int (nI ((j2 + 1) % N))), (14, .int (nI i0)), (13, .int (nI z)), (12, .int (nI kd)), (0, .ref b), (1, .ref (h 0)), (2, .ref (ka 0)), (3, .ref (ka 1)), (4, .ref (ka 2)), (5, .ref (ka 3)), (6, .ref (ka 4)), (7, .ref (ka 5)), (8, .ref (ka 6)), (9, .int (nI 1)), (10, .int (nI t))]) hx hb dL_law_245 hl (k := 1) rfl (nI_1 w) (by decide) rfl (fun ls hl => ?_)
                              refine lv_goto (tgt := 194) hx hb dL_law_248 (by decide) ?_
                              exact ih_194 (w + 1) ((j2 + 1) % N) (by omega) (by omega) (fun _ => Nat.mod_lt _ hN0) _ _ hG _ (lv_sub hl [0, 1, 2, 3, 4, 5, 6, 7, 8, 9, 10, 11, 12, 13, 14, 15] rfl)
                exact loop_194 (N + 1) 0 j1 (by omega) (by omega) h_j1 _ _ hG _ (lv_sub hl [0, 1, 2, 3, 4, 6, 7, 8, 9, 10, 11, 12, 13, 14, 15, 16] rfl)
              refine lv_aload_n hx hb dL_law_170 rfl (lv_at hl 6 rfl) ?_
              refine lv_iconst (v := nI 0) hx hb dL_law_171 (by decide) ?_
              refine q_iald hM hG 22 (i := 0) rfl (by decide) (by decide) dL_law_172 ?_
              refine q_ren hn0 ?_
              refine lv_if_ne (tgt := 180) hx hb dL_law_173 (by decide) (fun c_173 => ?_) (fun c_173 => ?_)
              · have hN0 : 0 < N := Nat.pos_of_ne_zero (fun h9 => c_173 (congrArg nI h9))
                refine lv_iload hx hb dL_law_180 (lv_at hl 1 rfl) ?_
                refine lv_bipush (v := nI 10) hx hb dL_law_182 (by decide) ?_
                refine lv_idiv hx hb dL_law_184 (by decide) ?_
                refine q_ren (pk_div (a := z) (by omega) (by decide) (by decide)) ?_
                refine lv_aload_n hx hb dL_law_185 rfl (lv_at hl 6 rfl) ?_
                refine lv_iconst (v := nI 0) hx hb dL_law_186 (by decide) ?_
                refine q_iald hM hG 22 (i := 0) rfl (by decide) (by decide) dL_law_187 ?_
                refine q_ren hn0 ?_
                refine lv_irem hx hb dL_law_188 (nI_ne0 hN0 (by omega)) ?_
                refine q_ren (pk_rem (a := z / 10) (by omega) hN0 (by omega)) ?_
                refine lv_istore (lv' := [(15, .int (nI ((z / 10) % N))), (14, .int (nI i0)), (13, .int (nI z)), (12, .int (nI kd)), (11, .int (nI X)), (0, .ref b), (1, .ref (h 0)), (2, .ref (ka 0)), (3, .ref (ka 1)), (4, .ref (ka 2)), (5, .ref (ka 3)), (6, .ref (ka 4)), (7, .ref (ka 5)), (8, .ref (ka 6)), (9, .int (nI 1)), (10, .int (nI t))]) hx hb dL_law_189 hl (by decide) rfl (fun ls hl => ?_)
                exact cut_191 ((z / 10) % N) (fun _ => Nat.mod_lt _ hN0) _ _ hG _ (lv_sub hl [0, 1, 2, 3, 4, 5, 6, 7, 8, 9, 10, 11, 12, 13, 14, 15] rfl)
              · refine lv_iconst (v := nI 0) hx hb dL_law_176 (by decide) ?_
                refine lv_goto (tgt := 189) hx hb dL_law_177 (by decide) ?_
                refine lv_istore (lv' := [(15, .int (nI 0)), (14, .int (nI i0)), (13, .int (nI z)), (12, .int (nI kd)), (11, .int (nI X)), (0, .ref b), (1, .ref (h 0)), (2, .ref (ka 0)), (3, .ref (ka 1)), (4, .ref (ka 2)), (5, .ref (ka 3)), (6, .ref (ka 4)), (7, .ref (ka 5)), (8, .ref (ka 6)), (9, .int (nI 1)), (10, .int (nI t))]) hx hb dL_law_189 hl (by decide) rfl (fun ls hl => ?_)
                exact cut_191 0 (fun h9 => h9) _ _ hG _ (lv_sub hl [0, 1, 2, 3, 4, 5, 6, 7, 8, 9, 10, 11, 12, 13, 14, 15] rfl)
            refine lv_aload_n hx hb dL_law_152 rfl (lv_at hl 5 rfl) ?_
            refine lv_iconst (v := nI 0) hx hb dL_law_153 (by decide) ?_
            refine q_iald hM hG 22 (i := 0) rfl (by decide) (by decide) dL_law_154 ?_
            refine q_ren hn0 ?_
            refine lv_if_ne (tgt := 162) hx hb dL_law_155 (by decide) (fun c_155 => ?_) (fun c_155 => ?_)
            · have hN0 : 0 < N := Nat.pos_of_ne_zero (fun h9 => c_155 (congrArg nI h9))
              refine lv_iload hx hb dL_law_162 (lv_at hl 0 rfl) ?_
              refine lv_aload_n hx hb dL_law_164 rfl (lv_at hl 5 rfl) ?_
              refine lv_iconst (v := nI 0) hx hb dL_law_165 (by decide) ?_
              refine q_iald hM hG 22 (i := 0) rfl (by decide) (by decide) dL_law_166 ?_
              refine q_ren hn0 ?_
              refine lv_irem hx hb dL_law_167 (nI_ne0 hN0 (by omega)) ?_
              refine q_ren (pk_rem (a := z) (by omega) hN0 (by omega)) ?_
              refine lv_istore (lv' := [(14, .int (nI (z % N))), (13, .int (nI z)), (12, .int (nI kd)), (11, .int (nI X)), (0, .ref b), (1, .ref (h 0)), (2, .ref (ka 0)), (3, .ref (ka 1)), (4, .ref (ka 2)), (5, .ref (ka 3)), (6, .ref (ka 4)), (7, .ref (ka 5)), (8, .ref (ka 6)), (9, .int (nI 1)), (10, .int (nI t))]) hx hb dL_law_168 hl (by decide) rfl (fun ls hl => ?_)
              exact cut_170 (z % N) (fun _ => Nat.mod_lt _ hN0) _ _ hG _ (lv_sub hl [0, 1, 2, 3, 4, 5, 6, 7, 8, 9, 10, 11, 12, 13, 14] rfl)
            · refine lv_iconst (v := nI 0) hx hb dL_law_158 (by decide) ?_
              refine lv_goto (tgt := 168) hx hb dL_law_159 (by decide) ?_
              refine lv_istore (lv' := [(14, .int (nI 0)), (13, .int (nI z)), (12, .int (nI kd)), (11, .int (nI X)), (0, .ref b), (1, .ref (h 0)), (2, .ref (ka 0)), (3, .ref (ka 1)), (4, .ref (ka 2)), (5, .ref (ka 3)), (6, .ref (ka 4)), (7, .ref (ka 5)), (8, .ref (ka 6)), (9, .int (nI 1)), (10, .int (nI t))]) hx hb dL_law_168 hl (by decide) rfl (fun ls hl => ?_)
              exact cut_170 0 (fun h9 => h9) _ _ hG _ (lv_sub hl [0, 1, 2, 3, 4, 5, 6, 7, 8, 9, 10, 11, 12, 13, 14] rfl)
          refine lv_iload hx hb dL_law_145 (lv_at hl 1 rfl) ?_
          refine lv_bipush (v := nI 17) hx hb dL_law_147 (by decide) ?_
          refine lv_idiv hx hb dL_law_149 (by decide) ?_
          refine q_ren (pk_div (a := X) (by omega) (by decide) (by decide)) ?_
          refine lv_istore (lv' := [(13, .int (nI (X / 17))), (12, .int (nI kd)), (11, .int (nI X)), (0, .ref b), (1, .ref (h 0)), (2, .ref (ka 0)), (3, .ref (ka 1)), (4, .ref (ka 2)), (5, .ref (ka 3)), (6, .ref (ka 4)), (7, .ref (ka 5)), (8, .ref (ka 6)), (9, .int (nI 1)), (10, .int (nI t))]) hx hb dL_law_150 hl (by decide) rfl (fun ls hl => ?_)
          exact cut_152 (X / 17) (by omega) _ _ hG _ (lv_sub hl [0, 1, 2, 3, 4, 5, 6, 7, 8, 9, 10, 11, 12, 13] rfl)
        refine lv_iload hx hb dL_law_117 (lv_at hl 11 rfl) ?_
        refine lv_iconst (v := nI 4) hx hb dL_law_119 (by decide) ?_
        refine lv_icmp_ge (tgt := 127) hx hb dL_law_120 (by decide) (fun c_120 => ?_) (fun c_120 => ?_)
        · have ht4 : 4 ≤ t := (nI_leI (by omega) (by omega)).mp c_120
          refine lv_iload hx hb dL_law_127 (lv_at hl 11 rfl) ?_
          refine lv_bipush (v := nI 8) hx hb dL_law_129 (by decide) ?_
          refine lv_icmp_ge (tgt := 138) hx hb dL_law_131 (by decide) (fun c_131 => ?_) (fun c_131 => ?_)
          · refine lv_iload hx hb dL_law_138 (lv_at hl 0 rfl) ?_
            refine lv_bipush (v := nI 17) hx hb dL_law_140 (by decide) ?_
            refine lv_irem hx hb dL_law_142 (by decide) ?_
            refine q_ren (pk_rem (a := X) (by omega) (by decide) (by decide)) ?_
            refine lv_istore (lv' := [(12, .int (nI (X % 17))), (11, .int (nI X)), (0, .ref b), (1, .ref (h 0)), (2, .ref (ka 0)), (3, .ref (ka 1)), (4, .ref (ka 2)), (5, .ref (ka 3)), (6, .ref (ka 4)), (7, .ref (ka 5)), (8, .ref (ka 6)), (9, .int (nI 1)), (10, .int (nI t))]) hx hb dL_law_143 hl (by decide) rfl (fun ls hl => ?_)
            exact cut_145 (X % 17) ⟨fun h9 => absurd h9 (by omega), by omega⟩ _ _ hG _ (lv_sub hl [0, 1, 2, 3, 4, 5, 6, 7, 8, 9, 10, 11, 12] rfl)
          · refine lv_iconst (v := nI 1) hx hb dL_law_134 (by decide) ?_
            refine lv_goto (tgt := 143) hx hb dL_law_135 (by decide) ?_
            refine lv_istore (lv' := [(12, .int (nI 1)), (11, .int (nI X)), (0, .ref b), (1, .ref (h 0)), (2, .ref (ka 0)), (3, .ref (ka 1)), (4, .ref (ka 2)), (5, .ref (ka 3)), (6, .ref (ka 4)), (7, .ref (ka 5)), (8, .ref (ka 6)), (9, .int (nI 1)), (10, .int (nI t))]) hx hb dL_law_143 hl (by decide) rfl (fun ls hl => ?_)
            exact cut_145 1 ⟨fun h9 => absurd h9 (by omega), by omega⟩ _ _ hG _ (lv_sub hl [0, 1, 2, 3, 4, 5, 6, 7, 8, 9, 10, 11, 12] rfl)
        · refine lv_iconst (v := nI 0) hx hb dL_law_123 (by decide) ?_
          refine lv_goto (tgt := 143) hx hb dL_law_124 (by decide) ?_
          refine lv_istore (lv' := [(12, .int (nI 0)), (11, .int (nI X)), (0, .ref b), (1, .ref (h 0)), (2, .ref (ka 0)), (3, .ref (ka 1)), (4, .ref (ka 2)), (5, .ref (ka 3)), (6, .ref (ka 4)), (7, .ref (ka 5)), (8, .ref (ka 6)), (9, .int (nI 1)), (10, .int (nI t))]) hx hb dL_law_143 hl (by decide) rfl (fun ls hl => ?_)
          exact cut_145 0 ⟨fun _ => rfl, by omega⟩ _ _ hG _ (lv_sub hl [0, 1, 2, 3, 4, 5, 6, 7, 8, 9, 10, 11, 12] rfl)
      refine lv_iload hx hb dL_law_77 (lv_at hl 10 rfl) ?_
      refine lv_aload_n hx hb dL_law_79 rfl (lv_at hl 0 rfl) ?_
      refine va_slen hx hb hX hbl hbA hG.2.2.2.1 dL_law_80 ?_
      refine q_ren (show Int32.ofNat L = nI L from rfl) ?_
      refine lv_icmp_ge (tgt := 94) hx hb dL_law_81 (by decide) (fun c_81 => ?_) (fun c_81 => ?_)
      · refine lv_ldc (v := 59023) hx hb hown (hts (.constant RL 132 59023) (by decide +kernel)) dL_law_94 ?_
        refine q_ren (show (59023 : Int32) = nI 59023 from rfl) ?_
        refine lv_iload hx hb dL_law_96 (lv_at hl 10 rfl) ?_
        refine lv_imul hx hb dL_law_98 ?_
        refine q_ren (pk_mul 59023 t) ?_
        refine lv_iload hx hb dL_law_99 (lv_at hl 10 rfl) ?_
        refine lv_imul hx hb dL_law_101 ?_
        refine q_ren (pk_mul (59023 * t) t) ?_
        refine lv_sipush (v := nI 7013) hx hb dL_law_102 (by decide) ?_
        refine lv_iload hx hb dL_law_105 (lv_at hl 10 rfl) ?_
        refine lv_imul hx hb dL_law_107 ?_
        refine q_ren (pk_mul 7013 t) ?_
        refine lv_iadd hx hb dL_law_108 ?_
        refine q_ren (nI_add ((59023 * t) * t) (7013 * t)) ?_
        refine lv_bipush (v := nI 61) hx hb dL_law_109 (by decide) ?_
        refine lv_iadd hx hb dL_law_111 ?_
        refine q_ren (nI_add ((59023 * t) * t + (7013 * t)) 61) ?_
        refine lv_ldc (v := 2147483647) hx hb hown (hts (.constant RL 131 2147483647) (by decide +kernel)) dL_law_112 ?_
        refine q_ren (show (2147483647 : Int32) = nI 2147483647 from rfl) ?_
        refine lv_iand hx hb dL_law_114 ?_
        obtain ⟨X9, hX9, eX9⟩ := pk_andE (nI ((59023 * t) * t + (7013 * t) + 61)) (m := nI 2147483647) 31 (by decide +kernel)
        refine q_ren eX9 ?_
        refine lv_istore (lv' := [(11, .int (nI X9)), (0, .ref b), (1, .ref (h 0)), (2, .ref (ka 0)), (3, .ref (ka 1)), (4, .ref (ka 2)), (5, .ref (ka 3)), (6, .ref (ka 4)), (7, .ref (ka 5)), (8, .ref (ka 6)), (9, .int (nI 1)), (10, .int (nI t))]) hx hb dL_law_115 hl (by decide) rfl (fun ls hl => ?_)
        exact cut_117 X9 hX9 _ _ hG _ (lv_sub hl [0, 1, 2, 3, 4, 5, 6, 7, 8, 9, 10, 11] rfl)
      · have htL : t < L := by rcases Nat.lt_or_ge t L with h9 | h9; (exact h9); exact absurd ((nI_leI (by omega) (by omega)).mpr h9) c_81
        refine lv_aload_n hx hb dL_law_84 rfl (lv_at hl 0 rfl) ?_
        refine lv_iload hx hb dL_law_85 (lv_at hl 10 rfl) ?_
        refine q_sld hM hG hX hbl hbA htL hL30 dL_law_87 ?_
        refine lv_ldc (v := 2147483647) hx hb hown (hts (.constant RL 131 2147483647) (by decide +kernel)) dL_law_88 ?_
        refine q_ren (show (2147483647 : Int32) = nI 2147483647 from rfl) ?_
        refine lv_iand hx hb dL_law_90 ?_
        refine lv_goto (tgt := 115) hx hb dL_law_91 (by decide) ?_
        obtain ⟨X9, hX9, eX9⟩ := pk_andE (xs t) (m := nI 2147483647) 31 (by decide +kernel)
        refine q_ren eX9 ?_
        refine lv_istore (lv' := [(11, .int (nI X9)), (0, .ref b), (1, .ref (h 0)), (2, .ref (ka 0)), (3, .ref (ka 1)), (4, .ref (ka 2)), (5, .ref (ka 3)), (6, .ref (ka 4)), (7, .ref (ka 5)), (8, .ref (ka 6)), (9, .int (nI 1)), (10, .int (nI t))]) hx hb dL_law_115 hl (by decide) rfl (fun ls hl => ?_)
        exact cut_117 X9 hX9 _ _ hG _ (lv_sub hl [0, 1, 2, 3, 4, 5, 6, 7, 8, 9, 10, 11] rfl)
