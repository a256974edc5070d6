set_option maxHeartbeats 4000000 in
set_option maxRecDepth 100000 in
theorem lc_0 {p : Program} {e : Env} {s : State} {m : MethodId} {below : List Frame} {meth : Method} {c : Code} (l : Launch) (hl0 : l.stackTraces = false) {b L : Nat} {xs : Nat → Int32} (hL30 : L < 2 ^ 30) (C0 : lw_At p s m meth c b L xs) {z : Prop} {g : EN} {hc hm : Nat → Nat} {o : Nat} {A : Nat → Prop} (hbA : ¬ A b) {i : Nat} (hi : i + 5 ≤ L) {H : Heap} {locs : List Loc} {cells slots : Nat} (hroom : cells + 2 ≤ room_1.cells ∧ slots + 16 ≤ room_1.slots) (hI : LI z g hc hm o A s H locs) {Q : State → Prop} {ls : Array Slot} (hl : lv_has ls 8 [(0, .ref b), (1, .ref (hc 0)), (2, .ref (hm 0)), (3, .ref o), (4, .int (nI i))])
    (kk : ∀ (H1 : Heap) (locs1 : List Loc) (ls1 : Array Slot), LI False g hc hm o A s H1 locs1 → lv_has ls1 8 [(0, .ref b), (1, .ref (hc 0)), (2, .ref (hm 0)), (3, .ref o), (4, .int (nI i))] → W p l e room_1 s m #[Value.ref b] below meth c H1 locs1 (cells + 1) (slots + 6) Q (F0 m 843 ls1 [])) : W p l e room_1 s m #[Value.ref b] below meth c H locs cells slots Q (F0 m 132 ls []) := by
  obtain ⟨hx, hb, hr, hml, hown, hts, hX, hbl, hlocks, hgv⟩ := C0
  have hM : CallFix p m c cL_law 8 s #[Value.ref b] wsL_law RL := ⟨hx, hb, hml, hown, fun w h => hts w (wsL_law_in w h)⟩
  obtain ⟨N, tk, dom, gr, va, dr, off, rt, cnt, lk, dl, td, K, E, ds, M, X, dm, thr, f, hG, ⟨hN, hg, hlk, hsy, hR⟩, hz0⟩ := hI
  refine lv_aload_n hx hb dL_law_132 rfl (lv_at hl 1 rfl) ?_
  refine lv_aload_n hx hb dL_law_133 rfl (lv_at hl 0 rfl) ?_
  refine lv_iload hx hb dL_law_134 (lv_at hl 4 rfl) ?_
  refine lv_iconst (v := 1) hx hb dL_law_136 (by decide) ?_
  refine lv_iadd hx hb dL_law_137 ?_
  refine q_ren (nI_add i 1) ?_
  refine q_sld hM hG hX hbl hbA (by omega) hL30 dL_law_138 ?_
  refine lv_aload_n hx hb dL_law_139 rfl (lv_at hl 0 rfl) ?_
  refine lv_iload hx hb dL_law_140 (lv_at hl 4 rfl) ?_
  refine lv_iconst (v := 2) hx hb dL_law_142 (by decide) ?_
  refine lv_iadd hx hb dL_law_143 ?_
  refine q_ren (nI_add i 2) ?_
  refine q_sld hM hG hX hbl hbA (by omega) hL30 dL_law_144 ?_
  refine lv_aload_n hx hb dL_law_145 rfl (lv_at hl 0 rfl) ?_
  refine lv_iload hx hb dL_law_146 (lv_at hl 4 rfl) ?_
  refine lv_iconst (v := 3) hx hb dL_law_148 (by decide) ?_
  refine lv_iadd hx hb dL_law_149 ?_
  refine q_ren (nI_add i 3) ?_
  refine q_sld hM hG hX hbl hbA (by omega) hL30 dL_law_150 ?_
  refine lv_aload_n hx hb dL_law_151 rfl (lv_at hl 0 rfl) ?_
  refine lv_iload hx hb dL_law_152 (lv_at hl 4 rfl) ?_
  refine lv_iconst (v := 4) hx hb dL_law_154 (by decide) ?_
  refine lv_iadd hx hb dL_law_155 ?_
  refine q_ren (nI_add i 4) ?_
  refine q_sld hM hG hX hbl hbA (by omega) hL30 dL_law_156 ?_
  refine lv_aload_n hx hb dL_law_157 rfl (lv_at hl 3 rfl) ?_
  refine q_callW (n := 6) (As := [.ref (hc 0), .int (xs (i + 1)), .int (xs (i + 2)), .int (xs (i + 3)), .int (xs (i + 4)), .ref o]) (rest := []) hM hl.1 hG (w_add l hl0 g hc o f N tk dom gr va dr off rt cnt lk dl td K E ds (xs (i + 1)) (xs (i + 2)) (xs (i + 3)) (xs (i + 4)) hN) rfl gL_law_L_add (by decide +kernel) ⟨Nat.le_of_ble_eq_true rfl, Nat.le_of_ble_eq_true rfl⟩ rfl rfl (Nat.le_of_ble_eq_true rfl) dL_law_158 (c1 := cells + 1) (s1 := slots + 6) rfl rfl ⟨by omega, by omega⟩ (fun r v H locs hp hG => ?_)
  rcases v with ⟨u1, f1⟩ | _
  · obtain ⟨rfl, r0, hc0, hf⟩ := hp
    dsimp only at hc0 hf
    obtain ⟨hP, hN1, rfl, rfl⟩ := hc0
    have hG : cC g ((oNet g o f1 ++ (cNet g hc (N + 1) tk (upd dom N (xs (i + 1))) (upd gr N (xs (i + 2))) (upd va N (xs (i + 3))) (upd dr N (xs (i + 4))) off rt cnt lk dl td (kst K N (rk (upd gr N (xs (i + 2))) (upd va N (xs (i + 3))) N)) E ds)) ++ (mNet g hm N tk dom gr va dr off rt cnt lk dl td M X dm thr)) A s H locs := hG
    refine lv_istore (lv' := [(5, .int 0), (0, .ref b), (1, .ref (hc 0)), (2, .ref (hm 0)), (3, .ref o), (4, .int (nI i))]) hx hb dL_law_161 hl (by decide) rfl (fun ls hl => ?_)
    refine lv_aload_n hx hb dL_law_163 rfl (lv_at hl 3 rfl) ?_
    refine lv_aload_n hx hb dL_law_164 rfl (lv_at hl 1 rfl) ?_
    refine lv_iload hx hb dL_law_165 (lv_at hl 5 rfl) ?_
    refine lv_iconst (v := 1) hx hb dL_law_167 (by decide) ?_
    refine lv_iadd hx hb dL_law_168 ?_
    refine q_ren (nI_add i 1) ?_
    refine q_sld hM hG hX hbl hbA (by omega) hL30 dL_law_169 ?_
    refine lv_aload_n hx hb dL_law_170 rfl (lv_at hl 1 rfl) ?_
    refine lv_iload hx hb dL_law_171 (lv_at hl 5 rfl) ?_
    refine lv_iconst (v := 2) hx hb dL_law_173 (by decide) ?_
    refine lv_iadd hx hb dL_law_174 ?_
    refine q_ren (nI_add i 2) ?_
    refine q_sld hM hG hX hbl hbA (by omega) hL30 dL_law_175 ?_
    refine lv_aload_n hx hb dL_law_176 rfl (lv_at hl 1 rfl) ?_
    refine lv_iload hx hb dL_law_177 (lv_at hl 5 rfl) ?_
    refine lv_iconst (v := 3) hx hb dL_law_179 (by decide) ?_
    refine lv_iadd hx hb dL_law_180 ?_
    refine q_ren (nI_add i 3) ?_
    refine q_sld hM hG hX hbl hbA (by omega) hL30 dL_law_181 ?_
    refine lv_aload_n hx hb dL_law_182 rfl (lv_at hl 1 rfl) ?_
    refine lv_iload hx hb dL_law_183 (lv_at hl 5 rfl) ?_
    refine lv_iconst (v := 4) hx hb dL_law_185 (by decide) ?_
    refine lv_iadd hx hb dL_law_186 ?_
    refine q_ren (nI_add i 4) ?_
    refine q_sld hM hG hX hbl hbA (by omega) hL30 dL_law_187 ?_
    refine q_callMi (n := 4) (As := [.int (xs (i + 1)), .int (xs (i + 2)), .int (xs (i + 3)), .int (xs (i + 4))]) (rest := []) hM hl.1 hG (c_X3_add l g hm N tk dom gr va dr off rt cnt lk dl td M X dm thr (xs (i + 1)) (xs (i + 2)) (xs (i + 3)) (xs (i + 4)) hN) rfl gL_law_X3_add (by decide +kernel) ⟨Nat.le_of_ble_eq_true rfl, Nat.le_of_ble_eq_true rfl⟩ 0 rfl rfl rfl rfl rfl (Nat.le_of_ble_eq_true rfl) dL_law_188 (c1 := cells + 1) (s1 := slots + 6) rfl rfl ⟨by omega, by omega⟩ (fun rb u2 H locs hp2 hG => ?_)
    obtain ⟨t, N2, d2, g2, v2, r2, K2⟩ := u2
    dsimp only at hp2
    obtain rfl : t = 0 := cd2.ok hp2.1 hP hN1
    obtain ⟨rfl, rfl, rfl, rfl, rfl, rfl, rfl⟩ := hp2.2.1 rfl
    have hG : cC g ((oNet g o f1 ++ (cNet g hc (N + 1) tk (upd dom N (xs (i + 1))) (upd gr N (xs (i + 2))) (upd va N (xs (i + 3))) (upd dr N (xs (i + 4))) off rt cnt lk dl td (kst K N (rk (upd gr N (xs (i + 2))) (upd va N (xs (i + 3))) N)) E ds)) ++ (mNet g hm (N + 1) tk (upd dom N (xs (i + 1))) (upd gr N (xs (i + 2))) (upd va N (xs (i + 3))) (upd dr N (xs (i + 4))) off rt cnt lk dl td (mst M (upd gr N (xs (i + 2))) (upd va N (xs (i + 3))) N) X dm 0)) A s H locs := hG
    refine lv_istore (lv' := [(6, .int (nI N)), (5, .int 0), (0, .ref b), (1, .ref (hc 0)), (2, .ref (hm 0)), (3, .ref o), (4, .int (nI i))]) hx hb dL_law_191 hl (by decide) rfl (fun ls hl => ?_)
    refine lv_goto (tgt := 843) hx hb dL_law_193 (by decide) ?_
    exact kk _ _ _ ⟨_, _, _, _, _, _, _, _, _, _, _, _, _, _, _, _, _, _, _, _, hG, ⟨by omega, rng_u hg hP.2.1 hP.2.2.1, hlk, hsy, Rk_add (rng_u hg hP.2.1 hP.2.2.1) hN1 hR⟩, False.elim⟩ (lv_sub hl [2, 3, 4, 5, 6] rfl)
  · have hG : cC g ((oNet g o f ++ (cNet g hc N tk dom gr va dr off rt cnt lk dl td K E ds)) ++ (mNet g hm N tk dom gr va dr off rt cnt lk dl td M X dm thr)) A s H locs := hG
    have h9 : xk2 r (inR 0 (xs (i + 1)) 1 ∧ inR 0 (xs (i + 2)) 255 ∧ inR 0 (xs (i + 3)) 1000 ∧ inR (-100) (xs (i + 4)) 100) (N < 10) := hp
    refine lv_istore (lv' := [(5, .int r), (0, .ref b), (1, .ref (hc 0)), (2, .ref (hm 0)), (3, .ref o), (4, .int (nI i))]) hx hb dL_law_161 hl (by decide) rfl (fun ls hl => ?_)
    refine lv_aload_n hx hb dL_law_163 rfl (lv_at hl 3 rfl) ?_
    refine lv_aload_n hx hb dL_law_164 rfl (lv_at hl 1 rfl) ?_
    refine lv_iload hx hb dL_law_165 (lv_at hl 5 rfl) ?_
    refine lv_iconst (v := 1) hx hb dL_law_167 (by decide) ?_
    refine lv_iadd hx hb dL_law_168 ?_
    refine q_ren (nI_add i 1) ?_
    refine q_sld hM hG hX hbl hbA (by omega) hL30 dL_law_169 ?_
    refine lv_aload_n hx hb dL_law_170 rfl (lv_at hl 1 rfl) ?_
    refine lv_iload hx hb dL_law_171 (lv_at hl 5 rfl) ?_
    refine lv_iconst (v := 2) hx hb dL_law_173 (by decide) ?_
    refine lv_iadd hx hb dL_law_174 ?_
    refine q_ren (nI_add i 2) ?_
    refine q_sld hM hG hX hbl hbA (by omega) hL30 dL_law_175 ?_
    refine lv_aload_n hx hb dL_law_176 rfl (lv_at hl 1 rfl) ?_
    refine lv_iload hx hb dL_law_177 (lv_at hl 5 rfl) ?_
    refine lv_iconst (v := 3) hx hb dL_law_179 (by decide) ?_
    refine lv_iadd hx hb dL_law_180 ?_
    refine q_ren (nI_add i 3) ?_
    refine q_sld hM hG hX hbl hbA (by omega) hL30 dL_law_181 ?_
    refine lv_aload_n hx hb dL_law_182 rfl (lv_at hl 1 rfl) ?_
    refine lv_iload hx hb dL_law_183 (lv_at hl 5 rfl) ?_
    refine lv_iconst (v := 4) hx hb dL_law_185 (by decide) ?_
    refine lv_iadd hx hb dL_law_186 ?_
    refine q_ren (nI_add i 4) ?_
    refine q_sld hM hG hX hbl hbA (by omega) hL30 dL_law_187 ?_
    refine q_callMi (n := 4) (As := [.int (xs (i + 1)), .int (xs (i + 2)), .int (xs (i + 3)), .int (xs (i + 4))]) (rest := []) hM hl.1 hG (c_X3_add l g hm N tk dom gr va dr off rt cnt lk dl td M X dm thr (xs (i + 1)) (xs (i + 2)) (xs (i + 3)) (xs (i + 4)) hN) rfl gL_law_X3_add (by decide +kernel) ⟨Nat.le_of_ble_eq_true rfl, Nat.le_of_ble_eq_true rfl⟩ 0 rfl rfl rfl rfl rfl (Nat.le_of_ble_eq_true rfl) dL_law_188 (c1 := cells + 1) (s1 := slots + 6) rfl rfl ⟨by omega, by omega⟩ (fun rb u2 H locs hp2 hG => ?_)
    obtain ⟨t, N2, d2, g2, v2, r2, K2⟩ := u2
    dsimp only at hp2
    have hk : t = r := cd2_uniq hp2.1 h9.cd.1
    have h0 : ¬ t = 0 := by rw [hk]; exact h9.cd.2
    obtain ⟨rfl, rfl, rfl, rfl, rfl, rfl⟩ : N = N2 ∧ dom = d2 ∧ gr = g2 ∧ va = v2 ∧ dr = r2 ∧ M = K2 := by have h8 := hp2.2.2 h0; simp only [Prod.mk.injEq] at h8; obtain ⟨q1, q2, q3, q4, q5, q6⟩ := h8; exact ⟨q1.symm, q2.symm, q3.symm, q4.symm, q5.symm, q6.symm⟩
    have hG : cC g ((oNet g o f ++ (cNet g hc N tk dom gr va dr off rt cnt lk dl td K E ds)) ++ (mNet g hm N tk dom gr va dr off rt cnt lk dl td M X dm t)) A s H locs := hG
    refine lv_istore (lv' := [(6, .int rb), (5, .int r), (0, .ref b), (1, .ref (hc 0)), (2, .ref (hm 0)), (3, .ref o), (4, .int (nI i))]) hx hb dL_law_191 hl (by decide) rfl (fun ls hl => ?_)
    refine lv_goto (tgt := 843) hx hb dL_law_193 (by decide) ?_
    exact kk _ _ _ ⟨_, _, _, _, _, _, _, _, _, _, _, _, _, _, _, _, _, _, _, _, hG, ⟨hN, hg, hlk, hsy, hR⟩, False.elim⟩ (lv_sub hl [2, 3, 4, 5, 6] rfl)

set_option maxHeartbeats 4000000 in
set_option maxRecDepth 100000 in
theorem lc_1 {p : Program} {e : Env} {s : State} {m : MethodId} {below : List Frame} {meth : Method} {c : Code} (l : Launch) (hl0 : l.stackTraces = false) {b L : Nat} {xs : Nat → Int32} (hL30 : L < 2 ^ 30) (C0 : lw_At p s m meth c b L xs) {z : Prop} {g : EN} {hc hm : Nat → Nat} {o : Nat} {A : Nat → Prop} (hbA : ¬ A b) {i : Nat} (hi : i + 5 ≤ L) {H : Heap} {locs : List Loc} {cells slots : Nat} (hroom : cells + 2 ≤ room_1.cells ∧ slots + 16 ≤ room_1.slots) (hI : LI z g hc hm o A s H locs) {Q : State → Prop} {ls : Array Slot} (hl : lv_has ls 8 [(0, .ref b), (1, .ref (hc 0)), (2, .ref (hm 0)), (3, .ref o), (4, .int (nI i))])
    (kk : ∀ (H1 : Heap) (locs1 : List Loc) (ls1 : Array Slot), LI False g hc hm o A s H1 locs1 → lv_has ls1 8 [(0, .ref b), (1, .ref (hc 0)), (2, .ref (hm 0)), (3, .ref o), (4, .int (nI i))] → W p l e room_1 s m #[Value.ref b] below meth c H1 locs1 (cells + 1) (slots + 6) Q (F0 m 843 ls1 [])) : W p l e room_1 s m #[Value.ref b] below meth c H locs cells slots Q (F0 m 196 ls []) := by
  obtain ⟨hx, hb, hr, hml, hown, hts, hX, hbl, hlocks, hgv⟩ := C0
  have hM : CallFix p m c cL_law 8 s #[Value.ref b] wsL_law RL := ⟨hx, hb, hml, hown, fun w h => hts w (wsL_law_in w h)⟩
  obtain ⟨N, tk, dom, gr, va, dr, off, rt, cnt, lk, dl, td, K, E, ds, M, X, dm, thr, f, hG, ⟨hN, hg, hlk, hsy, hR⟩, hz0⟩ := hI
  refine lv_aload_n hx hb dL_law_196 rfl (lv_at hl 1 rfl) ?_
  refine lv_aload_n hx hb dL_law_197 rfl (lv_at hl 0 rfl) ?_
  refine lv_iload hx hb dL_law_198 (lv_at hl 4 rfl) ?_
  refine lv_iconst (v := 1) hx hb dL_law_200 (by decide) ?_
  refine lv_iadd hx hb dL_law_201 ?_
  refine q_ren (nI_add i 1) ?_
  refine q_sld hM hG hX hbl hbA (by omega) hL30 dL_law_202 ?_
  refine lv_aload_n hx hb dL_law_203 rfl (lv_at hl 0 rfl) ?_
  refine lv_iload hx hb dL_law_204 (lv_at hl 4 rfl) ?_
  refine lv_iconst (v := 2) hx hb dL_law_206 (by decide) ?_
  refine lv_iadd hx hb dL_law_207 ?_
  refine q_ren (nI_add i 2) ?_
  refine q_sld hM hG hX hbl hbA (by omega) hL30 dL_law_208 ?_
  refine lv_aload_n hx hb dL_law_209 rfl (lv_at hl 0 rfl) ?_
  refine lv_iload hx hb dL_law_210 (lv_at hl 4 rfl) ?_
  refine lv_iconst (v := 3) hx hb dL_law_212 (by decide) ?_
  refine lv_iadd hx hb dL_law_213 ?_
  refine q_ren (nI_add i 3) ?_
  refine q_sld hM hG hX hbl hbA (by omega) hL30 dL_law_214 ?_
  refine lv_aload_n hx hb dL_law_215 rfl (lv_at hl 3 rfl) ?_
  refine q_callW (n := 5) (As := [.ref (hc 0), .int (xs (i + 1)), .int (xs (i + 2)), .int (xs (i + 3)), .ref o]) (rest := []) hM hl.1 hG (w_setClock l hl0 g hc o f N tk dom gr va dr off rt cnt lk dl td K E ds (xs (i + 1)) (xs (i + 2)) (xs (i + 3)) hN) rfl gL_law_L_setClock (by decide +kernel) ⟨Nat.le_of_ble_eq_true rfl, Nat.le_of_ble_eq_true rfl⟩ rfl rfl (Nat.le_of_ble_eq_true rfl) dL_law_216 (c1 := cells + 1) (s1 := slots + 6) rfl rfl ⟨by omega, by omega⟩ (fun r v H locs hp hG => ?_)
  rcases v with ⟨⟨u1, u2⟩, f1⟩ | _
  · obtain ⟨rfl, r0, hc0, hf⟩ := hp
    dsimp only at hc0 hf
    obtain ⟨i0, hi0, hx0, hP, rfl, rfl, rfl⟩ := hc0
    have hG : cC g ((oNet g o f1 ++ (cNet g hc N tk dom (upd gr i0 (xs (i + 2))) (upd va i0 (xs (i + 3))) dr off rt cnt lk dl td K E ds)) ++ (mNet g hm N tk dom gr va dr off rt cnt lk dl td M X dm thr)) A s H locs := hG
    refine lv_istore (lv' := [(5, .int 0), (0, .ref b), (1, .ref (hc 0)), (2, .ref (hm 0)), (3, .ref o), (4, .int (nI i))]) hx hb dL_law_219 hl (by decide) rfl (fun ls hl => ?_)
    refine lv_aload_n hx hb dL_law_221 rfl (lv_at hl 3 rfl) ?_
    refine lv_aload_n hx hb dL_law_222 rfl (lv_at hl 1 rfl) ?_
    refine lv_iload hx hb dL_law_223 (lv_at hl 5 rfl) ?_
    refine lv_iconst (v := 1) hx hb dL_law_225 (by decide) ?_
    refine lv_iadd hx hb dL_law_226 ?_
    refine q_ren (nI_add i 1) ?_
    refine q_sld hM hG hX hbl hbA (by omega) hL30 dL_law_227 ?_
    refine lv_aload_n hx hb dL_law_228 rfl (lv_at hl 1 rfl) ?_
    refine lv_iload hx hb dL_law_229 (lv_at hl 5 rfl) ?_
    refine lv_iconst (v := 2) hx hb dL_law_231 (by decide) ?_
    refine lv_iadd hx hb dL_law_232 ?_
    refine q_ren (nI_add i 2) ?_
    refine q_sld hM hG hX hbl hbA (by omega) hL30 dL_law_233 ?_
    refine lv_aload_n hx hb dL_law_234 rfl (lv_at hl 1 rfl) ?_
    refine lv_iload hx hb dL_law_235 (lv_at hl 5 rfl) ?_
    refine lv_iconst (v := 3) hx hb dL_law_237 (by decide) ?_
    refine lv_iadd hx hb dL_law_238 ?_
    refine q_ren (nI_add i 3) ?_
    refine q_sld hM hG hX hbl hbA (by omega) hL30 dL_law_239 ?_
    refine q_callMi (n := 3) (As := [.int (xs (i + 1)), .int (xs (i + 2)), .int (xs (i + 3))]) (rest := []) hM hl.1 hG (c_X3_setClock l g hm N tk dom gr va dr off rt cnt lk dl td M X dm thr (xs (i + 1)) (xs (i + 2)) (xs (i + 3)) hN) rfl gL_law_X3_setClock (by decide +kernel) ⟨Nat.le_of_ble_eq_true rfl, Nat.le_of_ble_eq_true rfl⟩ 0 rfl rfl rfl rfl rfl (Nat.le_of_ble_eq_true rfl) dL_law_240 (c1 := cells + 1) (s1 := slots + 6) rfl rfl ⟨by omega, by omega⟩ (fun rb u2 H locs hp2 hG => ?_)
    obtain ⟨t, m1, m2⟩ := u2
    dsimp only at hp2
    obtain rfl : t = 0 := cd2.ok hp2.1 ⟨i0, hi0, hx0⟩ hP
    obtain ⟨i1, hi1, hx1, rfl, rfl, rfl⟩ := hp2.2.1 rfl
    obtain rfl : i0 = i1 := (nI_eq (by omega) (by omega)).mp (hx0.symm.trans hx1)
    have hG : cC g ((oNet g o f1 ++ (cNet g hc N tk dom (upd gr i0 (xs (i + 2))) (upd va i0 (xs (i + 3))) dr off rt cnt lk dl td K E ds)) ++ (mNet g hm N tk dom (upd gr i0 (xs (i + 2))) (upd va i0 (xs (i + 3))) dr off rt cnt lk dl td M X dm 0)) A s H locs := hG
    refine lv_istore (lv' := [(6, .int (gr i0)), (5, .int 0), (0, .ref b), (1, .ref (hc 0)), (2, .ref (hm 0)), (3, .ref o), (4, .int (nI i))]) hx hb dL_law_243 hl (by decide) rfl (fun ls hl => ?_)
    refine lv_goto (tgt := 843) hx hb dL_law_245 (by decide) ?_
    exact kk _ _ _ ⟨_, _, _, _, _, _, _, _, _, _, _, _, _, _, _, _, _, _, _, _, hG, ⟨hN, rng_u hg hP.1 hP.2, hlk, hsy, hR⟩, False.elim⟩ (lv_sub hl [2, 3, 4, 5, 6] rfl)
  · have hG : cC g ((oNet g o f ++ (cNet g hc N tk dom gr va dr off rt cnt lk dl td K E ds)) ++ (mNet g hm N tk dom gr va dr off rt cnt lk dl td M X dm thr)) A s H locs := hG
    have h9 : xk2 r (okN N (xs (i + 1))) (inR 0 (xs (i + 2)) 255 ∧ inR 0 (xs (i + 3)) 1000) := hp
    refine lv_istore (lv' := [(5, .int r), (0, .ref b), (1, .ref (hc 0)), (2, .ref (hm 0)), (3, .ref o), (4, .int (nI i))]) hx hb dL_law_219 hl (by decide) rfl (fun ls hl => ?_)
    refine lv_aload_n hx hb dL_law_221 rfl (lv_at hl 3 rfl) ?_
    refine lv_aload_n hx hb dL_law_222 rfl (lv_at hl 1 rfl) ?_
    refine lv_iload hx hb dL_law_223 (lv_at hl 5 rfl) ?_
    refine lv_iconst (v := 1) hx hb dL_law_225 (by decide) ?_
    refine lv_iadd hx hb dL_law_226 ?_
    refine q_ren (nI_add i 1) ?_
    refine q_sld hM hG hX hbl hbA (by omega) hL30 dL_law_227 ?_
    refine lv_aload_n hx hb dL_law_228 rfl (lv_at hl 1 rfl) ?_
    refine lv_iload hx hb dL_law_229 (lv_at hl 5 rfl) ?_
    refine lv_iconst (v := 2) hx hb dL_law_231 (by decide) ?_
    refine lv_iadd hx hb dL_law_232 ?_
    refine q_ren (nI_add i 2) ?_
    refine q_sld hM hG hX hbl hbA (by omega) hL30 dL_law_233 ?_
    refine lv_aload_n hx hb dL_law_234 rfl (lv_at hl 1 rfl) ?_
    refine lv_iload hx hb dL_law_235 (lv_at hl 5 rfl) ?_
    refine lv_iconst (v := 3) hx hb dL_law_237 (by decide) ?_
    refine lv_iadd hx hb dL_law_238 ?_
    refine q_ren (nI_add i 3) ?_
    refine q_sld hM hG hX hbl hbA (by omega) hL30 dL_law_239 ?_
    refine q_callMi (n := 3) (As := [.int (xs (i + 1)), .int (xs (i + 2)), .int (xs (i + 3))]) (rest := []) hM hl.1 hG (c_X3_setClock l g hm N tk dom gr va dr off rt cnt lk dl td M X dm thr (xs (i + 1)) (xs (i + 2)) (xs (i + 3)) hN) rfl gL_law_X3_setClock (by decide +kernel) ⟨Nat.le_of_ble_eq_true rfl, Nat.le_of_ble_eq_true rfl⟩ 0 rfl rfl rfl rfl rfl (Nat.le_of_ble_eq_true rfl) dL_law_240 (c1 := cells + 1) (s1 := slots + 6) rfl rfl ⟨by omega, by omega⟩ (fun rb u2 H locs hp2 hG => ?_)
    obtain ⟨t, m1, m2⟩ := u2
    dsimp only at hp2
    have hk : t = r := cd2_uniq hp2.1 h9.cd.1
    have h0 : ¬ t = 0 := by rw [hk]; exact h9.cd.2
    obtain ⟨rfl, rfl⟩ : gr = m1 ∧ va = m2 := ⟨(hp2.2.2 h0).1.symm, (hp2.2.2 h0).2.symm⟩
    have hG : cC g ((oNet g o f ++ (cNet g hc N tk dom gr va dr off rt cnt lk dl td K E ds)) ++ (mNet g hm N tk dom gr va dr off rt cnt lk dl td M X dm t)) A s H locs := hG
    refine lv_istore (lv' := [(6, .int rb), (5, .int r), (0, .ref b), (1, .ref (hc 0)), (2, .ref (hm 0)), (3, .ref o), (4, .int (nI i))]) hx hb dL_law_243 hl (by decide) rfl (fun ls hl => ?_)
    refine lv_goto (tgt := 843) hx hb dL_law_245 (by decide) ?_
    exact kk _ _ _ ⟨_, _, _, _, _, _, _, _, _, _, _, _, _, _, _, _, _, _, _, _, hG, ⟨hN, hg, hlk, hsy, hR⟩, False.elim⟩ (lv_sub hl [2, 3, 4, 5, 6] rfl)

set_option maxHeartbeats 4000000 in
set_option maxRecDepth 100000 in
theorem lc_2 {p : Program} {e : Env} {s : State} {m : MethodId} {below : List Frame} {meth : Method} {c : Code} (l : Launch) (hl0 : l.stackTraces = false) {b L : Nat} {xs : Nat → Int32} (hL30 : L < 2 ^ 30) (C0 : lw_At p s m meth c b L xs) {z : Prop} {g : EN} {hc hm : Nat → Nat} {o : Nat} {A : Nat → Prop} (hbA : ¬ A b) {i : Nat} (hi : i + 5 ≤ L) {H : Heap} {locs : List Loc} {cells slots : Nat} (hroom : cells + 2 ≤ room_1.cells ∧ slots + 16 ≤ room_1.slots) (hI : LI z g hc hm o A s H locs) {Q : State → Prop} {ls : Array Slot} (hl : lv_has ls 8 [(0, .ref b), (1, .ref (hc 0)), (2, .ref (hm 0)), (3, .ref o), (4, .int (nI i))])
    (kk : ∀ (H1 : Heap) (locs1 : List Loc) (ls1 : Array Slot), LI False g hc hm o A s H1 locs1 → lv_has ls1 8 [(0, .ref b), (1, .ref (hc 0)), (2, .ref (hm 0)), (3, .ref o), (4, .int (nI i))] → W p l e room_1 s m #[Value.ref b] below meth c H1 locs1 (cells + 1) (slots + 6) Q (F0 m 843 ls1 [])) : W p l e room_1 s m #[Value.ref b] below meth c H locs cells slots Q (F0 m 248 ls []) := by
  obtain ⟨hx, hb, hr, hml, hown, hts, hX, hbl, hlocks, hgv⟩ := C0
  have hM : CallFix p m c cL_law 8 s #[Value.ref b] wsL_law RL := ⟨hx, hb, hml, hown, fun w h => hts w (wsL_law_in w h)⟩
  obtain ⟨N, tk, dom, gr, va, dr, off, rt, cnt, lk, dl, td, K, E, ds, M, X, dm, thr, f, hG, ⟨hN, hg, hlk, hsy, hR⟩, hz0⟩ := hI
  refine lv_aload_n hx hb dL_law_248 rfl (lv_at hl 1 rfl) ?_
  refine lv_aload_n hx hb dL_law_249 rfl (lv_at hl 0 rfl) ?_
  refine lv_iload hx hb dL_law_250 (lv_at hl 4 rfl) ?_
  refine lv_iconst (v := 1) hx hb dL_law_252 (by decide) ?_
  refine lv_iadd hx hb dL_law_253 ?_
  refine q_ren (nI_add i 1) ?_
  refine q_sld hM hG hX hbl hbA (by omega) hL30 dL_law_254 ?_
  refine lv_aload_n hx hb dL_law_255 rfl (lv_at hl 0 rfl) ?_
  refine lv_iload hx hb dL_law_256 (lv_at hl 4 rfl) ?_
  refine lv_iconst (v := 2) hx hb dL_law_258 (by decide) ?_
  refine lv_iadd hx hb dL_law_259 ?_
  refine q_ren (nI_add i 2) ?_
  refine q_sld hM hG hX hbl hbA (by omega) hL30 dL_law_260 ?_
  refine lv_aload_n hx hb dL_law_261 rfl (lv_at hl 3 rfl) ?_
  refine q_callW (n := 4) (As := [.ref (hc 0), .int (xs (i + 1)), .int (xs (i + 2)), .ref o]) (rest := []) hM hl.1 hG (w_setDrift l hl0 g hc o f N tk dom gr va dr off rt cnt lk dl td K E ds (xs (i + 1)) (xs (i + 2)) hN) rfl gL_law_L_setDrift (by decide +kernel) ⟨Nat.le_of_ble_eq_true rfl, Nat.le_of_ble_eq_true rfl⟩ rfl rfl (Nat.le_of_ble_eq_true rfl) dL_law_262 (c1 := cells + 1) (s1 := slots + 6) rfl rfl ⟨by omega, by omega⟩ (fun r v H locs hp hG => ?_)
  rcases v with ⟨u1, f1⟩ | _
  · obtain ⟨rfl, r0, hc0, hf⟩ := hp
    dsimp only at hc0 hf
    obtain ⟨i0, hi0, hx0, hP, rfl, rfl⟩ := hc0
    have hG : cC g ((oNet g o f1 ++ (cNet g hc N tk dom gr va (upd dr i0 (xs (i + 2))) off rt cnt lk dl td K E ds)) ++ (mNet g hm N tk dom gr va dr off rt cnt lk dl td M X dm thr)) A s H locs := hG
    refine lv_istore (lv' := [(5, .int 0), (0, .ref b), (1, .ref (hc 0)), (2, .ref (hm 0)), (3, .ref o), (4, .int (nI i))]) hx hb dL_law_265 hl (by decide) rfl (fun ls hl => ?_)
    refine lv_aload_n hx hb dL_law_267 rfl (lv_at hl 3 rfl) ?_
    refine lv_aload_n hx hb dL_law_268 rfl (lv_at hl 1 rfl) ?_
    refine lv_iload hx hb dL_law_269 (lv_at hl 5 rfl) ?_
    refine lv_iconst (v := 1) hx hb dL_law_271 (by decide) ?_
    refine lv_iadd hx hb dL_law_272 ?_
    refine q_ren (nI_add i 1) ?_
    refine q_sld hM hG hX hbl hbA (by omega) hL30 dL_law_273 ?_
    refine lv_aload_n hx hb dL_law_274 rfl (lv_at hl 1 rfl) ?_
    refine lv_iload hx hb dL_law_275 (lv_at hl 5 rfl) ?_
    refine lv_iconst (v := 2) hx hb dL_law_277 (by decide) ?_
    refine lv_iadd hx hb dL_law_278 ?_
    refine q_ren (nI_add i 2) ?_
    refine q_sld hM hG hX hbl hbA (by omega) hL30 dL_law_279 ?_
    refine q_callMi (n := 2) (As := [.int (xs (i + 1)), .int (xs (i + 2))]) (rest := []) hM hl.1 hG (c_X3_setDrift l g hm N tk dom gr va dr off rt cnt lk dl td M X dm thr (xs (i + 1)) (xs (i + 2)) hN) rfl gL_law_X3_setDrift (by decide +kernel) ⟨Nat.le_of_ble_eq_true rfl, Nat.le_of_ble_eq_true rfl⟩ 0 rfl rfl rfl rfl rfl (Nat.le_of_ble_eq_true rfl) dL_law_280 (c1 := cells + 1) (s1 := slots + 6) rfl rfl ⟨by omega, by omega⟩ (fun rb u2 H locs hp2 hG => ?_)
    obtain ⟨t, m1⟩ := u2
    dsimp only at hp2
    obtain rfl : t = 0 := cd2.ok hp2.1 ⟨i0, hi0, hx0⟩ hP
    obtain ⟨i1, hi1, hx1, rfl, rfl⟩ := hp2.2.1 rfl
    obtain rfl : i0 = i1 := (nI_eq (by omega) (by omega)).mp (hx0.symm.trans hx1)
    have hG : cC g ((oNet g o f1 ++ (cNet g hc N tk dom gr va (upd dr i0 (xs (i + 2))) off rt cnt lk dl td K E ds)) ++ (mNet g hm N tk dom gr va (upd dr i0 (xs (i + 2))) off rt cnt lk dl td M X dm 0)) A s H locs := hG
    refine lv_istore (lv' := [(6, .int (dr i0)), (5, .int 0), (0, .ref b), (1, .ref (hc 0)), (2, .ref (hm 0)), (3, .ref o), (4, .int (nI i))]) hx hb dL_law_283 hl (by decide) rfl (fun ls hl => ?_)
    refine lv_goto (tgt := 843) hx hb dL_law_285 (by decide) ?_
    exact kk _ _ _ ⟨_, _, _, _, _, _, _, _, _, _, _, _, _, _, _, _, _, _, _, _, hG, ⟨hN, hg, hlk, hsy, hR⟩, False.elim⟩ (lv_sub hl [2, 3, 4, 5, 6] rfl)
  · have hG : cC g ((oNet g o f ++ (cNet g hc N tk dom gr va dr off rt cnt lk dl td K E ds)) ++ (mNet g hm N tk dom gr va dr off rt cnt lk dl td M X dm thr)) A s H locs := hG
    have h9 : xk2 r (okN N (xs (i + 1))) (inR (-100) (xs (i + 2)) 100) := hp
    refine lv_istore (lv' := [(5, .int r), (0, .ref b), (1, .ref (hc 0)), (2, .ref (hm 0)), (3, .ref o), (4, .int (nI i))]) hx hb dL_law_265 hl (by decide) rfl (fun ls hl => ?_)
    refine lv_aload_n hx hb dL_law_267 rfl (lv_at hl 3 rfl) ?_
    refine lv_aload_n hx hb dL_law_268 rfl (lv_at hl 1 rfl) ?_
    refine lv_iload hx hb dL_law_269 (lv_at hl 5 rfl) ?_
    refine lv_iconst (v := 1) hx hb dL_law_271 (by decide) ?_
    refine lv_iadd hx hb dL_law_272 ?_
    refine q_ren (nI_add i 1) ?_
    refine q_sld hM hG hX hbl hbA (by omega) hL30 dL_law_273 ?_
    refine lv_aload_n hx hb dL_law_274 rfl (lv_at hl 1 rfl) ?_
    refine lv_iload hx hb dL_law_275 (lv_at hl 5 rfl) ?_
    refine lv_iconst (v := 2) hx hb dL_law_277 (by decide) ?_
    refine lv_iadd hx hb dL_law_278 ?_
    refine q_ren (nI_add i 2) ?_
    refine q_sld hM hG hX hbl hbA (by omega) hL30 dL_law_279 ?_
    refine q_callMi (n := 2) (As := [.int (xs (i + 1)), .int (xs (i + 2))]) (rest := []) hM hl.1 hG (c_X3_setDrift l g hm N tk dom gr va dr off rt cnt lk dl td M X dm thr (xs (i + 1)) (xs (i + 2)) hN) rfl gL_law_X3_setDrift (by decide +kernel) ⟨Nat.le_of_ble_eq_true rfl, Nat.le_of_ble_eq_true rfl⟩ 0 rfl rfl rfl rfl rfl (Nat.le_of_ble_eq_true rfl) dL_law_280 (c1 := cells + 1) (s1 := slots + 6) rfl rfl ⟨by omega, by omega⟩ (fun rb u2 H locs hp2 hG => ?_)
    obtain ⟨t, m1⟩ := u2
    dsimp only at hp2
    have hk : t = r := cd2_uniq hp2.1 h9.cd.1
    have h0 : ¬ t = 0 := by rw [hk]; exact h9.cd.2
    obtain rfl : dr = m1 := (hp2.2.2 h0).symm
    have hG : cC g ((oNet g o f ++ (cNet g hc N tk dom gr va dr off rt cnt lk dl td K E ds)) ++ (mNet g hm N tk dom gr va dr off rt cnt lk dl td M X dm t)) A s H locs := hG
    refine lv_istore (lv' := [(6, .int rb), (5, .int r), (0, .ref b), (1, .ref (hc 0)), (2, .ref (hm 0)), (3, .ref o), (4, .int (nI i))]) hx hb dL_law_283 hl (by decide) rfl (fun ls hl => ?_)
    refine lv_goto (tgt := 843) hx hb dL_law_285 (by decide) ?_
    exact kk _ _ _ ⟨_, _, _, _, _, _, _, _, _, _, _, _, _, _, _, _, _, _, _, _, hG, ⟨hN, hg, hlk, hsy, hR⟩, False.elim⟩ (lv_sub hl [2, 3, 4, 5, 6] rfl)

set_option maxHeartbeats 4000000 in
set_option maxRecDepth 100000 in
theorem lc_3 {p : Program} {e : Env} {s : State} {m : MethodId} {below : List Frame} {meth : Method} {c : Code} (l : Launch) (hl0 : l.stackTraces = false) {b L : Nat} {xs : Nat → Int32} (hL30 : L < 2 ^ 30) (C0 : lw_At p s m meth c b L xs) {z : Prop} {g : EN} {hc hm : Nat → Nat} {o : Nat} {A : Nat → Prop} (hbA : ¬ A b) {i : Nat} (hi : i + 5 ≤ L) {H : Heap} {locs : List Loc} {cells slots : Nat} (hroom : cells + 2 ≤ room_1.cells ∧ slots + 16 ≤ room_1.slots) (hI : LI z g hc hm o A s H locs) {Q : State → Prop} {ls : Array Slot} (hl : lv_has ls 8 [(0, .ref b), (1, .ref (hc 0)), (2, .ref (hm 0)), (3, .ref o), (4, .int (nI i))])
    (kk : ∀ (H1 : Heap) (locs1 : List Loc) (ls1 : Array Slot), LI False g hc hm o A s H1 locs1 → lv_has ls1 8 [(0, .ref b), (1, .ref (hc 0)), (2, .ref (hm 0)), (3, .ref o), (4, .int (nI i))] → W p l e room_1 s m #[Value.ref b] below meth c H1 locs1 (cells + 1) (slots + 6) Q (F0 m 843 ls1 [])) : W p l e room_1 s m #[Value.ref b] below meth c H locs cells slots Q (F0 m 288 ls []) := by
  obtain ⟨hx, hb, hr, hml, hown, hts, hX, hbl, hlocks, hgv⟩ := C0
  have hM : CallFix p m c cL_law 8 s #[Value.ref b] wsL_law RL := ⟨hx, hb, hml, hown, fun w h => hts w (wsL_law_in w h)⟩
  obtain ⟨N, tk, dom, gr, va, dr, off, rt, cnt, lk, dl, td, K, E, ds, M, X, dm, thr, f, hG, ⟨hN, hg, hlk, hsy, hR⟩, hz0⟩ := hI
  refine lv_aload_n hx hb dL_law_288 rfl (lv_at hl 1 rfl) ?_
  refine lv_aload_n hx hb dL_law_289 rfl (lv_at hl 0 rfl) ?_
  refine lv_iload hx hb dL_law_290 (lv_at hl 4 rfl) ?_
  refine lv_iconst (v := 1) hx hb dL_law_292 (by decide) ?_
  refine lv_iadd hx hb dL_law_293 ?_
  refine q_ren (nI_add i 1) ?_
  refine q_sld hM hG hX hbl hbA (by omega) hL30 dL_law_294 ?_
  refine lv_aload_n hx hb dL_law_295 rfl (lv_at hl 0 rfl) ?_
  refine lv_iload hx hb dL_law_296 (lv_at hl 4 rfl) ?_
  refine lv_iconst (v := 2) hx hb dL_law_298 (by decide) ?_
  refine lv_iadd hx hb dL_law_299 ?_
  refine q_ren (nI_add i 2) ?_
  refine q_sld hM hG hX hbl hbA (by omega) hL30 dL_law_300 ?_
  refine lv_aload_n hx hb dL_law_301 rfl (lv_at hl 3 rfl) ?_
  refine q_callW (n := 4) (As := [.ref (hc 0), .int (xs (i + 1)), .int (xs (i + 2)), .ref o]) (rest := []) hM hl.1 hG (w_setOffset l hl0 g hc o f N tk dom gr va dr off rt cnt lk dl td K E ds (xs (i + 1)) (xs (i + 2)) hN) rfl gL_law_L_setOffset (by decide +kernel) ⟨Nat.le_of_ble_eq_true rfl, Nat.le_of_ble_eq_true rfl⟩ rfl rfl (Nat.le_of_ble_eq_true rfl) dL_law_302 (c1 := cells + 1) (s1 := slots + 6) rfl rfl ⟨by omega, by omega⟩ (fun r v H locs hp hG => ?_)
  rcases v with ⟨u1, f1⟩ | _
  · obtain ⟨rfl, r0, hc0, hf⟩ := hp
    dsimp only at hc0 hf
    obtain ⟨i0, hi0, hx0, hP, rfl, rfl⟩ := hc0
    have hG : cC g ((oNet g o f1 ++ (cNet g hc N tk dom gr va dr (vp_updL off i0 ((xs (i + 2))).toInt64) rt cnt lk dl td K E ds)) ++ (mNet g hm N tk dom gr va dr off rt cnt lk dl td M X dm thr)) A s H locs := hG
    refine lv_istore (lv' := [(5, .int 0), (0, .ref b), (1, .ref (hc 0)), (2, .ref (hm 0)), (3, .ref o), (4, .int (nI i))]) hx hb dL_law_305 hl (by decide) rfl (fun ls hl => ?_)
    refine lv_aload_n hx hb dL_law_307 rfl (lv_at hl 3 rfl) ?_
    refine lv_aload_n hx hb dL_law_308 rfl (lv_at hl 1 rfl) ?_
    refine lv_iload hx hb dL_law_309 (lv_at hl 5 rfl) ?_
    refine lv_iconst (v := 1) hx hb dL_law_311 (by decide) ?_
    refine lv_iadd hx hb dL_law_312 ?_
    refine q_ren (nI_add i 1) ?_
    refine q_sld hM hG hX hbl hbA (by omega) hL30 dL_law_313 ?_
    refine lv_aload_n hx hb dL_law_314 rfl (lv_at hl 1 rfl) ?_
    refine lv_iload hx hb dL_law_315 (lv_at hl 5 rfl) ?_
    refine lv_iconst (v := 2) hx hb dL_law_317 (by decide) ?_
    refine lv_iadd hx hb dL_law_318 ?_
    refine q_ren (nI_add i 2) ?_
    refine q_sld hM hG hX hbl hbA (by omega) hL30 dL_law_319 ?_
    refine q_callMl (n := 2) (As := [.int (xs (i + 1)), .int (xs (i + 2))]) (rest := []) hM hl.1 hG (c_X3_setOffset l g hm N tk dom gr va dr off rt cnt lk dl td M X dm thr (xs (i + 1)) (xs (i + 2)) hN) rfl gL_law_X3_setOffset (by decide +kernel) ⟨Nat.le_of_ble_eq_true rfl, Nat.le_of_ble_eq_true rfl⟩ 0 rfl rfl rfl rfl rfl (Nat.le_of_ble_eq_true rfl) dL_law_320 (c1 := cells + 1) (s1 := slots + 6) rfl rfl ⟨by omega, by omega⟩ (fun rb u2 H locs hp2 hG => ?_)
    obtain ⟨t, m1⟩ := u2
    dsimp only at hp2
    obtain rfl : t = 0 := cd2.ok hp2.1 ⟨i0, hi0, hx0⟩ hP
    obtain ⟨i1, hi1, hx1, rfl, rfl⟩ := hp2.2.1 rfl
    obtain rfl : i0 = i1 := (nI_eq (by omega) (by omega)).mp (hx0.symm.trans hx1)
    have hG : cC g ((oNet g o f1 ++ (cNet g hc N tk dom gr va dr (vp_updL off i0 ((xs (i + 2))).toInt64) rt cnt lk dl td K E ds)) ++ (mNet g hm N tk dom gr va dr (vp_updL off i0 ((xs (i + 2))).toInt64) rt cnt lk dl td M X dm 0)) A s H locs := hG
    refine lv_lstore (lv' := [(6, .long (off i0)), (5, .int 0), (0, .ref b), (1, .ref (hc 0)), (2, .ref (hm 0)), (3, .ref o), (4, .int (nI i))]) hx hb dL_law_323 hl (by decide) rfl (fun ls hl => ?_)
    refine lv_goto (tgt := 843) hx hb dL_law_325 (by decide) ?_
    exact kk _ _ _ ⟨_, _, _, _, _, _, _, _, _, _, _, _, _, _, _, _, _, _, _, _, hG, ⟨hN, hg, hlk, hsy, hR⟩, False.elim⟩ (lv_sub hl [2, 3, 4, 5, 6] rfl)
  · have hG : cC g ((oNet g o f ++ (cNet g hc N tk dom gr va dr off rt cnt lk dl td K E ds)) ++ (mNet g hm N tk dom gr va dr off rt cnt lk dl td M X dm thr)) A s H locs := hG
    have h9 : xk2 r (okN N (xs (i + 1))) (inR (-1000000) (xs (i + 2)) 1000000) := hp
    refine lv_istore (lv' := [(5, .int r), (0, .ref b), (1, .ref (hc 0)), (2, .ref (hm 0)), (3, .ref o), (4, .int (nI i))]) hx hb dL_law_305 hl (by decide) rfl (fun ls hl => ?_)
    refine lv_aload_n hx hb dL_law_307 rfl (lv_at hl 3 rfl) ?_
    refine lv_aload_n hx hb dL_law_308 rfl (lv_at hl 1 rfl) ?_
    refine lv_iload hx hb dL_law_309 (lv_at hl 5 rfl) ?_
    refine lv_iconst (v := 1) hx hb dL_law_311 (by decide) ?_
    refine lv_iadd hx hb dL_law_312 ?_
    refine q_ren (nI_add i 1) ?_
    refine q_sld hM hG hX hbl hbA (by omega) hL30 dL_law_313 ?_
    refine lv_aload_n hx hb dL_law_314 rfl (lv_at hl 1 rfl) ?_
    refine lv_iload hx hb dL_law_315 (lv_at hl 5 rfl) ?_
    refine lv_iconst (v := 2) hx hb dL_law_317 (by decide) ?_
    refine lv_iadd hx hb dL_law_318 ?_
    refine q_ren (nI_add i 2) ?_
    refine q_sld hM hG hX hbl hbA (by omega) hL30 dL_law_319 ?_
    refine q_callMl (n := 2) (As := [.int (xs (i + 1)), .int (xs (i + 2))]) (rest := []) hM hl.1 hG (c_X3_setOffset l g hm N tk dom gr va dr off rt cnt lk dl td M X dm thr (xs (i + 1)) (xs (i + 2)) hN) rfl gL_law_X3_setOffset (by decide +kernel) ⟨Nat.le_of_ble_eq_true rfl, Nat.le_of_ble_eq_true rfl⟩ 0 rfl rfl rfl rfl rfl (Nat.le_of_ble_eq_true rfl) dL_law_320 (c1 := cells + 1) (s1 := slots + 6) rfl rfl ⟨by omega, by omega⟩ (fun rb u2 H locs hp2 hG => ?_)
    obtain ⟨t, m1⟩ := u2
    dsimp only at hp2
    have hk : t = r := cd2_uniq hp2.1 h9.cd.1
    have h0 : ¬ t = 0 := by rw [hk]; exact h9.cd.2
    obtain rfl : off = m1 := (hp2.2.2 h0).symm
    have hG : cC g ((oNet g o f ++ (cNet g hc N tk dom gr va dr off rt cnt lk dl td K E ds)) ++ (mNet g hm N tk dom gr va dr off rt cnt lk dl td M X dm t)) A s H locs := hG
    refine lv_lstore (lv' := [(6, .long rb), (5, .int r), (0, .ref b), (1, .ref (hc 0)), (2, .ref (hm 0)), (3, .ref o), (4, .int (nI i))]) hx hb dL_law_323 hl (by decide) rfl (fun ls hl => ?_)
    refine lv_goto (tgt := 843) hx hb dL_law_325 (by decide) ?_
    exact kk _ _ _ ⟨_, _, _, _, _, _, _, _, _, _, _, _, _, _, _, _, _, _, _, _, hG, ⟨hN, hg, hlk, hsy, hR⟩, False.elim⟩ (lv_sub hl [2, 3, 4, 5, 6] rfl)

set_option maxHeartbeats 4000000 in
set_option maxRecDepth 100000 in
theorem lc_4 {p : Program} {e : Env} {s : State} {m : MethodId} {below : List Frame} {meth : Method} {c : Code} (l : Launch) (hl0 : l.stackTraces = false) {b L : Nat} {xs : Nat → Int32} (hL30 : L < 2 ^ 30) (C0 : lw_At p s m meth c b L xs) {z : Prop} {g : EN} {hc hm : Nat → Nat} {o : Nat} {A : Nat → Prop} (hbA : ¬ A b) {i : Nat} (hi : i + 5 ≤ L) {H : Heap} {locs : List Loc} {cells slots : Nat} (hroom : cells + 2 ≤ room_1.cells ∧ slots + 16 ≤ room_1.slots) (hI : LI z g hc hm o A s H locs) {Q : State → Prop} {ls : Array Slot} (hl : lv_has ls 8 [(0, .ref b), (1, .ref (hc 0)), (2, .ref (hm 0)), (3, .ref o), (4, .int (nI i))])
    (kk : ∀ (H1 : Heap) (locs1 : List Loc) (ls1 : Array Slot), LI False g hc hm o A s H1 locs1 → lv_has ls1 8 [(0, .ref b), (1, .ref (hc 0)), (2, .ref (hm 0)), (3, .ref o), (4, .int (nI i))] → W p l e room_1 s m #[Value.ref b] below meth c H1 locs1 (cells + 1) (slots + 6) Q (F0 m 843 ls1 [])) : W p l e room_1 s m #[Value.ref b] below meth c H locs cells slots Q (F0 m 328 ls []) := by
  obtain ⟨hx, hb, hr, hml, hown, hts, hX, hbl, hlocks, hgv⟩ := C0
  have hM : CallFix p m c cL_law 8 s #[Value.ref b] wsL_law RL := ⟨hx, hb, hml, hown, fun w h => hts w (wsL_law_in w h)⟩
  obtain ⟨N, tk, dom, gr, va, dr, off, rt, cnt, lk, dl, td, K, E, ds, M, X, dm, thr, f, hG, ⟨hN, hg, hlk, hsy, hR⟩, hz0⟩ := hI
  refine lv_aload_n hx hb dL_law_328 rfl (lv_at hl 1 rfl) ?_
  refine lv_aload_n hx hb dL_law_329 rfl (lv_at hl 0 rfl) ?_
  refine lv_iload hx hb dL_law_330 (lv_at hl 4 rfl) ?_
  refine lv_iconst (v := 1) hx hb dL_law_332 (by decide) ?_
  refine lv_iadd hx hb dL_law_333 ?_
  refine q_ren (nI_add i 1) ?_
  refine q_sld hM hG hX hbl hbA (by omega) hL30 dL_law_334 ?_
  refine lv_aload_n hx hb dL_law_335 rfl (lv_at hl 0 rfl) ?_
  refine lv_iload hx hb dL_law_336 (lv_at hl 4 rfl) ?_
  refine lv_iconst (v := 2) hx hb dL_law_338 (by decide) ?_
  refine lv_iadd hx hb dL_law_339 ?_
  refine q_ren (nI_add i 2) ?_
  refine q_sld hM hG hX hbl hbA (by omega) hL30 dL_law_340 ?_
  refine lv_aload_n hx hb dL_law_341 rfl (lv_at hl 0 rfl) ?_
  refine lv_iload hx hb dL_law_342 (lv_at hl 4 rfl) ?_
  refine lv_iconst (v := 3) hx hb dL_law_344 (by decide) ?_
  refine lv_iadd hx hb dL_law_345 ?_
  refine q_ren (nI_add i 3) ?_
  refine q_sld hM hG hX hbl hbA (by omega) hL30 dL_law_346 ?_
  refine lv_aload_n hx hb dL_law_347 rfl (lv_at hl 0 rfl) ?_
  refine lv_iload hx hb dL_law_348 (lv_at hl 4 rfl) ?_
  refine lv_iconst (v := 4) hx hb dL_law_350 (by decide) ?_
  refine lv_iadd hx hb dL_law_351 ?_
  refine q_ren (nI_add i 4) ?_
  refine q_sld hM hG hX hbl hbA (by omega) hL30 dL_law_352 ?_
  refine lv_aload_n hx hb dL_law_353 rfl (lv_at hl 3 rfl) ?_
  refine q_callW (n := 6) (As := [.ref (hc 0), .int (xs (i + 1)), .int (xs (i + 2)), .int (xs (i + 3)), .int (xs (i + 4)), .ref o]) (rest := []) hM hl.1 hG (w_link l hl0 g hc o f N tk dom gr va dr off rt cnt lk dl td K E ds (xs (i + 1)) (xs (i + 2)) (xs (i + 3)) (xs (i + 4)) hN hlk) rfl gL_law_L_link (by decide +kernel) ⟨Nat.le_of_ble_eq_true rfl, Nat.le_of_ble_eq_true rfl⟩ rfl rfl (Nat.le_of_ble_eq_true rfl) dL_law_354 (c1 := cells + 1) (s1 := slots + 6) rfl rfl ⟨by omega, by omega⟩ (fun r v H locs hp hG => ?_)
  rcases v with ⟨⟨u1, u2, u3, u4⟩, f1⟩ | _
  · obtain ⟨rfl, r0, hc0, hf⟩ := hp
    dsimp only at hc0 hf
    obtain ⟨i0, j0, hi0, hj0, hx0, hy0, hP, hQ, rfl, rfl, rfl, rfl, rfl⟩ := hc0
    have hG : cC g ((oNet g o f1 ++ (cNet g hc N tk dom gr va dr off rt (cnt + 1) (upd (upd lk (i0 * 10 + j0) 1) (j0 * 10 + i0) 1) (upd (upd dl (i0 * 10 + j0) (xs (i + 3))) (j0 * 10 + i0) (xs (i + 4))) (upd (upd td (i0 * 10 + j0) 0) (j0 * 10 + i0) 0) K E ds)) ++ (mNet g hm N tk dom gr va dr off rt cnt lk dl td M X dm thr)) A s H locs := hG
    refine lv_istore (lv' := [(5, .int 0), (0, .ref b), (1, .ref (hc 0)), (2, .ref (hm 0)), (3, .ref o), (4, .int (nI i))]) hx hb dL_law_357 hl (by decide) rfl (fun ls hl => ?_)
    refine lv_aload_n hx hb dL_law_359 rfl (lv_at hl 3 rfl) ?_
    refine lv_aload_n hx hb dL_law_360 rfl (lv_at hl 1 rfl) ?_
    refine lv_iload hx hb dL_law_361 (lv_at hl 5 rfl) ?_
    refine lv_iconst (v := 1) hx hb dL_law_363 (by decide) ?_
    refine lv_iadd hx hb dL_law_364 ?_
    refine q_ren (nI_add i 1) ?_
    refine q_sld hM hG hX hbl hbA (by omega) hL30 dL_law_365 ?_
    refine lv_aload_n hx hb dL_law_366 rfl (lv_at hl 1 rfl) ?_
    refine lv_iload hx hb dL_law_367 (lv_at hl 5 rfl) ?_
    refine lv_iconst (v := 2) hx hb dL_law_369 (by decide) ?_
    refine lv_iadd hx hb dL_law_370 ?_
    refine q_ren (nI_add i 2) ?_
    refine q_sld hM hG hX hbl hbA (by omega) hL30 dL_law_371 ?_
    refine lv_aload_n hx hb dL_law_372 rfl (lv_at hl 1 rfl) ?_
    refine lv_iload hx hb dL_law_373 (lv_at hl 5 rfl) ?_
    refine lv_iconst (v := 3) hx hb dL_law_375 (by decide) ?_
    refine lv_iadd hx hb dL_law_376 ?_
    refine q_ren (nI_add i 3) ?_
    refine q_sld hM hG hX hbl hbA (by omega) hL30 dL_law_377 ?_
    refine lv_aload_n hx hb dL_law_378 rfl (lv_at hl 1 rfl) ?_
    refine lv_iload hx hb dL_law_379 (lv_at hl 5 rfl) ?_
    refine lv_iconst (v := 4) hx hb dL_law_381 (by decide) ?_
    refine lv_iadd hx hb dL_law_382 ?_
    refine q_ren (nI_add i 4) ?_
    refine q_sld hM hG hX hbl hbA (by omega) hL30 dL_law_383 ?_
    refine q_callMi (n := 4) (As := [.int (xs (i + 1)), .int (xs (i + 2)), .int (xs (i + 3)), .int (xs (i + 4))]) (rest := []) hM hl.1 hG (c_X3_link l g hm N tk dom gr va dr off rt cnt lk dl td M X dm thr (xs (i + 1)) (xs (i + 2)) (xs (i + 3)) (xs (i + 4)) hN hlk) rfl gL_law_X3_link (by decide +kernel) ⟨Nat.le_of_ble_eq_true rfl, Nat.le_of_ble_eq_true rfl⟩ 0 rfl rfl rfl rfl rfl (Nat.le_of_ble_eq_true rfl) dL_law_384 (c1 := cells + 1) (s1 := slots + 6) rfl rfl ⟨by omega, by omega⟩ (fun rb u2 H locs hp2 hG => ?_)
    obtain ⟨t, m1, m2, m3, m4⟩ := u2
    dsimp only at hp2
    obtain rfl : t = 0 := cd3.ok hp2.1 ⟨⟨i0, hi0, hx0⟩, ⟨j0, hj0, hy0⟩⟩ hP hQ
    obtain ⟨i1, j1, hi1, hj1, hx1, hy1, rfl, rfl, rfl, rfl, rfl⟩ := hp2.2.1 rfl
    obtain rfl : i0 = i1 := (nI_eq (by omega) (by omega)).mp (hx0.symm.trans hx1)
    obtain rfl : j0 = j1 := (nI_eq (by omega) (by omega)).mp (hy0.symm.trans hy1)
    have hG : cC g ((oNet g o f1 ++ (cNet g hc N tk dom gr va dr off rt (cnt + 1) (upd (upd lk (i0 * 10 + j0) 1) (j0 * 10 + i0) 1) (upd (upd dl (i0 * 10 + j0) (xs (i + 3))) (j0 * 10 + i0) (xs (i + 4))) (upd (upd td (i0 * 10 + j0) 0) (j0 * 10 + i0) 0) K E ds)) ++ (mNet g hm N tk dom gr va dr off rt (cnt + 1) (upd (upd lk (i0 * 10 + j0) 1) (j0 * 10 + i0) 1) (upd (upd dl (i0 * 10 + j0) (xs (i + 3))) (j0 * 10 + i0) (xs (i + 4))) (upd (upd td (i0 * 10 + j0) 0) (j0 * 10 + i0) 0) M X dm 0)) A s H locs := hG
    refine lv_istore (lv' := [(6, .int (cnt + 1)), (5, .int 0), (0, .ref b), (1, .ref (hc 0)), (2, .ref (hm 0)), (3, .ref o), (4, .int (nI i))]) hx hb dL_law_387 hl (by decide) rfl (fun ls hl => ?_)
    refine lv_goto (tgt := 843) hx hb dL_law_389 (by decide) ?_
    exact kk _ _ _ ⟨_, _, _, _, _, _, _, _, _, _, _, _, _, _, _, _, _, _, _, _, hG, ⟨hN, hg, b01_u (b01_u hlk (Or.inr rfl)) (Or.inr rfl), sym_u (by omega) (by omega) hsy, hR⟩, False.elim⟩ (lv_sub hl [2, 3, 4, 5, 6] rfl)
  · have hG : cC g ((oNet g o f ++ (cNet g hc N tk dom gr va dr off rt cnt lk dl td K E ds)) ++ (mNet g hm N tk dom gr va dr off rt cnt lk dl td M X dm thr)) A s H locs := hG
    have h9 : xk3 r (okN N (xs (i + 1)) ∧ okN N (xs (i + 2))) (¬ (xs (i + 1)) = (xs (i + 2)) ∧ inR 0 (xs (i + 3)) 100000 ∧ inR 0 (xs (i + 4)) 100000) (¬ lkd lk (xs (i + 1)) (xs (i + 2))) := hp
    refine lv_istore (lv' := [(5, .int r), (0, .ref b), (1, .ref (hc 0)), (2, .ref (hm 0)), (3, .ref o), (4, .int (nI i))]) hx hb dL_law_357 hl (by decide) rfl (fun ls hl => ?_)
    refine lv_aload_n hx hb dL_law_359 rfl (lv_at hl 3 rfl) ?_
    refine lv_aload_n hx hb dL_law_360 rfl (lv_at hl 1 rfl) ?_
    refine lv_iload hx hb dL_law_361 (lv_at hl 5 rfl) ?_
    refine lv_iconst (v := 1) hx hb dL_law_363 (by decide) ?_
    refine lv_iadd hx hb dL_law_364 ?_
    refine q_ren (nI_add i 1) ?_
    refine q_sld hM hG hX hbl hbA (by omega) hL30 dL_law_365 ?_
    refine lv_aload_n hx hb dL_law_366 rfl (lv_at hl 1 rfl) ?_
    refine lv_iload hx hb dL_law_367 (lv_at hl 5 rfl) ?_
    refine lv_iconst (v := 2) hx hb dL_law_369 (by decide) ?_
    refine lv_iadd hx hb dL_law_370 ?_
    refine q_ren (nI_add i 2) ?_
    refine q_sld hM hG hX hbl hbA (by omega) hL30 dL_law_371 ?_
    refine lv_aload_n hx hb dL_law_372 rfl (lv_at hl 1 rfl) ?_
    refine lv_iload hx hb dL_law_373 (lv_at hl 5 rfl) ?_
    refine lv_iconst (v := 3) hx hb dL_law_375 (by decide) ?_
    refine lv_iadd hx hb dL_law_376 ?_
    refine q_ren (nI_add i 3) ?_
    refine q_sld hM hG hX hbl hbA (by omega) hL30 dL_law_377 ?_
    refine lv_aload_n hx hb dL_law_378 rfl (lv_at hl 1 rfl) ?_
    refine lv_iload hx hb dL_law_379 (lv_at hl 5 rfl) ?_
    refine lv_iconst (v := 4) hx hb dL_law_381 (by decide) ?_
    refine lv_iadd hx hb dL_law_382 ?_
    refine q_ren (nI_add i 4) ?_
    refine q_sld hM hG hX hbl hbA (by omega) hL30 dL_law_383 ?_
    refine q_callMi (n := 4) (As := [.int (xs (i + 1)), .int (xs (i + 2)), .int (xs (i + 3)), .int (xs (i + 4))]) (rest := []) hM hl.1 hG (c_X3_link l g hm N tk dom gr va dr off rt cnt lk dl td M X dm thr (xs (i + 1)) (xs (i + 2)) (xs (i + 3)) (xs (i + 4)) hN hlk) rfl gL_law_X3_link (by decide +kernel) ⟨Nat.le_of_ble_eq_true rfl, Nat.le_of_ble_eq_true rfl⟩ 0 rfl rfl rfl rfl rfl (Nat.le_of_ble_eq_true rfl) dL_law_384 (c1 := cells + 1) (s1 := slots + 6) rfl rfl ⟨by omega, by omega⟩ (fun rb u2 H locs hp2 hG => ?_)
    obtain ⟨t, m1, m2, m3, m4⟩ := u2
    dsimp only at hp2
    have hk : t = r := cd3_uniq hp2.1 h9.cd.1
    have h0 : ¬ t = 0 := by rw [hk]; exact h9.cd.2
    obtain ⟨rfl, rfl, rfl, rfl⟩ : lk = m1 ∧ dl = m2 ∧ td = m3 ∧ cnt = m4 := ⟨(hp2.2.2 h0).1.symm, (hp2.2.2 h0).2.1.symm, (hp2.2.2 h0).2.2.1.symm, (hp2.2.2 h0).2.2.2.symm⟩
    have hG : cC g ((oNet g o f ++ (cNet g hc N tk dom gr va dr off rt cnt lk dl td K E ds)) ++ (mNet g hm N tk dom gr va dr off rt cnt lk dl td M X dm t)) A s H locs := hG
    refine lv_istore (lv' := [(6, .int rb), (5, .int r), (0, .ref b), (1, .ref (hc 0)), (2, .ref (hm 0)), (3, .ref o), (4, .int (nI i))]) hx hb dL_law_387 hl (by decide) rfl (fun ls hl => ?_)
    refine lv_goto (tgt := 843) hx hb dL_law_389 (by decide) ?_
    exact kk _ _ _ ⟨_, _, _, _, _, _, _, _, _, _, _, _, _, _, _, _, _, _, _, _, hG, ⟨hN, hg, hlk, hsy, hR⟩, False.elim⟩ (lv_sub hl [2, 3, 4, 5, 6] rfl)
