set_option maxHeartbeats 4000000 in
set_option maxRecDepth 100000 in
theorem c_X1_place (l : Launch) (g : EN) (h : Nat → Nat) (N : Nat) (tk : Int32) (dom : Nat → Int32) (gr : Nat → Int32) (va : Nat → Int32) (dr : Nat → Int32) (off : Nat → Int64) (rt : Nat → Int64) (cnt : Int32) (lk : Nat → Int32) (dl : Nat → Int32) (td : Nat → Int32) (K : KT) (E : KT) (ds : Nat → Int32) (i j : Nat)  : Ci l yX1_place wsX1_place ({ frames := 0, cells := 0, slots := 0, locals := 0 }) g [.int (nI i), .int (nI j)] (cNet g h N tk dom gr va dr off rt cnt lk dl td K E ds) (fun (r : Int32) (_ : Unit) => r = nI (i * 10 + j)) (fun (_ : Unit) => (cNet g h N tk dom gr va dr off rt cnt lk dl td K E ds)) := by
  refine Ci.of (cc := cX1_place) (maxL := 2) (by decide) rfl (Nat.le_of_ble_eq_true rfl) ?_
  intro p e s m args below meth c A Q ls hM hG hRet hl
  have hx := hM.1
  have hb := hM.2.1
  have hown := hM.2.2.2.1
  have hts := hM.2.2.2.2
  have hl : lv_has ls 2 [(0, .int (nI i)), (1, .int (nI j))] := hl
  refine lv_iload_n hx hb dX1_place_0 rfl (lv_at hl 0 rfl) ?_
  refine lv_bipush (v := 10) hx hb dX1_place_1 (by decide) ?_
  refine lv_imul hx hb dX1_place_3 ?_
  refine lv_iload_n hx hb dX1_place_4 rfl (lv_at hl 1 rfl) ?_
  refine lv_iadd hx hb dX1_place_5 ?_
  exact hRet (((nI i) * 10) + (nI j)) () _ _ _ _ _ _ (ix_mul i j) hG (Nat.le_of_ble_eq_true rfl) (Nat.le_of_ble_eq_true rfl) dX1_place_6

set_option maxHeartbeats 4000000 in
set_option maxRecDepth 100000 in
theorem c_X1_areLinked (l : Launch) (g : EN) (h : Nat → Nat) (N : Nat) (tk : Int32) (dom : Nat → Int32) (gr : Nat → Int32) (va : Nat → Int32) (dr : Nat → Int32) (off : Nat → Int64) (rt : Nat → Int64) (cnt : Int32) (lk : Nat → Int32) (dl : Nat → Int32) (td : Nat → Int32) (K : KT) (E : KT) (ds : Nat → Int32) (i j : Nat) (hij : i * 10 + j < 100) (hlk : b01 lk)  : Ci l yX1_areLinked wsX1_areLinked ({ frames := 1, cells := 0, slots := 0, locals := 21 }) g [.ref (h 8), .int (nI i), .int (nI j)] (cNet g h N tk dom gr va dr off rt cnt lk dl td K E ds) (fun (r : Int32) (_ : Unit) => bP r (lk (i * 10 + j) = 1)) (fun (_ : Unit) => (cNet g h N tk dom gr va dr off rt cnt lk dl td K E ds)) := by
  refine Cz.of (cc := cX1_areLinked) (maxL := 3) (by decide) rfl (Nat.le_of_ble_eq_true rfl) (fun r u h => bP.b h) ?_
  intro p e s m args below meth c A Q ls hM hG hRet hl
  have hx := hM.1
  have hb := hM.2.1
  have hown := hM.2.2.2.1
  have hts := hM.2.2.2.2
  have wRX1_9 : Cond.fieldLink RX1 9 "TimeNet$Wires" "laid" "[Z" ∈ wsX1_areLinked := by decide +kernel
  have hinX1 : ∀ w ∈ wsX10, w ∈ wsX1_areLinked := by decide +kernel
  have hl : lv_has ls 3 [(0, .ref (h 8)), (1, .int (nI i)), (2, .int (nI j))] := hl
  refine lv_aload_n hx hb dX1_areLinked_0 rfl (lv_at hl 0 rfl) ?_
  refine q_get hM hG (C := RX1) (T := TX1) (n := 4) hinX1 8 rfl rfl 0 (by decide) wRX1_9 rfl (v := .ref (h 9)) rfl dX1_areLinked_1 ?_
  refine lv_iload_n hx hb dX1_areLinked_4 rfl (lv_at hl 1 rfl) ?_
  refine lv_iload_n hx hb dX1_areLinked_5 rfl (lv_at hl 2 rfl) ?_
  refine q_callSi (n := 2) (As := [.int (nI i), .int (nI j)]) (rest := [.ref (h 9)]) hM hl.1 hG (c_X1_place l g h N tk dom gr va dr off rt cnt lk dl td K E ds i j) rfl gX1_areLinked_X1_place (by decide +kernel) ⟨Nat.le_of_ble_eq_true rfl, Nat.le_of_ble_eq_true rfl⟩ rfl rfl (Nat.le_of_ble_eq_true rfl) dX1_areLinked_6 (c1 := 0) (s1 := 0) rfl rfl ⟨Nat.le_of_ble_eq_true rfl, Nat.le_of_ble_eq_true rfl⟩ (fun r_6 u_6 H locs hp_6 hG => ?_)
  subst hp_6
  refine q_zald hM hG 9 rfl hij (by decide) dX1_areLinked_9 ?_
  exact hRet (lk (i * 10 + j)) () _ _ _ _ _ _ (by rcases hlk (i * 10 + j) with h9 | h9 <;> rw [h9] <;> first | exact bP.t rfl | exact bP.f (by decide)) hG (Nat.le_of_ble_eq_true rfl) (Nat.le_of_ble_eq_true rfl) dX1_areLinked_10

set_option maxHeartbeats 4000000 in
set_option maxRecDepth 100000 in
theorem c_X1_noteDifference (l : Launch) (g : EN) (h : Nat → Nat) (N : Nat) (tk : Int32) (dom : Nat → Int32) (gr : Nat → Int32) (va : Nat → Int32) (dr : Nat → Int32) (off : Nat → Int64) (rt : Nat → Int64) (cnt : Int32) (lk : Nat → Int32) (dl : Nat → Int32) (td : Nat → Int32) (K : KT) (E : KT) (ds : Nat → Int32) (i j : Nat) (d : Int32) (hij : i * 10 + j < 100) (hji : j * 10 + i < 100)  : Ci l yX1_noteDifference wsX1_noteDifference ({ frames := 1, cells := 0, slots := 0, locals := 21 }) g [.ref (h 8), .int (nI i), .int (nI j), .int d] (cNet g h N tk dom gr va dr off rt cnt lk dl td K E ds) (fun (r : Int32) (u : Nat → Int32) => r = td (i * 10 + j) ∧ u = upd (upd td (i * 10 + j) d) (j * 10 + i) (-d)) (fun (u : Nat → Int32) => (cNet g h N tk dom gr va dr off rt cnt lk dl u K E ds)) := by
  refine Ci.of (cc := cX1_noteDifference) (maxL := 5) (by decide) rfl (Nat.le_of_ble_eq_true rfl) ?_
  intro p e s m args below meth c A Q ls hM hG hRet hl
  have hx := hM.1
  have hb := hM.2.1
  have hown := hM.2.2.2.1
  have hts := hM.2.2.2.2
  have wRX1_19 : Cond.fieldLink RX1 19 "TimeNet$Wires" "told" "[I" ∈ wsX1_noteDifference := by decide +kernel
  have hinX1 : ∀ w ∈ wsX10, w ∈ wsX1_noteDifference := by decide +kernel
  have hl : lv_has ls 5 [(0, .ref (h 8)), (1, .int (nI i)), (2, .int (nI j)), (3, .int d)] := hl
  refine lv_aload_n hx hb dX1_noteDifference_0 rfl (lv_at hl 0 rfl) ?_
  refine q_get hM hG (C := RX1) (T := TX1) (n := 4) hinX1 8 rfl rfl 2 (by decide) wRX1_19 rfl (v := .ref (h 11)) rfl dX1_noteDifference_1 ?_
  refine lv_iload_n hx hb dX1_noteDifference_4 rfl (lv_at hl 1 rfl) ?_
  refine lv_iload_n hx hb dX1_noteDifference_5 rfl (lv_at hl 2 rfl) ?_
  refine q_callSi (n := 2) (As := [.int (nI i), .int (nI j)]) (rest := [.ref (h 11)]) hM hl.1 hG (c_X1_place l g h N tk dom gr va dr off rt cnt lk dl td K E ds i j) rfl gX1_noteDifference_X1_place (by decide +kernel) ⟨Nat.le_of_ble_eq_true rfl, Nat.le_of_ble_eq_true rfl⟩ rfl rfl (Nat.le_of_ble_eq_true rfl) dX1_noteDifference_6 (c1 := 0) (s1 := 0) rfl rfl ⟨Nat.le_of_ble_eq_true rfl, Nat.le_of_ble_eq_true rfl⟩ (fun r_6 u_6 H locs hp_6 hG => ?_)
  subst hp_6
  refine q_iald hM hG 11 rfl hij (by decide) dX1_noteDifference_9 ?_
  refine lv_istore (lv' := [(4, .int (td (i * 10 + j))), (0, .ref (h 8)), (1, .int (nI i)), (2, .int (nI j)), (3, .int d)]) hx hb dX1_noteDifference_10 hl (by decide) rfl (fun ls hl => ?_)
  refine lv_aload_n hx hb dX1_noteDifference_12 rfl (lv_at hl 1 rfl) ?_
  refine q_get hM hG (C := RX1) (T := TX1) (n := 4) hinX1 8 rfl rfl 2 (by decide) wRX1_19 rfl (v := .ref (h 11)) rfl dX1_noteDifference_13 ?_
  refine lv_iload_n hx hb dX1_noteDifference_16 rfl (lv_at hl 2 rfl) ?_
  refine lv_iload_n hx hb dX1_noteDifference_17 rfl (lv_at hl 3 rfl) ?_
  refine q_callSi (n := 2) (As := [.int (nI i), .int (nI j)]) (rest := [.ref (h 11)]) hM hl.1 hG (c_X1_place l g h N tk dom gr va dr off rt cnt lk dl td K E ds i j) rfl gX1_noteDifference_X1_place (by decide +kernel) ⟨Nat.le_of_ble_eq_true rfl, Nat.le_of_ble_eq_true rfl⟩ rfl rfl (Nat.le_of_ble_eq_true rfl) dX1_noteDifference_18 (c1 := 0) (s1 := 0) rfl rfl ⟨Nat.le_of_ble_eq_true rfl, Nat.le_of_ble_eq_true rfl⟩ (fun r_18 u_18 H locs hp_18 hG => ?_)
  subst hp_18
  refine lv_iload_n hx hb dX1_noteDifference_21 rfl (lv_at hl 4 rfl) ?_
  refine q_iast hM hG 11 rfl hij (by decide) (ws1 := (cNet g h N tk dom gr va dr off rt cnt lk dl (upd td (i * 10 + j) d) K E ds)) rfl dX1_noteDifference_22 (fun H locs hG => ?_)
  refine lv_aload_n hx hb dX1_noteDifference_23 rfl (lv_at hl 1 rfl) ?_
  refine q_get hM hG (C := RX1) (T := TX1) (n := 4) hinX1 8 rfl rfl 2 (by decide) wRX1_19 rfl (v := .ref (h 11)) rfl dX1_noteDifference_24 ?_
  refine lv_iload_n hx hb dX1_noteDifference_27 rfl (lv_at hl 3 rfl) ?_
  refine lv_iload_n hx hb dX1_noteDifference_28 rfl (lv_at hl 2 rfl) ?_
  refine q_callSi (n := 2) (As := [.int (nI j), .int (nI i)]) (rest := [.ref (h 11)]) hM hl.1 hG (c_X1_place l g h N tk dom gr va dr off rt cnt lk dl (upd td (i * 10 + j) d) K E ds j i) rfl gX1_noteDifference_X1_place (by decide +kernel) ⟨Nat.le_of_ble_eq_true rfl, Nat.le_of_ble_eq_true rfl⟩ rfl rfl (Nat.le_of_ble_eq_true rfl) dX1_noteDifference_29 (c1 := 0) (s1 := 0) rfl rfl ⟨Nat.le_of_ble_eq_true rfl, Nat.le_of_ble_eq_true rfl⟩ (fun r_29 u_29 H locs hp_29 hG => ?_)
  subst hp_29
  refine lv_iload_n hx hb dX1_noteDifference_32 rfl (lv_at hl 4 rfl) ?_
  refine lv_ineg hx hb dX1_noteDifference_33 ?_
  refine q_iast hM hG 11 rfl hji (by decide) (ws1 := (cNet g h N tk dom gr va dr off rt cnt lk dl (upd (upd td (i * 10 + j) d) (j * 10 + i) (-d)) K E ds)) rfl dX1_noteDifference_34 (fun H locs hG => ?_)
  refine lv_iload hx hb dX1_noteDifference_35 (lv_at hl 0 rfl) ?_
  exact hRet (td (i * 10 + j)) (upd (upd td (i * 10 + j) d) (j * 10 + i) (-d)) _ _ _ _ _ _ (⟨rfl, rfl⟩) hG (Nat.le_of_ble_eq_true rfl) (Nat.le_of_ble_eq_true rfl) dX1_noteDifference_37

set_option maxHeartbeats 4000000 in
set_option maxRecDepth 100000 in
theorem c_X1_lay (l : Launch) (g : EN) (h : Nat → Nat) (N : Nat) (tk : Int32) (dom : Nat → Int32) (gr : Nat → Int32) (va : Nat → Int32) (dr : Nat → Int32) (off : Nat → Int64) (rt : Nat → Int64) (cnt : Int32) (lk : Nat → Int32) (dl : Nat → Int32) (td : Nat → Int32) (K : KT) (E : KT) (ds : Nat → Int32) (i j : Nat) (a b : Int32) (hij : i * 10 + j < 100) (hji : j * 10 + i < 100)  : Cv l yX1_lay wsX1_lay ({ frames := 2, cells := 0, slots := 0, locals := 45 }) g [.ref (h 8), .int (nI i), .int (nI j), .int a, .int b] (cNet g h N tk dom gr va dr off rt cnt lk dl td K E ds) (fun (u : (Nat → Int32) × (Nat → Int32) × (Nat → Int32) × Int32) => u.1 = upd (upd lk (i * 10 + j) 1) (j * 10 + i) 1 ∧ u.2.1 = upd (upd dl (i * 10 + j) a) (j * 10 + i) b ∧ u.2.2.1 = upd (upd td (i * 10 + j) 0) (j * 10 + i) 0 ∧ u.2.2.2 = cnt + 1) (fun (u : (Nat → Int32) × (Nat → Int32) × (Nat → Int32) × Int32) => (cNet g h N tk dom gr va dr off rt u.2.2.2 u.1 u.2.1 u.2.2.1 K E ds)) := by
  refine Cv.of (cc := cX1_lay) (maxL := 5) (by decide) rfl (Nat.le_of_ble_eq_true rfl) ?_
  intro p e s m args below meth c A Q ls hM hG hRet hl
  have hx := hM.1
  have hb := hM.2.1
  have hown := hM.2.2.2.1
  have hts := hM.2.2.2.2
  have wRX1_9 : Cond.fieldLink RX1 9 "TimeNet$Wires" "laid" "[Z" ∈ wsX1_lay := by decide +kernel
  have wRX1_15 : Cond.fieldLink RX1 15 "TimeNet$Wires" "delay" "[I" ∈ wsX1_lay := by decide +kernel
  have wRX1_22 : Cond.fieldLink RX1 22 "TimeNet$Wires" "count" "I" ∈ wsX1_lay := by decide +kernel
  have hinX1 : ∀ w ∈ wsX10, w ∈ wsX1_lay := by decide +kernel
  have hl : lv_has ls 5 [(0, .ref (h 8)), (1, .int (nI i)), (2, .int (nI j)), (3, .int a), (4, .int b)] := hl
  refine lv_aload_n hx hb dX1_lay_0 rfl (lv_at hl 0 rfl) ?_
  refine q_get hM hG (C := RX1) (T := TX1) (n := 4) hinX1 8 rfl rfl 0 (by decide) wRX1_9 rfl (v := .ref (h 9)) rfl dX1_lay_1 ?_
  refine lv_iload_n hx hb dX1_lay_4 rfl (lv_at hl 1 rfl) ?_
  refine lv_iload_n hx hb dX1_lay_5 rfl (lv_at hl 2 rfl) ?_
  refine q_callSi (n := 2) (As := [.int (nI i), .int (nI j)]) (rest := [.ref (h 9)]) hM hl.1 hG (c_X1_place l g h N tk dom gr va dr off rt cnt lk dl td K E ds i j) rfl gX1_lay_X1_place (by decide +kernel) ⟨Nat.le_of_ble_eq_true rfl, Nat.le_of_ble_eq_true rfl⟩ rfl rfl (Nat.le_of_ble_eq_true rfl) dX1_lay_6 (c1 := 0) (s1 := 0) rfl rfl ⟨Nat.le_of_ble_eq_true rfl, Nat.le_of_ble_eq_true rfl⟩ (fun r_6 u_6 H locs hp_6 hG => ?_)
  subst hp_6
  refine lv_iconst (v := 1) hx hb dX1_lay_9 (by decide) ?_
  refine q_zast hM hG 9 rfl hij (by decide) (by first | exact Or.inl rfl | exact Or.inr rfl) (ws1 := (cNet g h N tk dom gr va dr off rt cnt (upd lk (i * 10 + j) 1) dl td K E ds)) rfl dX1_lay_10 (fun H locs hG => ?_)
  refine lv_aload_n hx hb dX1_lay_11 rfl (lv_at hl 0 rfl) ?_
  refine q_get hM hG (C := RX1) (T := TX1) (n := 4) hinX1 8 rfl rfl 0 (by decide) wRX1_9 rfl (v := .ref (h 9)) rfl dX1_lay_12 ?_
  refine lv_iload_n hx hb dX1_lay_15 rfl (lv_at hl 2 rfl) ?_
  refine lv_iload_n hx hb dX1_lay_16 rfl (lv_at hl 1 rfl) ?_
  refine q_callSi (n := 2) (As := [.int (nI j), .int (nI i)]) (rest := [.ref (h 9)]) hM hl.1 hG (c_X1_place l g h N tk dom gr va dr off rt cnt (upd lk (i * 10 + j) 1) dl td K E ds j i) rfl gX1_lay_X1_place (by decide +kernel) ⟨Nat.le_of_ble_eq_true rfl, Nat.le_of_ble_eq_true rfl⟩ rfl rfl (Nat.le_of_ble_eq_true rfl) dX1_lay_17 (c1 := 0) (s1 := 0) rfl rfl ⟨Nat.le_of_ble_eq_true rfl, Nat.le_of_ble_eq_true rfl⟩ (fun r_17 u_17 H locs hp_17 hG => ?_)
  subst hp_17
  refine lv_iconst (v := 1) hx hb dX1_lay_20 (by decide) ?_
  refine q_zast hM hG 9 rfl hji (by decide) (by first | exact Or.inl rfl | exact Or.inr rfl) (ws1 := (cNet g h N tk dom gr va dr off rt cnt (upd (upd lk (i * 10 + j) 1) (j * 10 + i) 1) dl td K E ds)) rfl dX1_lay_21 (fun H locs hG => ?_)
  refine lv_aload_n hx hb dX1_lay_22 rfl (lv_at hl 0 rfl) ?_
  refine q_get hM hG (C := RX1) (T := TX1) (n := 4) hinX1 8 rfl rfl 1 (by decide) wRX1_15 rfl (v := .ref (h 10)) rfl dX1_lay_23 ?_
  refine lv_iload_n hx hb dX1_lay_26 rfl (lv_at hl 1 rfl) ?_
  refine lv_iload_n hx hb dX1_lay_27 rfl (lv_at hl 2 rfl) ?_
  refine q_callSi (n := 2) (As := [.int (nI i), .int (nI j)]) (rest := [.ref (h 10)]) hM hl.1 hG (c_X1_place l g h N tk dom gr va dr off rt cnt (upd (upd lk (i * 10 + j) 1) (j * 10 + i) 1) dl td K E ds i j) rfl gX1_lay_X1_place (by decide +kernel) ⟨Nat.le_of_ble_eq_true rfl, Nat.le_of_ble_eq_true rfl⟩ rfl rfl (Nat.le_of_ble_eq_true rfl) dX1_lay_28 (c1 := 0) (s1 := 0) rfl rfl ⟨Nat.le_of_ble_eq_true rfl, Nat.le_of_ble_eq_true rfl⟩ (fun r_28 u_28 H locs hp_28 hG => ?_)
  subst hp_28
  refine lv_iload_n hx hb dX1_lay_31 rfl (lv_at hl 3 rfl) ?_
  refine q_iast hM hG 10 rfl hij (by decide) (ws1 := (cNet g h N tk dom gr va dr off rt cnt (upd (upd lk (i * 10 + j) 1) (j * 10 + i) 1) (upd dl (i * 10 + j) a) td K E ds)) rfl dX1_lay_32 (fun H locs hG => ?_)
  refine lv_aload_n hx hb dX1_lay_33 rfl (lv_at hl 0 rfl) ?_
  refine q_get hM hG (C := RX1) (T := TX1) (n := 4) hinX1 8 rfl rfl 1 (by decide) wRX1_15 rfl (v := .ref (h 10)) rfl dX1_lay_34 ?_
  refine lv_iload_n hx hb dX1_lay_37 rfl (lv_at hl 2 rfl) ?_
  refine lv_iload_n hx hb dX1_lay_38 rfl (lv_at hl 1 rfl) ?_
  refine q_callSi (n := 2) (As := [.int (nI j), .int (nI i)]) (rest := [.ref (h 10)]) hM hl.1 hG (c_X1_place l g h N tk dom gr va dr off rt cnt (upd (upd lk (i * 10 + j) 1) (j * 10 + i) 1) (upd dl (i * 10 + j) a) td K E ds j i) rfl gX1_lay_X1_place (by decide +kernel) ⟨Nat.le_of_ble_eq_true rfl, Nat.le_of_ble_eq_true rfl⟩ rfl rfl (Nat.le_of_ble_eq_true rfl) dX1_lay_39 (c1 := 0) (s1 := 0) rfl rfl ⟨Nat.le_of_ble_eq_true rfl, Nat.le_of_ble_eq_true rfl⟩ (fun r_39 u_39 H locs hp_39 hG => ?_)
  subst hp_39
  refine lv_iload hx hb dX1_lay_42 (lv_at hl 4 rfl) ?_
  refine q_iast hM hG 10 rfl hji (by decide) (ws1 := (cNet g h N tk dom gr va dr off rt cnt (upd (upd lk (i * 10 + j) 1) (j * 10 + i) 1) (upd (upd dl (i * 10 + j) a) (j * 10 + i) b) td K E ds)) rfl dX1_lay_44 (fun H locs hG => ?_)
  refine lv_aload_n hx hb dX1_lay_45 rfl (lv_at hl 0 rfl) ?_
  refine lv_iload_n hx hb dX1_lay_46 rfl (lv_at hl 1 rfl) ?_
  refine lv_iload_n hx hb dX1_lay_47 rfl (lv_at hl 2 rfl) ?_
  refine lv_iconst (v := 0) hx hb dX1_lay_48 (by decide) ?_
  refine q_calli (n := 3) (As := [.int (nI i), .int (nI j), .int 0]) (rest := []) hM hl.1 hG (c_X1_noteDifference l g h N tk dom gr va dr off rt cnt (upd (upd lk (i * 10 + j) 1) (j * 10 + i) 1) (upd (upd dl (i * 10 + j) a) (j * 10 + i) b) td K E ds i j 0 hij hji) rfl gX1_lay_X1_noteDifference (by decide +kernel) ⟨Nat.le_of_ble_eq_true rfl, Nat.le_of_ble_eq_true rfl⟩ 8 rfl rfl rfl rfl rfl (Nat.le_of_ble_eq_true rfl) dX1_lay_49 (c1 := 0) (s1 := 0) rfl rfl ⟨Nat.le_of_ble_eq_true rfl, Nat.le_of_ble_eq_true rfl⟩ (fun r_49 u_49 H locs hp_49 hG => ?_)
  refine lv_pop hx hb dX1_lay_52 rfl ?_
  refine lv_aload_n hx hb dX1_lay_53 rfl (lv_at hl 0 rfl) ?_
  refine lv_dup hx hb dX1_lay_54 rfl ?_
  refine q_get hM hG (C := RX1) (T := TX1) (n := 4) hinX1 8 rfl rfl 3 (by decide) wRX1_22 rfl (v := .int cnt) rfl dX1_lay_55 ?_
  refine lv_iconst (v := 1) hx hb dX1_lay_58 (by decide) ?_
  refine lv_iadd hx hb dX1_lay_59 ?_
  refine q_put hM hG (C := RX1) (T := TX1) (n := 4) hinX1 tyX1 tyX1_ok nmX1 8 rfl rfl 3 (by decide) wRX1_22 rfl rfl rfl (Nat.le_of_ble_eq_true rfl) (ws1 := (cNet g h N tk dom gr va dr off rt (cnt + 1) (upd (upd lk (i * 10 + j) 1) (j * 10 + i) 1) (upd (upd dl (i * 10 + j) a) (j * 10 + i) b) u_49 K E ds)) rfl dX1_lay_60 (fun H locs hG => ?_)
  exact hRet ((upd (upd lk (i * 10 + j) 1) (j * 10 + i) 1), (upd (upd dl (i * 10 + j) a) (j * 10 + i) b), u_49, (cnt + 1)) _ _ _ _ _ _ (⟨rfl, rfl, hp_49.2, rfl⟩) hG (Nat.le_of_ble_eq_true rfl) (Nat.le_of_ble_eq_true rfl) dX1_lay_63

set_option maxHeartbeats 4000000 in
set_option maxRecDepth 100000 in
theorem c_X1_remove (l : Launch) (g : EN) (h : Nat → Nat) (N : Nat) (tk : Int32) (dom : Nat → Int32) (gr : Nat → Int32) (va : Nat → Int32) (dr : Nat → Int32) (off : Nat → Int64) (rt : Nat → Int64) (cnt : Int32) (lk : Nat → Int32) (dl : Nat → Int32) (td : Nat → Int32) (K : KT) (E : KT) (ds : Nat → Int32) (i j : Nat) (hij : i * 10 + j < 100) (hji : j * 10 + i < 100)  : Cv l yX1_remove wsX1_remove ({ frames := 1, cells := 0, slots := 0, locals := 21 }) g [.ref (h 8), .int (nI i), .int (nI j)] (cNet g h N tk dom gr va dr off rt cnt lk dl td K E ds) (fun (u : (Nat → Int32) × Int32) => u.1 = upd (upd lk (i * 10 + j) 0) (j * 10 + i) 0 ∧ u.2 = cnt - 1) (fun (u : (Nat → Int32) × Int32) => (cNet g h N tk dom gr va dr off rt u.2 u.1 dl td K E ds)) := by
  refine Cv.of (cc := cX1_remove) (maxL := 3) (by decide) rfl (Nat.le_of_ble_eq_true rfl) ?_
  intro p e s m args below meth c A Q ls hM hG hRet hl
  have hx := hM.1
  have hb := hM.2.1
  have hown := hM.2.2.2.1
  have hts := hM.2.2.2.2
  have wRX1_9 : Cond.fieldLink RX1 9 "TimeNet$Wires" "laid" "[Z" ∈ wsX1_remove := by decide +kernel
  have wRX1_22 : Cond.fieldLink RX1 22 "TimeNet$Wires" "count" "I" ∈ wsX1_remove := by decide +kernel
  have hinX1 : ∀ w ∈ wsX10, w ∈ wsX1_remove := by decide +kernel
  have hl : lv_has ls 3 [(0, .ref (h 8)), (1, .int (nI i)), (2, .int (nI j))] := hl
  refine lv_aload_n hx hb dX1_remove_0 rfl (lv_at hl 0 rfl) ?_
  refine q_get hM hG (C := RX1) (T := TX1) (n := 4) hinX1 8 rfl rfl 0 (by decide) wRX1_9 rfl (v := .ref (h 9)) rfl dX1_remove_1 ?_
  refine lv_iload_n hx hb dX1_remove_4 rfl (lv_at hl 1 rfl) ?_
  refine lv_iload_n hx hb dX1_remove_5 rfl (lv_at hl 2 rfl) ?_
  refine q_callSi (n := 2) (As := [.int (nI i), .int (nI j)]) (rest := [.ref (h 9)]) hM hl.1 hG (c_X1_place l g h N tk dom gr va dr off rt cnt lk dl td K E ds i j) rfl gX1_remove_X1_place (by decide +kernel) ⟨Nat.le_of_ble_eq_true rfl, Nat.le_of_ble_eq_true rfl⟩ rfl rfl (Nat.le_of_ble_eq_true rfl) dX1_remove_6 (c1 := 0) (s1 := 0) rfl rfl ⟨Nat.le_of_ble_eq_true rfl, Nat.le_of_ble_eq_true rfl⟩ (fun r_6 u_6 H locs hp_6 hG => ?_)
  subst hp_6
  refine lv_iconst (v := 0) hx hb dX1_remove_9 (by decide) ?_
  refine q_zast hM hG 9 rfl hij (by decide) (by first | exact Or.inl rfl | exact Or.inr rfl) (ws1 := (cNet g h N tk dom gr va dr off rt cnt (upd lk (i * 10 + j) 0) dl td K E ds)) rfl dX1_remove_10 (fun H locs hG => ?_)
  refine lv_aload_n hx hb dX1_remove_11 rfl (lv_at hl 0 rfl) ?_
  refine q_get hM hG (C := RX1) (T := TX1) (n := 4) hinX1 8 rfl rfl 0 (by decide) wRX1_9 rfl (v := .ref (h 9)) rfl dX1_remove_12 ?_
  refine lv_iload_n hx hb dX1_remove_15 rfl (lv_at hl 2 rfl) ?_
  refine lv_iload_n hx hb dX1_remove_16 rfl (lv_at hl 1 rfl) ?_
  refine q_callSi (n := 2) (As := [.int (nI j), .int (nI i)]) (rest := [.ref (h 9)]) hM hl.1 hG (c_X1_place l g h N tk dom gr va dr off rt cnt (upd lk (i * 10 + j) 0) dl td K E ds j i) rfl gX1_remove_X1_place (by decide +kernel) ⟨Nat.le_of_ble_eq_true rfl, Nat.le_of_ble_eq_true rfl⟩ rfl rfl (Nat.le_of_ble_eq_true rfl) dX1_remove_17 (c1 := 0) (s1 := 0) rfl rfl ⟨Nat.le_of_ble_eq_true rfl, Nat.le_of_ble_eq_true rfl⟩ (fun r_17 u_17 H locs hp_17 hG => ?_)
  subst hp_17
  refine lv_iconst (v := 0) hx hb dX1_remove_20 (by decide) ?_
  refine q_zast hM hG 9 rfl hji (by decide) (by first | exact Or.inl rfl | exact Or.inr rfl) (ws1 := (cNet g h N tk dom gr va dr off rt cnt (upd (upd lk (i * 10 + j) 0) (j * 10 + i) 0) dl td K E ds)) rfl dX1_remove_21 (fun H locs hG => ?_)
  refine lv_aload_n hx hb dX1_remove_22 rfl (lv_at hl 0 rfl) ?_
  refine lv_dup hx hb dX1_remove_23 rfl ?_
  refine q_get hM hG (C := RX1) (T := TX1) (n := 4) hinX1 8 rfl rfl 3 (by decide) wRX1_22 rfl (v := .int cnt) rfl dX1_remove_24 ?_
  refine lv_iconst (v := 1) hx hb dX1_remove_27 (by decide) ?_
  refine lv_isub hx hb dX1_remove_28 ?_
  refine q_put hM hG (C := RX1) (T := TX1) (n := 4) hinX1 tyX1 tyX1_ok nmX1 8 rfl rfl 3 (by decide) wRX1_22 rfl rfl rfl (Nat.le_of_ble_eq_true rfl) (ws1 := (cNet g h N tk dom gr va dr off rt (cnt - 1) (upd (upd lk (i * 10 + j) 0) (j * 10 + i) 0) dl td K E ds)) rfl dX1_remove_29 (fun H locs hG => ?_)
  exact hRet ((upd (upd lk (i * 10 + j) 0) (j * 10 + i) 0), (cnt - 1)) _ _ _ _ _ _ (⟨rfl, rfl⟩) hG (Nat.le_of_ble_eq_true rfl) (Nat.le_of_ble_eq_true rfl) dX1_remove_32

set_option maxHeartbeats 4000000 in
set_option maxRecDepth 100000 in
theorem c_X1_errorFrom (l : Launch) (g : EN) (h : Nat → Nat) (N : Nat) (tk : Int32) (dom : Nat → Int32) (gr : Nat → Int32) (va : Nat → Int32) (dr : Nat → Int32) (off : Nat → Int64) (rt : Nat → Int64) (cnt : Int32) (lk : Nat → Int32) (dl : Nat → Int32) (td : Nat → Int32) (K : KT) (E : KT) (ds : Nat → Int32) (q i : Nat) (hqi : q * 10 + i < 100) (hiq : i * 10 + q < 100)  : Ci l yX1_errorFrom wsX1_errorFrom ({ frames := 1, cells := 0, slots := 0, locals := 21 }) g [.ref (h 8), .int (nI q), .int (nI i)] (cNet g h N tk dom gr va dr off rt cnt lk dl td K E ds) (fun (r : Int32) (_ : Unit) => r = lerr dl td q i) (fun (_ : Unit) => (cNet g h N tk dom gr va dr off rt cnt lk dl td K E ds)) := by
  refine Ci.of (cc := cX1_errorFrom) (maxL := 5) (by decide) rfl (Nat.le_of_ble_eq_true rfl) ?_
  intro p e s m args below meth c A Q ls hM hG hRet hl
  have hx := hM.1
  have hb := hM.2.1
  have hown := hM.2.2.2.1
  have hts := hM.2.2.2.2
  have wRX1_15 : Cond.fieldLink RX1 15 "TimeNet$Wires" "delay" "[I" ∈ wsX1_errorFrom := by decide +kernel
  have wRX1_19 : Cond.fieldLink RX1 19 "TimeNet$Wires" "told" "[I" ∈ wsX1_errorFrom := by decide +kernel
  have hinX1 : ∀ w ∈ wsX10, w ∈ wsX1_errorFrom := by decide +kernel
  have hl : lv_has ls 5 [(0, .ref (h 8)), (1, .int (nI q)), (2, .int (nI i))] := hl
  refine lv_aload_n hx hb dX1_errorFrom_0 rfl (lv_at hl 0 rfl) ?_
  refine q_get hM hG (C := RX1) (T := TX1) (n := 4) hinX1 8 rfl rfl 1 (by decide) wRX1_15 rfl (v := .ref (h 10)) rfl dX1_errorFrom_1 ?_
  refine lv_iload_n hx hb dX1_errorFrom_4 rfl (lv_at hl 1 rfl) ?_
  refine lv_iload_n hx hb dX1_errorFrom_5 rfl (lv_at hl 2 rfl) ?_
  refine q_callSi (n := 2) (As := [.int (nI q), .int (nI i)]) (rest := [.ref (h 10)]) hM hl.1 hG (c_X1_place l g h N tk dom gr va dr off rt cnt lk dl td K E ds q i) rfl gX1_errorFrom_X1_place (by decide +kernel) ⟨Nat.le_of_ble_eq_true rfl, Nat.le_of_ble_eq_true rfl⟩ rfl rfl (Nat.le_of_ble_eq_true rfl) dX1_errorFrom_6 (c1 := 0) (s1 := 0) rfl rfl ⟨Nat.le_of_ble_eq_true rfl, Nat.le_of_ble_eq_true rfl⟩ (fun r_6 u_6 H locs hp_6 hG => ?_)
  subst hp_6
  refine q_iald hM hG 10 rfl hqi (by decide) dX1_errorFrom_9 ?_
  refine lv_istore_n (lv' := [(3, .int (dl (q * 10 + i))), (0, .ref (h 8)), (1, .int (nI q)), (2, .int (nI i))]) hx hb dX1_errorFrom_10 rfl hl (by decide) rfl (fun ls hl => ?_)
  refine lv_aload_n hx hb dX1_errorFrom_11 rfl (lv_at hl 1 rfl) ?_
  refine q_get hM hG (C := RX1) (T := TX1) (n := 4) hinX1 8 rfl rfl 1 (by decide) wRX1_15 rfl (v := .ref (h 10)) rfl dX1_errorFrom_12 ?_
  refine lv_iload_n hx hb dX1_errorFrom_15 rfl (lv_at hl 3 rfl) ?_
  refine lv_iload_n hx hb dX1_errorFrom_16 rfl (lv_at hl 2 rfl) ?_
  refine q_callSi (n := 2) (As := [.int (nI i), .int (nI q)]) (rest := [.ref (h 10)]) hM hl.1 hG (c_X1_place l g h N tk dom gr va dr off rt cnt lk dl td K E ds i q) rfl gX1_errorFrom_X1_place (by decide +kernel) ⟨Nat.le_of_ble_eq_true rfl, Nat.le_of_ble_eq_true rfl⟩ rfl rfl (Nat.le_of_ble_eq_true rfl) dX1_errorFrom_17 (c1 := 0) (s1 := 0) rfl rfl ⟨Nat.le_of_ble_eq_true rfl, Nat.le_of_ble_eq_true rfl⟩ (fun r_17 u_17 H locs hp_17 hG => ?_)
  subst hp_17
  refine q_iald hM hG 10 rfl hiq (by decide) dX1_errorFrom_20 ?_
  refine lv_istore (lv' := [(4, .int (dl (i * 10 + q))), (3, .int (dl (q * 10 + i))), (0, .ref (h 8)), (1, .int (nI q)), (2, .int (nI i))]) hx hb dX1_errorFrom_21 hl (by decide) rfl (fun ls hl => ?_)
  refine lv_iload_n hx hb dX1_errorFrom_23 rfl (lv_at hl 1 rfl) ?_
  refine lv_iload hx hb dX1_errorFrom_24 (lv_at hl 0 rfl) ?_
  refine lv_isub hx hb dX1_errorFrom_26 ?_
  refine lv_aload_n hx hb dX1_errorFrom_27 rfl (lv_at hl 2 rfl) ?_
  refine q_get hM hG (C := RX1) (T := TX1) (n := 4) hinX1 8 rfl rfl 2 (by decide) wRX1_19 rfl (v := .ref (h 11)) rfl dX1_errorFrom_28 ?_
  refine lv_iload_n hx hb dX1_errorFrom_31 rfl (lv_at hl 3 rfl) ?_
  refine lv_iload_n hx hb dX1_errorFrom_32 rfl (lv_at hl 4 rfl) ?_
  refine q_callSi (n := 2) (As := [.int (nI q), .int (nI i)]) (rest := [.ref (h 11), .int ((dl (q * 10 + i)) - (dl (i * 10 + q)))]) hM hl.1 hG (c_X1_place l g h N tk dom gr va dr off rt cnt lk dl td K E ds q i) rfl gX1_errorFrom_X1_place (by decide +kernel) ⟨Nat.le_of_ble_eq_true rfl, Nat.le_of_ble_eq_true rfl⟩ rfl rfl (Nat.le_of_ble_eq_true rfl) dX1_errorFrom_33 (c1 := 0) (s1 := 0) rfl rfl ⟨Nat.le_of_ble_eq_true rfl, Nat.le_of_ble_eq_true rfl⟩ (fun r_33 u_33 H locs hp_33 hG => ?_)
  subst hp_33
  refine q_iald hM hG 11 rfl hqi (by decide) dX1_errorFrom_36 ?_
  refine lv_isub hx hb dX1_errorFrom_37 ?_
  refine lv_iconst (v := 2) hx hb dX1_errorFrom_38 (by decide) ?_
  refine lv_idiv hx hb dX1_errorFrom_39 (by decide) ?_
  exact hRet ((((dl (q * 10 + i)) - (dl (i * 10 + q))) - (td (q * 10 + i))) / 2) () _ _ _ _ _ _ rfl hG (Nat.le_of_ble_eq_true rfl) (Nat.le_of_ble_eq_true rfl) dX1_errorFrom_40
