set_option maxHeartbeats 4000000 in
set_option maxRecDepth 100000 in
theorem c_X1_place (l : Launch) (g : EN) (h : Nat → Nat) (N : Nat) (tk : Int32) (dom : Nat → Int32) (gr : Nat → Int32) (va : Nat → Int32) (dr : Nat → Int32) (off : Nat → Int64) (rt : Nat → Int64) (cnt : Int32) (lk : Nat → Int32) (dl : Nat → Int32) (td : Nat → Int32) (K : KT) (E : KT) (ds : Nat → Int32) (i j : Nat)  : Ci l yX1_place wsX1_place ({ frames := 0, cells := 0, slots := 0, locals := 0 }) g [.int (nI i), .int (nI j)] (cNet g h N tk dom gr va dr off rt cnt lk dl td K E ds) (fun (r : Int32) (_ : Unit) => r = nI (i * 10 + j)) (fun (_ : Unit) => (cNet g h N tk dom gr va dr off rt cnt lk dl td K E ds)) := by
  refine Ci.of (cc := cX1_place) (maxL := 2) (by decide) rfl (Nat.le_of_ble_eq_true rfl) ?_
  intro p e s m args below meth c A Q ls hM hG hRet hl
  have hx := hM.1
  have hb := hM.2.1
  have hown := hM.2.2.2.1
  have hts := hM.2.2.2.2
  have hl : lv_has ls 2 [(0, .int (nI i)), (1, .int (nI j))] := hl
  refine lv_iload_n hx hb dX1_place_0 rfl (lv_at hl 0 rfl) ?_
  refine lv_bipush (v := 10) hx hb dX1_place_1 (by decide) ?_
  refine lv_imul hx hb dX1_place_3 ?_
  refine lv_iload_n hx hb dX1_place_4 rfl (lv_at hl 1 rfl) ?_
  refine lv_iadd hx hb dX1_place_5 ?_
  exact hRet (((nI i) * 10) + (nI j)) () _ _ _ _ _ _ (ix_mul i j) hG (Nat.le_of_ble_eq_true rfl) (Nat.le_of_ble_eq_true rfl) dX1_place_6

set_option maxHeartbeats 4000000 in
set_option maxRecDepth 100000 in
theorem c_X1_areLinked (l : Launch) (g : EN) (h : Nat → Nat) (N : Nat) (tk : Int32) (dom : Nat → Int32) (gr : Nat → Int32) (va : Nat → Int32) (dr : Nat → Int32) (off : Nat → Int64) (rt : Nat → Int64) (cnt : Int32) (lk : Nat → Int32) (dl : Nat → Int32) (td : Nat → Int32) (K : KT) (E : KT) (ds : Nat → Int32) (i j : Nat) (hij : i * 10 + j < 100) (hlk : b01 lk)  : Ci l yX1_areLinked wsX1_areLinked ({ frames := 1, cells := 0, slots := 0, locals := 21 }) g [.ref (h 8), .int (nI i), .int (nI j)] (cNet g h N tk dom gr va dr off rt cnt lk dl td K E ds) (fun (r : Int32) (_ : Unit) => bP r (lk (i * 10 + j) = 1)) (fun (_ : Unit) => (cNet g h N tk dom gr va dr off rt cnt lk dl td K E ds)) := by
  refine Cz.of (cc := cX1_areLinked) (maxL := 3) (by decide) rfl (Nat.le_of_ble_eq_true rfl) (fun r u h => bP.b h) ?_
  intro p e s m args below meth c A Q ls hM hG hRet hl
  have hx := hM.1
  have hb := hM.2.1
  have hown := hM.2.2.2.1
  have hts := hM.2.2.2.2
  have wRX1_9 : Cond.fieldLink RX1 9 "TimeNet$Wires" "laid" "[Z" ∈ wsX1_areLinked := by decide +kernel
  have hinX1 : ∀ w ∈ wsX10, w ∈ wsX1_areLinked := by decide +kernel
  have hl : lv_has ls 3 [(0, .ref (h 8)), (1, .int (nI i)), (2, .int (nI j))] := hl
  refine lv_aload_n hx hb dX1_areLinked_0 rfl (lv_at hl 0 rfl) ?_
  refine q_get hM hG (C := RX1) (T := TX1) (n := 4) hinX1 8 rfl rfl 0 (by decide) wRX1_9 rfl (v := .ref (h 9)) rfl dX1_areLinked_1 ?_
  refine lv_iload_n hx hb dX1_areLinked_4 rfl (lv_at hl 1 rfl) ?_
  refine lv_iload_n hx hb dX1_areLinked_5 rfl (lv_at hl 2 rfl) ?_
  refine q_callSi (n := 2) (As := [.int (nI i), .int (nI j)]) (rest := [.ref (h 9)]) hM hl.1 hG (c_X1_place l g h N tk dom gr va dr off rt cnt lk dl td K E ds i j) rfl gX1_areLinked_X1_place (by decide +kernel) ⟨Nat.le_of_ble_eq_true rfl, Nat.le_of_ble_eq_true rfl⟩ rfl rfl (Nat.le_of_ble_eq_true rfl) dX1_areLinked_6 (c1 := 0) (s1 := 0) rfl rfl ⟨Nat.le_of_ble_eq_true rfl, Nat.le_of_ble_eq_true rfl⟩ (fun r_6 u_6 H locs hp_6 hG => ?_)
  subst hp_6
  refine q_zald hM hG 9 rfl hij (by decide) dX1_areLinked_9 ?_
  exact hRet (lk (i * 10 + j)) () _ _ _ _ _ _ (by rcases hlk (i * 10 + j) with h9 | h9 <;> rw [h9] <;> first | exact bP.t rfl | exact bP.f (by decide)) hG (Nat.le_of_ble_eq_true rfl) (Nat.le_of_ble_eq_true rfl) dX1_areLinked_10
