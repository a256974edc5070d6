/-! the class's spread, wholly -/
theorem spl_a {c : Nat} {o lo : Int64} {fst : Int32} (hf : c = 0 ∧ fst = 1 ∨ ¬ c = 0 ∧ fst = 0) (h : ¬ fst = 0) : (c = 0 ∨ o < lo) ∧ o = o ∨ ¬ (c = 0 ∨ o < lo) ∧ o = lo :=
  Or.inl ⟨hf.elim (fun h9 => Or.inl h9.1) (fun h9 => absurd h9.2 h), rfl⟩
theorem spl_b {c : Nat} {o lo : Int64} {fst : Int32} (hf : c = 0 ∧ fst = 1 ∨ ¬ c = 0 ∧ fst = 0) (h : fst = 0) : (c = 0 ∨ o < lo) ∧ (if o < lo then o else lo) = o ∨ ¬ (c = 0 ∨ o < lo) ∧ (if o < lo then o else lo) = lo := by
  have hc : ¬ c = 0 := hf.elim (fun h9 => absurd (h9.2.symm.trans h) (by decide)) And.left
  by_cases e : o < lo
  · exact Or.inl ⟨Or.inr e, if_pos e⟩
  · exact Or.inr ⟨fun h9 => h9.elim hc e, if_neg e⟩
theorem sph_a {c : Nat} {o hi : Int64} {fst : Int32} (hf : c = 0 ∧ fst = 1 ∨ ¬ c = 0 ∧ fst = 0) (h : ¬ fst = 0) : (c = 0 ∨ hi < o) ∧ o = o ∨ ¬ (c = 0 ∨ hi < o) ∧ o = hi :=
  Or.inl ⟨hf.elim (fun h9 => Or.inl h9.1) (fun h9 => absurd h9.2 h), rfl⟩
theorem sph_b {c : Nat} {o hi : Int64} {fst : Int32} (hf : c = 0 ∧ fst = 1 ∨ ¬ c = 0 ∧ fst = 0) (h : fst = 0) : (c = 0 ∨ hi < o) ∧ (if o < hi then hi else o) = o ∨ ¬ (c = 0 ∨ hi < o) ∧ (if o < hi then hi else o) = hi := by
  have hc : ¬ c = 0 := hf.elim (fun h9 => absurd (h9.2.symm.trans h) (by decide)) And.left
  by_cases e : hi < o
  · exact Or.inl ⟨Or.inr e, if_neg (fun h9 => absurd (Int64.lt_trans e h9) Int64.lt_irrefl)⟩
  · refine Or.inr ⟨fun h9 => h9.elim hc e, ?_⟩
    by_cases e2 : o < hi
    · exact if_pos e2
    · rw [if_neg e2]; exact Int64.le_antisymm (Int64.not_lt.mp e) (Int64.not_lt.mp e2)
set_option maxHeartbeats 4000000 in
set_option maxRecDepth 100000 in
theorem c_X2_bestK (l : Launch) (g : EN) (h : Nat → Nat) (N : Nat) (tk : Int32) (dom : Nat → Int32) (gr : Nat → Int32) (va : Nat → Int32) (dr : Nat → Int32) (off : Nat → Int64) (rt : Nat → Int64) (cnt : Int32) (lk : Nat → Int32) (dl : Nat → Int32) (td : Nat → Int32) (K : KT) (E : KT) (ds : Nat → Int32) (x : Int32) (hN : N ≤ 10) (hok : okN N x)  : Ci l yX2_best wsX2_best ({ frames := 7, cells := 0, slots := 0, locals := 103 }) g [.ref (h 0), .int x] (cNet g h N tk dom gr va dr off rt cnt lk dl td K E ds) (fun (r : Int32) (_ : Unit) => ∃ i, i < N ∧ x = nI i ∧ r = K.1 i) (fun (_ : Unit) => (cNet g h N tk dom gr va dr off rt cnt lk dl td K E ds)) := by
  refine Ci.of (cc := cX2_best) (maxL := 2) (by decide) rfl (Nat.le_of_ble_eq_true rfl) ?_
  intro p e s m args below meth c A Q ls hM hG hRet hl
  have hx := hM.1
  have hb := hM.2.1
  have hown := hM.2.2.2.1
  have hts := hM.2.2.2.2
  have wRX2_39 : Cond.fieldLink RX2 39 "TimeNet" "known" "LTimeNet$Knowledge;" ∈ wsX2_best := by decide +kernel
  have hinX0 : ∀ w ∈ wsX00, w ∈ wsX2_best := by decide +kernel
  have hinX2 : ∀ w ∈ wsX20, w ∈ wsX2_best := by decide +kernel
  have hl : lv_has ls 2 [(0, .ref (h 0)), (1, .int x)] := hl
  refine lv_aload_n hx hb dX2_best_0 rfl (lv_at hl 0 rfl) ?_
  refine lv_iload_n hx hb dX2_best_1 rfl (lv_at hl 1 rfl) ?_
  have hp_2 : okN N x := hok
  refine q_callv (n := 1) (As := [.int x]) (rest := []) hM hl.1 hG (c_X2_requireNode l g h N tk dom gr va dr off rt cnt lk dl td K E ds x hN hp_2) rfl gX2_best_X2_requireNode (by decide +kernel) ⟨Nat.le_of_ble_eq_true rfl, Nat.le_of_ble_eq_true rfl⟩ 0 rfl rfl rfl rfl rfl (Nat.le_of_ble_eq_true rfl) dX2_best_2 (c1 := 0) (s1 := 0) rfl rfl ⟨Nat.le_of_ble_eq_true rfl, Nat.le_of_ble_eq_true rfl⟩ (fun u_2 H locs h9 hG => ?_)
  obtain ⟨i, hi, rfl⟩ := hp_2
  have hix : i < 10 := by omega
  refine lv_aload_n hx hb dX2_best_5 rfl (lv_at hl 0 rfl) ?_
  refine q_get hM hG (C := RX2) (T := TX2) (n := 12) hinX2 0 rfl rfl 7 (by decide) wRX2_39 rfl (v := .ref (h 12)) rfl dX2_best_6 ?_
  refine q_getN hM hG (C := RX0) (T := TX0) (n := 4) (host := RX2) hinX0 12 rfl rfl 0 (by decide) (by decide +kernel) rfl (v := .ref (h 13)) rfl dX2_best_9 ?_
  refine lv_iload_n hx hb dX2_best_12 rfl (lv_at hl 1 rfl) ?_
  refine q_iald hM hG 13 rfl hix (by decide) dX2_best_13 ?_
  exact hRet (K.1 i) () _ _ _ _ _ _ (⟨i, hi, rfl, rfl⟩) hG (Nat.le_of_ble_eq_true rfl) (Nat.le_of_ble_eq_true rfl) dX2_best_14

set_option maxHeartbeats 4000000 in
set_option maxRecDepth 100000 in
theorem c_X2_stepsK (l : Launch) (g : EN) (h : Nat → Nat) (N : Nat) (tk : Int32) (dom : Nat → Int32) (gr : Nat → Int32) (va : Nat → Int32) (dr : Nat → Int32) (off : Nat → Int64) (rt : Nat → Int64) (cnt : Int32) (lk : Nat → Int32) (dl : Nat → Int32) (td : Nat → Int32) (K : KT) (E : KT) (ds : Nat → Int32) (x : Int32) (hN : N ≤ 10) (hok : okN N x)  : Ci l yX2_steps wsX2_steps ({ frames := 7, cells := 0, slots := 0, locals := 103 }) g [.ref (h 0), .int x] (cNet g h N tk dom gr va dr off rt cnt lk dl td K E ds) (fun (r : Int32) (_ : Unit) => ∃ i, i < N ∧ x = nI i ∧ r = K.2.2.1 i) (fun (_ : Unit) => (cNet g h N tk dom gr va dr off rt cnt lk dl td K E ds)) := by
  refine Ci.of (cc := cX2_steps) (maxL := 2) (by decide) rfl (Nat.le_of_ble_eq_true rfl) ?_
  intro p e s m args below meth c A Q ls hM hG hRet hl
  have hx := hM.1
  have hb := hM.2.1
  have hown := hM.2.2.2.1
  have hts := hM.2.2.2.2
  have wRX2_39 : Cond.fieldLink RX2 39 "TimeNet" "known" "LTimeNet$Knowledge;" ∈ wsX2_steps := by decide +kernel
  have hinX0 : ∀ w ∈ wsX00, w ∈ wsX2_steps := by decide +kernel
  have hinX2 : ∀ w ∈ wsX20, w ∈ wsX2_steps := by decide +kernel
  have hl : lv_has ls 2 [(0, .ref (h 0)), (1, .int x)] := hl
  refine lv_aload_n hx hb dX2_steps_0 rfl (lv_at hl 0 rfl) ?_
  refine lv_iload_n hx hb dX2_steps_1 rfl (lv_at hl 1 rfl) ?_
  have hp_2 : okN N x := hok
  refine q_callv (n := 1) (As := [.int x]) (rest := []) hM hl.1 hG (c_X2_requireNode l g h N tk dom gr va dr off rt cnt lk dl td K E ds x hN hp_2) rfl gX2_steps_X2_requireNode (by decide +kernel) ⟨Nat.le_of_ble_eq_true rfl, Nat.le_of_ble_eq_true rfl⟩ 0 rfl rfl rfl rfl rfl (Nat.le_of_ble_eq_true rfl) dX2_steps_2 (c1 := 0) (s1 := 0) rfl rfl ⟨Nat.le_of_ble_eq_true rfl, Nat.le_of_ble_eq_true rfl⟩ (fun u_2 H locs h9 hG => ?_)
  obtain ⟨i, hi, rfl⟩ := hp_2
  have hix : i < 10 := by omega
  refine lv_aload_n hx hb dX2_steps_5 rfl (lv_at hl 0 rfl) ?_
  refine q_get hM hG (C := RX2) (T := TX2) (n := 12) hinX2 0 rfl rfl 7 (by decide) wRX2_39 rfl (v := .ref (h 12)) rfl dX2_steps_6 ?_
  refine q_getN hM hG (C := RX0) (T := TX0) (n := 4) (host := RX2) hinX0 12 rfl rfl 2 (by decide) (by decide +kernel) rfl (v := .ref (h 15)) rfl dX2_steps_9 ?_
  refine lv_iload_n hx hb dX2_steps_12 rfl (lv_at hl 1 rfl) ?_
  refine q_iald hM hG 15 rfl hix (by decide) dX2_steps_13 ?_
  exact hRet (K.2.2.1 i) () _ _ _ _ _ _ (⟨i, hi, rfl, rfl⟩) hG (Nat.le_of_ble_eq_true rfl) (Nat.le_of_ble_eq_true rfl) dX2_steps_14

set_option maxHeartbeats 4000000 in
set_option maxRecDepth 100000 in
theorem c_X2_parentK (l : Launch) (g : EN) (h : Nat → Nat) (N : Nat) (tk : Int32) (dom : Nat → Int32) (gr : Nat → Int32) (va : Nat → Int32) (dr : Nat → Int32) (off : Nat → Int64) (rt : Nat → Int64) (cnt : Int32) (lk : Nat → Int32) (dl : Nat → Int32) (td : Nat → Int32) (K : KT) (E : KT) (ds : Nat → Int32) (x : Int32) (hN : N ≤ 10) (hok : okN N x)  : Ci l yX2_parent wsX2_parent ({ frames := 7, cells := 0, slots := 0, locals := 103 }) g [.ref (h 0), .int x] (cNet g h N tk dom gr va dr off rt cnt lk dl td K E ds) (fun (r : Int32) (_ : Unit) => ∃ i, i < N ∧ x = nI i ∧ r = K.2.2.2 i) (fun (_ : Unit) => (cNet g h N tk dom gr va dr off rt cnt lk dl td K E ds)) := by
  refine Ci.of (cc := cX2_parent) (maxL := 2) (by decide) rfl (Nat.le_of_ble_eq_true rfl) ?_
  intro p e s m args below meth c A Q ls hM hG hRet hl
  have hx := hM.1
  have hb := hM.2.1
  have hown := hM.2.2.2.1
  have hts := hM.2.2.2.2
  have wRX2_39 : Cond.fieldLink RX2 39 "TimeNet" "known" "LTimeNet$Knowledge;" ∈ wsX2_parent := by decide +kernel
  have hinX0 : ∀ w ∈ wsX00, w ∈ wsX2_parent := by decide +kernel
  have hinX2 : ∀ w ∈ wsX20, w ∈ wsX2_parent := by decide +kernel
  have hl : lv_has ls 2 [(0, .ref (h 0)), (1, .int x)] := hl
  refine lv_aload_n hx hb dX2_parent_0 rfl (lv_at hl 0 rfl) ?_
  refine lv_iload_n hx hb dX2_parent_1 rfl (lv_at hl 1 rfl) ?_
  have hp_2 : okN N x := hok
  refine q_callv (n := 1) (As := [.int x]) (rest := []) hM hl.1 hG (c_X2_requireNode l g h N tk dom gr va dr off rt cnt lk dl td K E ds x hN hp_2) rfl gX2_parent_X2_requireNode (by decide +kernel) ⟨Nat.le_of_ble_eq_true rfl, Nat.le_of_ble_eq_true rfl⟩ 0 rfl rfl rfl rfl rfl (Nat.le_of_ble_eq_true rfl) dX2_parent_2 (c1 := 0) (s1 := 0) rfl rfl ⟨Nat.le_of_ble_eq_true rfl, Nat.le_of_ble_eq_true rfl⟩ (fun u_2 H locs h9 hG => ?_)
  obtain ⟨i, hi, rfl⟩ := hp_2
  have hix : i < 10 := by omega
  refine lv_aload_n hx hb dX2_parent_5 rfl (lv_at hl 0 rfl) ?_
  refine q_get hM hG (C := RX2) (T := TX2) (n := 12) hinX2 0 rfl rfl 7 (by decide) wRX2_39 rfl (v := .ref (h 12)) rfl dX2_parent_6 ?_
  refine q_getN hM hG (C := RX0) (T := TX0) (n := 4) (host := RX2) hinX0 12 rfl rfl 3 (by decide) (by decide +kernel) rfl (v := .ref (h 16)) rfl dX2_parent_9 ?_
  refine lv_iload_n hx hb dX2_parent_12 rfl (lv_at hl 1 rfl) ?_
  refine q_iald hM hG 16 rfl hix (by decide) dX2_parent_13 ?_
  exact hRet (K.2.2.2 i) () _ _ _ _ _ _ (⟨i, hi, rfl, rfl⟩) hG (Nat.le_of_ble_eq_true rfl) (Nat.le_of_ble_eq_true rfl) dX2_parent_14

set_option maxHeartbeats 4000000 in
set_option maxRecDepth 100000 in
theorem c_X2_offsetK (l : Launch) (g : EN) (h : Nat → Nat) (N : Nat) (tk : Int32) (dom : Nat → Int32) (gr : Nat → Int32) (va : Nat → Int32) (dr : Nat → Int32) (off : Nat → Int64) (rt : Nat → Int64) (cnt : Int32) (lk : Nat → Int32) (dl : Nat → Int32) (td : Nat → Int32) (K : KT) (E : KT) (ds : Nat → Int32) (x : Int32) (hN : N ≤ 10) (hok : okN N x)  : Cl l yX2_offset wsX2_offset ({ frames := 7, cells := 0, slots := 0, locals := 103 }) g [.ref (h 0), .int x] (cNet g h N tk dom gr va dr off rt cnt lk dl td K E ds) (fun (r : Int64) (_ : Unit) => ∃ i, i < N ∧ x = nI i ∧ r = off i) (fun (_ : Unit) => (cNet g h N tk dom gr va dr off rt cnt lk dl td K E ds)) := by
  refine Cl.of (cc := cX2_offset) (maxL := 2) (by decide) rfl (Nat.le_of_ble_eq_true rfl) ?_
  intro p e s m args below meth c A Q ls hM hG hRet hl
  have hx := hM.1
  have hb := hM.2.1
  have hown := hM.2.2.2.1
  have hts := hM.2.2.2.2
  have wRX2_22 : Cond.fieldLink RX2 22 "TimeNet" "offsetOf" "[J" ∈ wsX2_offset := by decide +kernel
  have hinX2 : ∀ w ∈ wsX20, w ∈ wsX2_offset := by decide +kernel
  have hl : lv_has ls 2 [(0, .ref (h 0)), (1, .int x)] := hl
  refine lv_aload_n hx hb dX2_offset_0 rfl (lv_at hl 0 rfl) ?_
  refine lv_iload_n hx hb dX2_offset_1 rfl (lv_at hl 1 rfl) ?_
  have hp_2 : okN N x := hok
  refine q_callv (n := 1) (As := [.int x]) (rest := []) hM hl.1 hG (c_X2_requireNode l g h N tk dom gr va dr off rt cnt lk dl td K E ds x hN hp_2) rfl gX2_offset_X2_requireNode (by decide +kernel) ⟨Nat.le_of_ble_eq_true rfl, Nat.le_of_ble_eq_true rfl⟩ 0 rfl rfl rfl rfl rfl (Nat.le_of_ble_eq_true rfl) dX2_offset_2 (c1 := 0) (s1 := 0) rfl rfl ⟨Nat.le_of_ble_eq_true rfl, Nat.le_of_ble_eq_true rfl⟩ (fun u_2 H locs h9 hG => ?_)
  obtain ⟨i, hi, rfl⟩ := hp_2
  have hix : i < 10 := by omega
  refine lv_aload_n hx hb dX2_offset_5 rfl (lv_at hl 0 rfl) ?_
  refine q_get hM hG (C := RX2) (T := TX2) (n := 12) hinX2 0 rfl rfl 4 (by decide) wRX2_22 rfl (v := .ref (h 5)) rfl dX2_offset_6 ?_
  refine lv_iload_n hx hb dX2_offset_9 rfl (lv_at hl 1 rfl) ?_
  refine q_lald hM hG 5 rfl hix (by decide) dX2_offset_10 ?_
  exact hRet (off i) () _ _ _ _ _ _ (⟨i, hi, rfl, rfl⟩) hG (Nat.le_of_ble_eq_true rfl) (Nat.le_of_ble_eq_true rfl) dX2_offset_11

set_option maxHeartbeats 4000000 in
set_option maxRecDepth 100000 in
theorem c_X2_rateK (l : Launch) (g : EN) (h : Nat → Nat) (N : Nat) (tk : Int32) (dom : Nat → Int32) (gr : Nat → Int32) (va : Nat → Int32) (dr : Nat → Int32) (off : Nat → Int64) (rt : Nat → Int64) (cnt : Int32) (lk : Nat → Int32) (dl : Nat → Int32) (td : Nat → Int32) (K : KT) (E : KT) (ds : Nat → Int32) (x : Int32) (hN : N ≤ 10) (hok : okN N x)  : Cl l yX2_rate wsX2_rate ({ frames := 7, cells := 0, slots := 0, locals := 103 }) g [.ref (h 0), .int x] (cNet g h N tk dom gr va dr off rt cnt lk dl td K E ds) (fun (r : Int64) (_ : Unit) => ∃ i, i < N ∧ x = nI i ∧ r = rt i) (fun (_ : Unit) => (cNet g h N tk dom gr va dr off rt cnt lk dl td K E ds)) := by
  refine Cl.of (cc := cX2_rate) (maxL := 2) (by decide) rfl (Nat.le_of_ble_eq_true rfl) ?_
  intro p e s m args below meth c A Q ls hM hG hRet hl
  have hx := hM.1
  have hb := hM.2.1
  have hown := hM.2.2.2.1
  have hts := hM.2.2.2.2
  have wRX2_26 : Cond.fieldLink RX2 26 "TimeNet" "rateOf" "[J" ∈ wsX2_rate := by decide +kernel
  have hinX2 : ∀ w ∈ wsX20, w ∈ wsX2_rate := by decide +kernel
  have hl : lv_has ls 2 [(0, .ref (h 0)), (1, .int x)] := hl
  refine lv_aload_n hx hb dX2_rate_0 rfl (lv_at hl 0 rfl) ?_
  refine lv_iload_n hx hb dX2_rate_1 rfl (lv_at hl 1 rfl) ?_
  have hp_2 : okN N x := hok
  refine q_callv (n := 1) (As := [.int x]) (rest := []) hM hl.1 hG (c_X2_requireNode l g h N tk dom gr va dr off rt cnt lk dl td K E ds x hN hp_2) rfl gX2_rate_X2_requireNode (by decide +kernel) ⟨Nat.le_of_ble_eq_true rfl, Nat.le_of_ble_eq_true rfl⟩ 0 rfl rfl rfl rfl rfl (Nat.le_of_ble_eq_true rfl) dX2_rate_2 (c1 := 0) (s1 := 0) rfl rfl ⟨Nat.le_of_ble_eq_true rfl, Nat.le_of_ble_eq_true rfl⟩ (fun u_2 H locs h9 hG => ?_)
  obtain ⟨i, hi, rfl⟩ := hp_2
  have hix : i < 10 := by omega
  refine lv_aload_n hx hb dX2_rate_5 rfl (lv_at hl 0 rfl) ?_
  refine q_get hM hG (C := RX2) (T := TX2) (n := 12) hinX2 0 rfl rfl 5 (by decide) wRX2_26 rfl (v := .ref (h 6)) rfl dX2_rate_6 ?_
  refine lv_iload_n hx hb dX2_rate_9 rfl (lv_at hl 1 rfl) ?_
  refine q_lald hM hG 6 rfl hix (by decide) dX2_rate_10 ?_
  exact hRet (rt i) () _ _ _ _ _ _ (⟨i, hi, rfl, rfl⟩) hG (Nat.le_of_ble_eq_true rfl) (Nat.le_of_ble_eq_true rfl) dX2_rate_11

set_option maxHeartbeats 4000000 in
set_option maxRecDepth 100000 in
theorem c_X2_bestByGraphK (l : Launch) (g : EN) (h : Nat → Nat) (N : Nat) (tk : Int32) (dom : Nat → Int32) (gr : Nat → Int32) (va : Nat → Int32) (dr : Nat → Int32) (off : Nat → Int64) (rt : Nat → Int64) (cnt : Int32) (lk : Nat → Int32) (dl : Nat → Int32) (td : Nat → Int32) (K : KT) (E : KT) (ds : Nat → Int32) (x : Int32) (hN : N ≤ 10) (hlk : b01 lk) (hg : rng gr va) (hok : okN N x)  : Ci l yX2_bestByGraph wsX2_bestByGraph ({ frames := 7, cells := 0, slots := 0, locals := 111 }) g [.ref (h 0), .int x] (cNet g h N tk dom gr va dr off rt cnt lk dl td K E ds) (fun (r : Int32) (_ : Nat → Int32) => ∃ i, i < N ∧ x = nI i ∧ ∃ w d, bestBy N dom lk gr va i w d ∧ r = nI w) (fun (u : Nat → Int32) => (cNet g h N tk dom gr va dr off rt cnt lk dl td K E u)) := by
  refine Ci.of (cc := cX2_bestByGraph) (maxL := 2) (by decide) rfl (Nat.le_of_ble_eq_true rfl) ?_
  intro p e s m args below meth c A Q ls hM hG hRet hl
  have hx := hM.1
  have hb := hM.2.1
  have hown := hM.2.2.2.1
  have hts := hM.2.2.2.2
  have hl : lv_has ls 2 [(0, .ref (h 0)), (1, .int x)] := hl
  refine lv_aload_n hx hb dX2_bestByGraph_0 rfl (lv_at hl 0 rfl) ?_
  refine lv_iload_n hx hb dX2_bestByGraph_1 rfl (lv_at hl 1 rfl) ?_
  have hp_2 : okN N x := hok
  refine q_callv (n := 1) (As := [.int x]) (rest := []) hM hl.1 hG (c_X2_requireNode l g h N tk dom gr va dr off rt cnt lk dl td K E ds x hN hp_2) rfl gX2_bestByGraph_X2_requireNode (by decide +kernel) ⟨Nat.le_of_ble_eq_true rfl, Nat.le_of_ble_eq_true rfl⟩ 0 rfl rfl rfl rfl rfl (Nat.le_of_ble_eq_true rfl) dX2_bestByGraph_2 (c1 := 0) (s1 := 0) rfl rfl ⟨Nat.le_of_ble_eq_true rfl, Nat.le_of_ble_eq_true rfl⟩ (fun u_2 H locs h9 hG => ?_)
  obtain ⟨i, hi, rfl⟩ := hp_2
  have hix : i < 10 := by omega
  refine lv_aload_n hx hb dX2_bestByGraph_5 rfl (lv_at hl 0 rfl) ?_
  refine lv_iload_n hx hb dX2_bestByGraph_6 rfl (lv_at hl 1 rfl) ?_
  refine q_callv (n := 1) (As := [.int (nI i)]) (rest := []) hM hl.1 hG (c_X2_measureDistances l g h N tk dom gr va dr off rt cnt lk dl td K E ds i hi hN hlk) rfl gX2_bestByGraph_X2_measureDistances (by decide +kernel) ⟨Nat.le_of_ble_eq_true rfl, Nat.le_of_ble_eq_true rfl⟩ 0 rfl rfl rfl rfl rfl (Nat.le_of_ble_eq_true rfl) dX2_bestByGraph_7 (c1 := 0) (s1 := 0) rfl rfl ⟨Nat.le_of_ble_eq_true rfl, Nat.le_of_ble_eq_true rfl⟩ (fun u_7 H locs hp_7 hG => ?_)
  refine lv_aload_n hx hb dX2_bestByGraph_10 rfl (lv_at hl 0 rfl) ?_
  refine lv_iload_n hx hb dX2_bestByGraph_11 rfl (lv_at hl 1 rfl) ?_
  refine q_calli (n := 1) (As := [.int (nI i)]) (rest := []) hM hl.1 hG (c_X2_bestInReach l g h N tk dom gr va dr off rt cnt lk dl td K E u_7 i hi hN hg (isDist_self hN hi hp_7)) rfl gX2_bestByGraph_X2_bestInReach (by decide +kernel) ⟨Nat.le_of_ble_eq_true rfl, Nat.le_of_ble_eq_true rfl⟩ 0 rfl rfl rfl rfl rfl (Nat.le_of_ble_eq_true rfl) dX2_bestByGraph_12 (c1 := 0) (s1 := 0) rfl rfl ⟨Nat.le_of_ble_eq_true rfl, Nat.le_of_ble_eq_true rfl⟩ (fun r_12 u_12 H locs hp_12 hG => ?_)
  obtain ⟨rfl, hb_12⟩ := hp_12
  exact hRet (nI u_12) u_7 _ _ _ _ _ _ (⟨i, hi, rfl, u_12, u_7 u_12, ⟨u_7, hp_7, hb_12, rfl⟩, rfl⟩) hG (Nat.le_of_ble_eq_true rfl) (Nat.le_of_ble_eq_true rfl) dX2_bestByGraph_15

set_option maxHeartbeats 4000000 in
set_option maxRecDepth 100000 in
theorem c_X2_stepsByGraphK (l : Launch) (g : EN) (h : Nat → Nat) (N : Nat) (tk : Int32) (dom : Nat → Int32) (gr : Nat → Int32) (va : Nat → Int32) (dr : Nat → Int32) (off : Nat → Int64) (rt : Nat → Int64) (cnt : Int32) (lk : Nat → Int32) (dl : Nat → Int32) (td : Nat → Int32) (K : KT) (E : KT) (ds : Nat → Int32) (x : Int32) (hN : N ≤ 10) (hlk : b01 lk) (hg : rng gr va) (hok : okN N x)  : Ci l yX2_stepsByGraph wsX2_stepsByGraph ({ frames := 7, cells := 0, slots := 0, locals := 111 }) g [.ref (h 0), .int x] (cNet g h N tk dom gr va dr off rt cnt lk dl td K E ds) (fun (r : Int32) (_ : Nat → Int32) => ∃ i, i < N ∧ x = nI i ∧ ∃ w d, bestBy N dom lk gr va i w d ∧ r = d) (fun (u : Nat → Int32) => (cNet g h N tk dom gr va dr off rt cnt lk dl td K E u)) := by
  refine Ci.of (cc := cX2_stepsByGraph) (maxL := 2) (by decide) rfl (Nat.le_of_ble_eq_true rfl) ?_
  intro p e s m args below meth c A Q ls hM hG hRet hl
  have hx := hM.1
  have hb := hM.2.1
  have hown := hM.2.2.2.1
  have hts := hM.2.2.2.2
  have wRX2_46 : Cond.fieldLink RX2 46 "TimeNet" "distanceTo" "[I" ∈ wsX2_stepsByGraph := by decide +kernel
  have hinX2 : ∀ w ∈ wsX20, w ∈ wsX2_stepsByGraph := by decide +kernel
  have hl : lv_has ls 2 [(0, .ref (h 0)), (1, .int x)] := hl
  refine lv_aload_n hx hb dX2_stepsByGraph_0 rfl (lv_at hl 0 rfl) ?_
  refine lv_iload_n hx hb dX2_stepsByGraph_1 rfl (lv_at hl 1 rfl) ?_
  have hp_2 : okN N x := hok
  refine q_callv (n := 1) (As := [.int x]) (rest := []) hM hl.1 hG (c_X2_requireNode l g h N tk dom gr va dr off rt cnt lk dl td K E ds x hN hp_2) rfl gX2_stepsByGraph_X2_requireNode (by decide +kernel) ⟨Nat.le_of_ble_eq_true rfl, Nat.le_of_ble_eq_true rfl⟩ 0 rfl rfl rfl rfl rfl (Nat.le_of_ble_eq_true rfl) dX2_stepsByGraph_2 (c1 := 0) (s1 := 0) rfl rfl ⟨Nat.le_of_ble_eq_true rfl, Nat.le_of_ble_eq_true rfl⟩ (fun u_2 H locs h9 hG => ?_)
  obtain ⟨i, hi, rfl⟩ := hp_2
  have hix : i < 10 := by omega
  refine lv_aload_n hx hb dX2_stepsByGraph_5 rfl (lv_at hl 0 rfl) ?_
  refine lv_iload_n hx hb dX2_stepsByGraph_6 rfl (lv_at hl 1 rfl) ?_
  refine q_callv (n := 1) (As := [.int (nI i)]) (rest := []) hM hl.1 hG (c_X2_measureDistances l g h N tk dom gr va dr off rt cnt lk dl td K E ds i hi hN hlk) rfl gX2_stepsByGraph_X2_measureDistances (by decide +kernel) ⟨Nat.le_of_ble_eq_true rfl, Nat.le_of_ble_eq_true rfl⟩ 0 rfl rfl rfl rfl rfl (Nat.le_of_ble_eq_true rfl) dX2_stepsByGraph_7 (c1 := 0) (s1 := 0) rfl rfl ⟨Nat.le_of_ble_eq_true rfl, Nat.le_of_ble_eq_true rfl⟩ (fun u_7 H locs hp_7 hG => ?_)
  refine lv_aload_n hx hb dX2_stepsByGraph_10 rfl (lv_at hl 0 rfl) ?_
  refine q_get hM hG (C := RX2) (T := TX2) (n := 12) hinX2 0 rfl rfl 9 (by decide) wRX2_46 rfl (v := .ref (h 7)) rfl dX2_stepsByGraph_11 ?_
  refine lv_aload_n hx hb dX2_stepsByGraph_14 rfl (lv_at hl 0 rfl) ?_
  refine lv_iload_n hx hb dX2_stepsByGraph_15 rfl (lv_at hl 1 rfl) ?_
  refine q_calli (n := 1) (As := [.int (nI i)]) (rest := [.ref (h 7)]) hM hl.1 hG (c_X2_bestInReach l g h N tk dom gr va dr off rt cnt lk dl td K E u_7 i hi hN hg (isDist_self hN hi hp_7)) rfl gX2_stepsByGraph_X2_bestInReach (by decide +kernel) ⟨Nat.le_of_ble_eq_true rfl, Nat.le_of_ble_eq_true rfl⟩ 0 rfl rfl rfl rfl rfl (Nat.le_of_ble_eq_true rfl) dX2_stepsByGraph_16 (c1 := 0) (s1 := 0) rfl rfl ⟨Nat.le_of_ble_eq_true rfl, Nat.le_of_ble_eq_true rfl⟩ (fun r_16 u_16 H locs hp_16 hG => ?_)
  obtain ⟨rfl, hb_16⟩ := hp_16
  refine q_iald hM hG 7 rfl (by have h9 := hb_16.1; omega) (by decide) dX2_stepsByGraph_19 ?_
  exact hRet (u_7 u_16) u_7 _ _ _ _ _ _ (⟨i, hi, rfl, u_16, u_7 u_16, ⟨u_7, hp_7, hb_16, rfl⟩, rfl⟩) hG (Nat.le_of_ble_eq_true rfl) (Nat.le_of_ble_eq_true rfl) dX2_stepsByGraph_20

set_option maxHeartbeats 4000000 in
set_option maxRecDepth 100000 in
theorem c_X2_portK (l : Launch) (g : EN) (h : Nat → Nat) (N : Nat) (tk : Int32) (dom : Nat → Int32) (gr : Nat → Int32) (va : Nat → Int32) (dr : Nat → Int32) (off : Nat → Int64) (rt : Nat → Int64) (cnt : Int32) (lk : Nat → Int32) (dl : Nat → Int32) (td : Nat → Int32) (K : KT) (E : KT) (ds : Nat → Int32) (x y : Int32) (hN : N ≤ 10) (hlk : b01 lk) (hok : okN N x ∧ okN N y)  : Ci l yX2_port wsX2_port ({ frames := 7, cells := 0, slots := 0, locals := 103 }) g [.ref (h 0), .int x, .int y] (cNet g h N tk dom gr va dr off rt cnt lk dl td K E ds) (fun (r : Int32) (_ : Unit) => ∃ i j, i < N ∧ j < N ∧ x = nI i ∧ y = nI j ∧ r = prt dom lk K.2.2.1 K.2.2.2 i j) (fun (_ : Unit) => (cNet g h N tk dom gr va dr off rt cnt lk dl td K E ds)) := by
  refine Ci.of (cc := cX2_port) (maxL := 3) (by decide) rfl (Nat.le_of_ble_eq_true rfl) ?_
  intro p e s m args below meth c A Q ls hM hG hRet hl
  have hx := hM.1
  have hb := hM.2.1
  have hown := hM.2.2.2.1
  have hts := hM.2.2.2.2
  have wRX2_39 : Cond.fieldLink RX2 39 "TimeNet" "known" "LTimeNet$Knowledge;" ∈ wsX2_port := by decide +kernel
  have hinX0 : ∀ w ∈ wsX00, w ∈ wsX2_port := by decide +kernel
  have hinX2 : ∀ w ∈ wsX20, w ∈ wsX2_port := by decide +kernel
  have hl : lv_has ls 3 [(0, .ref (h 0)), (1, .int x), (2, .int y)] := hl
  refine lv_aload_n hx hb dX2_port_0 rfl (lv_at hl 0 rfl) ?_
  refine lv_iload_n hx hb dX2_port_1 rfl (lv_at hl 1 rfl) ?_
  have hp_2 : okN N x := hok.1
  refine q_callv (n := 1) (As := [.int x]) (rest := []) hM hl.1 hG (c_X2_requireNode l g h N tk dom gr va dr off rt cnt lk dl td K E ds x hN hp_2) rfl gX2_port_X2_requireNode (by decide +kernel) ⟨Nat.le_of_ble_eq_true rfl, Nat.le_of_ble_eq_true rfl⟩ 0 rfl rfl rfl rfl rfl (Nat.le_of_ble_eq_true rfl) dX2_port_2 (c1 := 0) (s1 := 0) rfl rfl ⟨Nat.le_of_ble_eq_true rfl, Nat.le_of_ble_eq_true rfl⟩ (fun u_2 H locs h9 hG => ?_)
  obtain ⟨i, hi, rfl⟩ := hp_2
  have hix : i < 10 := by omega
  refine lv_aload_n hx hb dX2_port_5 rfl (lv_at hl 0 rfl) ?_
  refine lv_iload_n hx hb dX2_port_6 rfl (lv_at hl 2 rfl) ?_
  have hp_7 : okN N y := hok.2
  refine q_callv (n := 1) (As := [.int y]) (rest := []) hM hl.1 hG (c_X2_requireNode l g h N tk dom gr va dr off rt cnt lk dl td K E ds y hN hp_7) rfl gX2_port_X2_requireNode (by decide +kernel) ⟨Nat.le_of_ble_eq_true rfl, Nat.le_of_ble_eq_true rfl⟩ 0 rfl rfl rfl rfl rfl (Nat.le_of_ble_eq_true rfl) dX2_port_7 (c1 := 0) (s1 := 0) rfl rfl ⟨Nat.le_of_ble_eq_true rfl, Nat.le_of_ble_eq_true rfl⟩ (fun u_7 H locs h9 hG => ?_)
  obtain ⟨j, hj, rfl⟩ := hp_7
  have hjx : j < 10 := by omega
  refine lv_aload_n hx hb dX2_port_10 rfl (lv_at hl 0 rfl) ?_
  refine lv_iload_n hx hb dX2_port_11 rfl (lv_at hl 1 rfl) ?_
  refine lv_iload_n hx hb dX2_port_12 rfl (lv_at hl 2 rfl) ?_
  refine q_calli (n := 2) (As := [.int (nI i), .int (nI j)]) (rest := []) hM hl.1 hG (c_X2_areNeighbours l g h N tk dom gr va dr off rt cnt lk dl td K E ds i j hix hjx hlk) rfl gX2_port_X2_areNeighbours (by decide +kernel) ⟨Nat.le_of_ble_eq_true rfl, Nat.le_of_ble_eq_true rfl⟩ 0 rfl rfl rfl rfl rfl (Nat.le_of_ble_eq_true rfl) dX2_port_13 (c1 := 0) (s1 := 0) rfl rfl ⟨Nat.le_of_ble_eq_true rfl, Nat.le_of_ble_eq_true rfl⟩ (fun r_13 u_13 H locs hp_13 hG => ?_)
  rcases hp_13 with ⟨rfl, hp_13⟩ | ⟨rfl, hp_13⟩
  · refine lv_if_ne (tgt := 21) hx hb dX2_port_16 (by decide) (fun _ => ?_) (fun c9 => False.elim (by revert c9; decide))
    refine lv_aload_n hx hb dX2_port_21 rfl (lv_at hl 0 rfl) ?_
    refine q_get hM hG (C := RX2) (T := TX2) (n := 12) hinX2 0 rfl rfl 7 (by decide) wRX2_39 rfl (v := .ref (h 12)) rfl dX2_port_22 ?_
    refine q_getN hM hG (C := RX0) (T := TX0) (n := 4) (host := RX2) hinX0 12 rfl rfl 3 (by decide) (by decide +kernel) rfl (v := .ref (h 16)) rfl dX2_port_25 ?_
    refine lv_iload_n hx hb dX2_port_28 rfl (lv_at hl 1 rfl) ?_
    refine q_iald hM hG 16 rfl hix (by decide) dX2_port_29 ?_
    refine lv_iload_n hx hb dX2_port_30 rfl (lv_at hl 2 rfl) ?_
    refine lv_icmp_ne (tgt := 36) hx hb dX2_port_31 (by decide) (fun c_31 => ?_) (fun c_31 => ?_)
    · refine lv_aload_n hx hb dX2_port_36 rfl (lv_at hl 0 rfl) ?_
      refine q_get hM hG (C := RX2) (T := TX2) (n := 12) hinX2 0 rfl rfl 7 (by decide) wRX2_39 rfl (v := .ref (h 12)) rfl dX2_port_37 ?_
      refine q_getN hM hG (C := RX0) (T := TX0) (n := 4) (host := RX2) hinX0 12 rfl rfl 3 (by decide) (by decide +kernel) rfl (v := .ref (h 16)) rfl dX2_port_40 ?_
      refine lv_iload_n hx hb dX2_port_43 rfl (lv_at hl 2 rfl) ?_
      refine q_iald hM hG 16 rfl hjx (by decide) dX2_port_44 ?_
      refine lv_iload_n hx hb dX2_port_45 rfl (lv_at hl 1 rfl) ?_
      refine lv_icmp_eq (tgt := 58) hx hb dX2_port_46 (by decide) (fun c_46 => ?_) (fun c_46 => ?_)
      · refine lv_iconst (v := 2) hx hb dX2_port_58 (by decide) ?_
        exact hRet 2 () _ _ _ _ _ _ (⟨i, j, hi, hj, rfl, rfl, by unfold prt; rw [if_neg (fun h9 => h9 hp_13), if_neg c_31, if_pos (Or.inl c_46)]⟩) hG (Nat.le_of_ble_eq_true rfl) (Nat.le_of_ble_eq_true rfl) dX2_port_59
      · refine lv_aload_n hx hb dX2_port_49 rfl (lv_at hl 0 rfl) ?_
        refine lv_iload_n hx hb dX2_port_50 rfl (lv_at hl 1 rfl) ?_
        refine lv_iload_n hx hb dX2_port_51 rfl (lv_at hl 2 rfl) ?_
        refine q_calli (n := 2) (As := [.int (nI i), .int (nI j)]) (rest := []) hM hl.1 hG (c_X2_isNearer l g h N tk dom gr va dr off rt cnt lk dl td K E ds i j hix hjx) rfl gX2_port_X2_isNearer (by decide +kernel) ⟨Nat.le_of_ble_eq_true rfl, Nat.le_of_ble_eq_true rfl⟩ 0 rfl rfl rfl rfl rfl (Nat.le_of_ble_eq_true rfl) dX2_port_52 (c1 := 0) (s1 := 0) rfl rfl ⟨Nat.le_of_ble_eq_true rfl, Nat.le_of_ble_eq_true rfl⟩ (fun r_52 u_52 H locs hp_52 hG => ?_)
        rcases hp_52 with ⟨rfl, hp_52⟩ | ⟨rfl, hp_52⟩
        · refine lv_if_eq (tgt := 60) hx hb dX2_port_55 (by decide) (fun c9 => False.elim (by revert c9; decide)) (fun _ => ?_)
          refine lv_iconst (v := 2) hx hb dX2_port_58 (by decide) ?_
          exact hRet 2 () _ _ _ _ _ _ (⟨i, j, hi, hj, rfl, rfl, by unfold prt; rw [if_neg (fun h9 => h9 hp_13), if_neg c_31, if_pos (Or.inr hp_52)]⟩) hG (Nat.le_of_ble_eq_true rfl) (Nat.le_of_ble_eq_true rfl) dX2_port_59
        · refine lv_if_eq (tgt := 60) hx hb dX2_port_55 (by decide) (fun _ => ?_) (fun c9 => False.elim (by revert c9; decide))
          refine lv_iconst (v := 3) hx hb dX2_port_60 (by decide) ?_
          exact hRet 3 () _ _ _ _ _ _ (⟨i, j, hi, hj, rfl, rfl, by unfold prt; rw [if_neg (fun h9 => h9 hp_13), if_neg c_31, if_neg (fun h9 => h9.elim c_46 hp_52)]⟩) hG (Nat.le_of_ble_eq_true rfl) (Nat.le_of_ble_eq_true rfl) dX2_port_61
    · refine lv_iconst (v := 1) hx hb dX2_port_34 (by decide) ?_
      exact hRet 1 () _ _ _ _ _ _ (⟨i, j, hi, hj, rfl, rfl, by unfold prt; rw [if_neg (fun h9 => h9 hp_13), if_pos c_31]⟩) hG (Nat.le_of_ble_eq_true rfl) (Nat.le_of_ble_eq_true rfl) dX2_port_35
  · refine lv_if_ne (tgt := 21) hx hb dX2_port_16 (by decide) (fun c9 => False.elim (by revert c9; decide)) (fun _ => ?_)
    refine lv_iconst (v := 0) hx hb dX2_port_19 (by decide) ?_
    exact hRet 0 () _ _ _ _ _ _ (⟨i, j, hi, hj, rfl, rfl, by unfold prt; rw [if_pos hp_13]⟩) hG (Nat.le_of_ble_eq_true rfl) (Nat.le_of_ble_eq_true rfl) dX2_port_20

set_option maxHeartbeats 4000000 in
set_option maxRecDepth 100000 in
theorem c_X2_spreadK (l : Launch) (g : EN) (h : Nat → Nat) (N : Nat) (tk : Int32) (dom : Nat → Int32) (gr : Nat → Int32) (va : Nat → Int32) (dr : Nat → Int32) (off : Nat → Int64) (rt : Nat → Int64) (cnt : Int32) (lk : Nat → Int32) (dl : Nat → Int32) (td : Nat → Int32) (K : KT) (E : KT) (ds : Nat → Int32) (x : Int32) (hN : N ≤ 10) (hok : inR 0 x 1)  : Cl l yX2_spread wsX2_spread ({ frames := 7, cells := 0, slots := 0, locals := 104 }) g [.ref (h 0), .int x] (cNet g h N tk dom gr va dr off rt cnt lk dl td K E ds) (fun (r : Int64) (_ : Unit) => r = sprd dom off x N) (fun (_ : Unit) => (cNet g h N tk dom gr va dr off rt cnt lk dl td K E ds)) := by
  refine Cl.of (cc := cX2_spread) (maxL := 8) (by decide) rfl (Nat.le_of_ble_eq_true rfl) ?_
  intro p e s m args below meth c A Q ls hM hG hRet hl
  have hx := hM.1
  have hb := hM.2.1
  have hown := hM.2.2.2.1
  have hts := hM.2.2.2.2
  have wRX2_49 : Cond.fieldLink RX2 49 "TimeNet" "nodeCount" "I" ∈ wsX2_spread := by decide +kernel
  have wRX2_9 : Cond.fieldLink RX2 9 "TimeNet" "domainOf" "[I" ∈ wsX2_spread := by decide +kernel
  have wRX2_22 : Cond.fieldLink RX2 22 "TimeNet" "offsetOf" "[J" ∈ wsX2_spread := by decide +kernel
  have hinX2 : ∀ w ∈ wsX20, w ∈ wsX2_spread := by decide +kernel
  have hl : lv_has ls 8 [(0, .ref (h 0)), (1, .int x)] := hl
  refine lv_iload_n hx hb dX2_spread_0 rfl (lv_at hl 1 rfl) ?_
  refine lv_iconst (v := 0) hx hb dX2_spread_1 (by decide) ?_
  refine lv_iconst (v := 1) hx hb dX2_spread_2 (by decide) ?_
  have hp_3 : inR 0 x 1 := hok
  refine q_callSv (n := 3) (As := [.int x, .int 0, .int 1]) (rest := []) hM hl.1 hG (c_X2_requireWithin l g h N tk dom gr va dr off rt cnt lk dl td K E ds x 0 1  hp_3) rfl gX2_spread_X2_requireWithin (by decide +kernel) ⟨Nat.le_of_ble_eq_true rfl, Nat.le_of_ble_eq_true rfl⟩ rfl rfl (Nat.le_of_ble_eq_true rfl) dX2_spread_3 (c1 := 0) (s1 := 0) rfl rfl ⟨Nat.le_of_ble_eq_true rfl, Nat.le_of_ble_eq_true rfl⟩ (fun u_3 H locs h9 hG => ?_)
  refine lv_iconst (v := 1) hx hb dX2_spread_6 (by decide) ?_
  refine lv_istore_n (lv' := [(2, .int 1), (0, .ref (h 0)), (1, .int x)]) hx hb dX2_spread_7 rfl hl (by decide) rfl (fun ls hl => ?_)
  refine lv_lconst (v := 0) hx hb dX2_spread_8 (by decide) ?_
  refine lv_lstore_n (lv' := [(3, .long 0), (2, .int 1), (0, .ref (h 0)), (1, .int x)]) hx hb dX2_spread_9 rfl hl (by decide) rfl (fun ls hl => ?_)
  refine lv_lconst (v := 0) hx hb dX2_spread_10 (by decide) ?_
  refine lv_lstore (lv' := [(5, .long 0), (3, .long 0), (2, .int 1), (0, .ref (h 0)), (1, .int x)]) hx hb dX2_spread_11 hl (by decide) rfl (fun ls hl => ?_)
  refine lv_iconst (v := 0) hx hb dX2_spread_13 (by decide) ?_
  refine lv_istore (lv' := [(7, .int 0), (5, .long 0), (3, .long 0), (2, .int 1), (0, .ref (h 0)), (1, .int x)]) hx hb dX2_spread_14 hl (by decide) rfl (fun ls hl => ?_)
  have loop_16 : ∀ (n9 k : Nat) (hi : Int64) (lo : Int64) (fst : Int32), k ≤ N → N < k + n9 → (∃ c9, spf dom off x k = (c9, lo, hi) ∧ (c9 = 0 ∧ fst = 1 ∨ ¬ c9 = 0 ∧ fst = 0)) → ∀ (H : Heap) (locs : List Loc), cC g (cNet g h N tk dom gr va dr off rt cnt lk dl td K E ds) A s H locs → ∀ (ls : Array Slot), lv_has ls 8 [(7, .int (nI k)), (5, .long hi), (3, .long lo), (2, .int fst), (0, .ref (h 0)), (1, .int x)] → W p l e ({ frames := 7, cells := 0, slots := 0, locals := 104 } : Room) s m args below meth c H locs 0 0 Q (F0 m 16 ls []) := by
    intro n9
    induction n9 with
    | zero => intro k hi lo fst h1 h2; exact absurd h2 (by omega)
    | succ n9 ih_16 =>
      intro k hi lo fst hle_k hlt9 hinv_k H locs hG ls hl
      obtain ⟨c0, hs0, hf0⟩ := hinv_k
      refine lv_iload hx hb dX2_spread_16 (lv_at hl 0 rfl) ?_
      refine lv_aload_n hx hb dX2_spread_18 rfl (lv_at hl 4 rfl) ?_
      refine q_get hM hG (C := RX2) (T := TX2) (n := 12) hinX2 0 rfl rfl 10 (by decide) wRX2_49 rfl (v := .int (nI N)) rfl dX2_spread_19 ?_
      refine lv_icmp_ge (tgt := 98) hx hb dX2_spread_22 (by decide) (fun c_22 => ?_) (fun c_22 => ?_)
      · have hk : k = N := by have h9 := ctr_ge (a := k) (b := N) (by omega) (by omega) c_22; omega
        refine lv_lload hx hb dX2_spread_98 (lv_at hl 1 rfl) ?_
        refine lv_lload_n hx hb dX2_spread_100 rfl (lv_at hl 2 rfl) ?_
        refine lv_lsub hx hb dX2_spread_101 ?_
        exact hRet (hi - lo) () _ _ _ _ _ _ (by rw [hk] at hs0; unfold sprd; rw [hs0]) hG (Nat.le_of_ble_eq_true rfl) (Nat.le_of_ble_eq_true rfl) dX2_spread_102
      · have hk : k < N := ctr_lt (by omega) (by omega) c_22
        have hkx : k < 10 := by omega
        refine lv_aload_n hx hb dX2_spread_25 rfl (lv_at hl 4 rfl) ?_
        refine q_get hM hG (C := RX2) (T := TX2) (n := 12) hinX2 0 rfl rfl 0 (by decide) wRX2_9 rfl (v := .ref (h 1)) rfl dX2_spread_26 ?_
        refine lv_iload hx hb dX2_spread_29 (lv_at hl 0 rfl) ?_
        refine q_iald hM hG 1 rfl hkx (by decide) dX2_spread_31 ?_
        refine lv_iload_n hx hb dX2_spread_32 rfl (lv_at hl 5 rfl) ?_
        refine lv_icmp_ne (tgt := 92) hx hb dX2_spread_33 (by decide) (fun c_33 => ?_) (fun c_33 => ?_)
        · refine lv_iinc (v := (nI (k + 1))) (lv' := [(7, .int (nI (k + 1))), (5, .long hi), (3, .long lo), (2, .int fst), (0, .ref (h 0)), (1, .int x)]) hx hb dX2_spread_92 hl (k := 0) rfl (nI_1 k) (by decide) rfl (fun ls hl => ?_)
          refine lv_goto (tgt := 16) hx hb dX2_spread_95 (by decide) ?_
          exact ih_16 (k + 1) hi lo fst (by omega) (by omega) (⟨c0, (spf_f c_33).trans hs0, hf0⟩) _ _ hG _ (lv_sub hl [0, 1, 2, 3, 4, 5] rfl)
        · refine lv_iload_n hx hb dX2_spread_36 rfl (lv_at hl 3 rfl) ?_
          refine lv_if_eq (tgt := 50) hx hb dX2_spread_37 (by decide) (fun c_37 => ?_) (fun c_37 => ?_)
          · refine lv_lload_n hx hb dX2_spread_50 rfl (lv_at hl 2 rfl) ?_
            refine lv_aload_n hx hb dX2_spread_51 rfl (lv_at hl 4 rfl) ?_
            refine q_get hM hG (C := RX2) (T := TX2) (n := 12) hinX2 0 rfl rfl 4 (by decide) wRX2_22 rfl (v := .ref (h 5)) rfl dX2_spread_52 ?_
            refine lv_iload hx hb dX2_spread_55 (lv_at hl 0 rfl) ?_
            refine q_lald hM hG 5 rfl hkx (by decide) dX2_spread_57 ?_
            refine va_mmin_long hx hb (by rw [hM.2.2.1]; exact hl.1.symm) hown (hts (.methodLink RX2 135 Lib.MathLoose.min_long.x) (by decide +kernel)) (hts (.static Lib.MathLoose.min_long.x) (by decide +kernel)) (hts (.initialized "java/lang/Math") (by decide +kernel)) (hts (.code Lib.MathLoose.min_long.x Lib.MathLoose.min_long.code 4 (some .long)) (by decide +kernel)) (Nat.le_of_ble_eq_true rfl) (Nat.le_of_ble_eq_true rfl) (Nat.le_of_ble_eq_true rfl) (Nat.le_of_ble_eq_true rfl) dX2_spread_58 ?_
            refine lv_lstore_n (lv' := [(3, .long (if (off k) < lo then (off k) else lo)), (7, .int (nI k)), (5, .long hi), (2, .int fst), (0, .ref (h 0)), (1, .int x)]) hx hb dX2_spread_61 rfl hl (by decide) rfl (fun ls hl => ?_)
            refine lv_iload_n hx hb dX2_spread_62 rfl (lv_at hl 3 rfl) ?_
            refine lv_if_eq (tgt := 76) hx hb dX2_spread_63 (by decide) (fun c_63 => ?_) (fun c_63 => ?_)
            · refine lv_lload hx hb dX2_spread_76 (lv_at hl 2 rfl) ?_
              refine lv_aload_n hx hb dX2_spread_78 rfl (lv_at hl 4 rfl) ?_
              refine q_get hM hG (C := RX2) (T := TX2) (n := 12) hinX2 0 rfl rfl 4 (by decide) wRX2_22 rfl (v := .ref (h 5)) rfl dX2_spread_79 ?_
              refine lv_iload hx hb dX2_spread_82 (lv_at hl 1 rfl) ?_
              refine q_lald hM hG 5 rfl hkx (by decide) dX2_spread_84 ?_
              refine va_mmax_long hx hb (by rw [hM.2.2.1]; exact hl.1.symm) hown (hts (.methodLink RX2 141 Lib.MathLoose.max_long.x) (by decide +kernel)) (hts (.static Lib.MathLoose.max_long.x) (by decide +kernel)) (hts (.initialized "java/lang/Math") (by decide +kernel)) (hts (.code Lib.MathLoose.max_long.x Lib.MathLoose.max_long.code 4 (some .long)) (by decide +kernel)) (Nat.le_of_ble_eq_true rfl) (Nat.le_of_ble_eq_true rfl) (Nat.le_of_ble_eq_true rfl) (Nat.le_of_ble_eq_true rfl) dX2_spread_85 ?_
              refine lv_lstore (lv' := [(5, .long (if (off k) < hi then hi else (off k))), (3, .long (if (off k) < lo then (off k) else lo)), (7, .int (nI k)), (2, .int fst), (0, .ref (h 0)), (1, .int x)]) hx hb dX2_spread_88 hl (by decide) rfl (fun ls hl => ?_)
              refine lv_iconst (v := 0) hx hb dX2_spread_90 (by decide) ?_
              refine lv_istore_n (lv' := [(2, .int 0), (5, .long (if (off k) < hi then hi else (off k))), (3, .long (if (off k) < lo then (off k) else lo)), (7, .int (nI k)), (0, .ref (h 0)), (1, .int x)]) hx hb dX2_spread_91 rfl hl (by decide) rfl (fun ls hl => ?_)
              refine lv_iinc (v := (nI (k + 1))) (lv' := [(7, .int (nI (k + 1))), (2, .int 0), (5, .long (if (off k) < hi then hi else (off k))), (3, .long (if (off k) < lo then (off k) else lo)), (0, .ref (h 0)), (1, .int x)]) hx hb dX2_spread_92 hl (k := 3) rfl (nI_1 k) (by decide) rfl (fun ls hl => ?_)
              refine lv_goto (tgt := 16) hx hb dX2_spread_95 (by decide) ?_
              exact ih_16 (k + 1) (if (off k) < hi then hi else (off k)) (if (off k) < lo then (off k) else lo) 0 (by omega) (by omega) (⟨c0 + 1, spf_t hs0 c_33 (spl_b hf0 c_37) (sph_b hf0 c_63), Or.inr ⟨Nat.succ_ne_zero _, rfl⟩⟩) _ _ hG _ (lv_sub hl [0, 2, 3, 1, 4, 5] rfl)
            · refine lv_aload_n hx hb dX2_spread_66 rfl (lv_at hl 4 rfl) ?_
              refine q_get hM hG (C := RX2) (T := TX2) (n := 12) hinX2 0 rfl rfl 4 (by decide) wRX2_22 rfl (v := .ref (h 5)) rfl dX2_spread_67 ?_
              refine lv_iload hx hb dX2_spread_70 (lv_at hl 1 rfl) ?_
              refine q_lald hM hG 5 rfl hkx (by decide) dX2_spread_72 ?_
              refine lv_goto (tgt := 88) hx hb dX2_spread_73 (by decide) ?_
              refine lv_lstore (lv' := [(5, .long (off k)), (3, .long (if (off k) < lo then (off k) else lo)), (7, .int (nI k)), (2, .int fst), (0, .ref (h 0)), (1, .int x)]) hx hb dX2_spread_88 hl (by decide) rfl (fun ls hl => ?_)
              refine lv_iconst (v := 0) hx hb dX2_spread_90 (by decide) ?_
              refine lv_istore_n (lv' := [(2, .int 0), (5, .long (off k)), (3, .long (if (off k) < lo then (off k) else lo)), (7, .int (nI k)), (0, .ref (h 0)), (1, .int x)]) hx hb dX2_spread_91 rfl hl (by decide) rfl (fun ls hl => ?_)
              refine lv_iinc (v := (nI (k + 1))) (lv' := [(7, .int (nI (k + 1))), (2, .int 0), (5, .long (off k)), (3, .long (if (off k) < lo then (off k) else lo)), (0, .ref (h 0)), (1, .int x)]) hx hb dX2_spread_92 hl (k := 3) rfl (nI_1 k) (by decide) rfl (fun ls hl => ?_)
              refine lv_goto (tgt := 16) hx hb dX2_spread_95 (by decide) ?_
              exact ih_16 (k + 1) (off k) (if (off k) < lo then (off k) else lo) 0 (by omega) (by omega) (⟨c0 + 1, spf_t hs0 c_33 (spl_b hf0 c_37) (sph_a hf0 c_63), Or.inr ⟨Nat.succ_ne_zero _, rfl⟩⟩) _ _ hG _ (lv_sub hl [0, 2, 3, 1, 4, 5] rfl)
          · refine lv_aload_n hx hb dX2_spread_40 rfl (lv_at hl 4 rfl) ?_
            refine q_get hM hG (C := RX2) (T := TX2) (n := 12) hinX2 0 rfl rfl 4 (by decide) wRX2_22 rfl (v := .ref (h 5)) rfl dX2_spread_41 ?_
            refine lv_iload hx hb dX2_spread_44 (lv_at hl 0 rfl) ?_
            refine q_lald hM hG 5 rfl hkx (by decide) dX2_spread_46 ?_
            refine lv_goto (tgt := 61) hx hb dX2_spread_47 (by decide) ?_
            refine lv_lstore_n (lv' := [(3, .long (off k)), (7, .int (nI k)), (5, .long hi), (2, .int fst), (0, .ref (h 0)), (1, .int x)]) hx hb dX2_spread_61 rfl hl (by decide) rfl (fun ls hl => ?_)
            refine lv_iload_n hx hb dX2_spread_62 rfl (lv_at hl 3 rfl) ?_
            refine lv_if_eq (tgt := 76) hx hb dX2_spread_63 (by decide) (fun c_63 => ?_) (fun c_63 => ?_)
            · refine lv_lload hx hb dX2_spread_76 (lv_at hl 2 rfl) ?_
              refine lv_aload_n hx hb dX2_spread_78 rfl (lv_at hl 4 rfl) ?_
              refine q_get hM hG (C := RX2) (T := TX2) (n := 12) hinX2 0 rfl rfl 4 (by decide) wRX2_22 rfl (v := .ref (h 5)) rfl dX2_spread_79 ?_
              refine lv_iload hx hb dX2_spread_82 (lv_at hl 1 rfl) ?_
              refine q_lald hM hG 5 rfl hkx (by decide) dX2_spread_84 ?_
              refine va_mmax_long hx hb (by rw [hM.2.2.1]; exact hl.1.symm) hown (hts (.methodLink RX2 141 Lib.MathLoose.max_long.x) (by decide +kernel)) (hts (.static Lib.MathLoose.max_long.x) (by decide +kernel)) (hts (.initialized "java/lang/Math") (by decide +kernel)) (hts (.code Lib.MathLoose.max_long.x Lib.MathLoose.max_long.code 4 (some .long)) (by decide +kernel)) (Nat.le_of_ble_eq_true rfl) (Nat.le_of_ble_eq_true rfl) (Nat.le_of_ble_eq_true rfl) (Nat.le_of_ble_eq_true rfl) dX2_spread_85 ?_
              refine lv_lstore (lv' := [(5, .long (if (off k) < hi then hi else (off k))), (3, .long (off k)), (7, .int (nI k)), (2, .int fst), (0, .ref (h 0)), (1, .int x)]) hx hb dX2_spread_88 hl (by decide) rfl (fun ls hl => ?_)
              refine lv_iconst (v := 0) hx hb dX2_spread_90 (by decide) ?_
              refine lv_istore_n (lv' := [(2, .int 0), (5, .long (if (off k) < hi then hi else (off k))), (3, .long (off k)), (7, .int (nI k)), (0, .ref (h 0)), (1, .int x)]) hx hb dX2_spread_91 rfl hl (by decide) rfl (fun ls hl => ?_)
              refine lv_iinc (v := (nI (k + 1))) (lv' := [(7, .int (nI (k + 1))), (2, .int 0), (5, .long (if (off k) < hi then hi else (off k))), (3, .long (off k)), (0, .ref (h 0)), (1, .int x)]) hx hb dX2_spread_92 hl (k := 3) rfl (nI_1 k) (by decide) rfl (fun ls hl => ?_)
              refine lv_goto (tgt := 16) hx hb dX2_spread_95 (by decide) ?_
              exact ih_16 (k + 1) (if (off k) < hi then hi else (off k)) (off k) 0 (by omega) (by omega) (⟨c0 + 1, spf_t hs0 c_33 (spl_a hf0 c_37) (sph_b hf0 c_63), Or.inr ⟨Nat.succ_ne_zero _, rfl⟩⟩) _ _ hG _ (lv_sub hl [0, 2, 3, 1, 4, 5] rfl)
            · refine lv_aload_n hx hb dX2_spread_66 rfl (lv_at hl 4 rfl) ?_
              refine q_get hM hG (C := RX2) (T := TX2) (n := 12) hinX2 0 rfl rfl 4 (by decide) wRX2_22 rfl (v := .ref (h 5)) rfl dX2_spread_67 ?_
              refine lv_iload hx hb dX2_spread_70 (lv_at hl 1 rfl) ?_
              refine q_lald hM hG 5 rfl hkx (by decide) dX2_spread_72 ?_
              refine lv_goto (tgt := 88) hx hb dX2_spread_73 (by decide) ?_
              refine lv_lstore (lv' := [(5, .long (off k)), (3, .long (off k)), (7, .int (nI k)), (2, .int fst), (0, .ref (h 0)), (1, .int x)]) hx hb dX2_spread_88 hl (by decide) rfl (fun ls hl => ?_)
              refine lv_iconst (v := 0) hx hb dX2_spread_90 (by decide) ?_
              refine lv_istore_n (lv' := [(2, .int 0), (5, .long (off k)), (3, .long (off k)), (7, .int (nI k)), (0, .ref (h 0)), (1, .int x)]) hx hb dX2_spread_91 rfl hl (by decide) rfl (fun ls hl => ?_)
              refine lv_iinc (v := (nI (k + 1))) (lv' := [(7, .int (nI (k + 1))), (2, .int 0), (5, .long (off k)), (3, .long (off k)), (0, .ref (h 0)), (1, .int x)]) hx hb dX2_spread_92 hl (k := 3) rfl (nI_1 k) (by decide) rfl (fun ls hl => ?_)
              refine lv_goto (tgt := 16) hx hb dX2_spread_95 (by decide) ?_
              exact ih_16 (k + 1) (off k) (off k) 0 (by omega) (by omega) (⟨c0 + 1, spf_t hs0 c_33 (spl_a hf0 c_37) (sph_a hf0 c_63), Or.inr ⟨Nat.succ_ne_zero _, rfl⟩⟩) _ _ hG _ (lv_sub hl [0, 2, 3, 1, 4, 5] rfl)
  exact loop_16 (N + 1) 0 0 0 1 (by omega) (by omega) (⟨0, rfl, Or.inl ⟨rfl, rfl⟩⟩) _ _ hG _ (lv_sub hl [0, 1, 2, 3, 4, 5] rfl)
