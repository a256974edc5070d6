section QS
variable {p : Program} {l : Launch} {e : Env} {R : Room} {s : State} {m : MethodId} {args : Array Value} {below : List Frame} {meth : Method} {c : Code} {H : Heap} {locs : List Loc} {cells slots : Nat} {Q : State → Prop}
variable {cc : ByteArray} {nL pc : Nat} {ls : Array Slot} {rest : List Value} {Ts : List Cond} {own : String} {g : EN} {A : Nat → Prop}
/-- a constructor of an ordinary class, over its new object, beside the rest -/
theorem q_callI {S : Type} {y : MethodName} {bytes : ByteArray} {maxL index : Nat} {wY ws' : List Cond} {rm : Room} {b : Nat} {post : S → Prop} {wsB : S → va_W} {wc wr : va_W} (hM : CallFix p m c cc nL s args Ts own) (hl : ls.size = nL) (hG : cC g (wr ++ wc) A s H locs)
    (hC : Cv l y wY rm g [.ref b] wc post wsB) (hw : wY = Cond.code y bytes maxL none :: ws') (hgood : GoodIn Ts wY) (hlk : Cond.methodLink own index y ∈ Ts) (hini : Cond.initialized y.cls ∈ Ts) (hins : Cond.instanceMethod y ∈ Ts) (hyn : y.name = "<init>") (hd : y.cls ≠ "java/lang/invoke/MethodHandle" ∧ y.cls ≠ "java/lang/invoke/VarHandle" ∧ (parseMethodDescriptor y.desc).map (fun d => d.parameters.length) = some 0) (hR : rm.frames + 1 ≤ R.frames ∧ 8 + (maxL + 11) + rm.locals ≤ R.locals)
    (hcat : (rest.map fun v => v.category).sum ≤ 8) (hdg : decode cc pc = .ok (.invokespecial index, 3)) {c1 s1 : Nat} (hc1 : cells + rm.cells = c1) (hs1 : slots + rm.slots = s1) (hroom : c1 ≤ R.cells ∧ s1 ≤ R.slots)
    (kk : ∀ (u : S) (H1 : Heap) (locs1 : List Loc), post u → cC g (wr ++ wsB u) A s H1 locs1 → W p l e R s m args below meth c H1 locs1 c1 s1 Q (F0 m (pc + 3) ls rest)) : W p l e R s m args below meth c H locs cells slots Q (F0 m pc ls (.ref b :: rest)) := by
  subst hc1; subst hs1
  have hGc := hG.right
  have hf := hGc.free
  have hS := hG.2.2.2.1
  refine va_callv (va_runI (As := []) (rest := rest) hM (hC H.size) (cwI 0 hM.2.2.2.2 hgood hw rfl rfl (hM.2.2.2.2 _ hini) (hM.2.2.2.2 _ hlk) (hM.2.2.2.2 _ hins) hyn hd hR) ⟨cG.blind, fun U hU hW => ⟨rfl, hGc.call U hU hW⟩⟩ rfl rfl hl rfl (lv_room hcat) hdg hroom) hS (fun q _ h => hf q h) hf (fun u t H1 locs1 ht hvm hp hB hz1 hk1 hS1 => ?_)
  exact kk u H1 locs1 hp (hG.joinR hB ht hk1 hS1)
end QS
theorem arr_of {s : State} {args : Array Value} {ty : FieldType} (h : (Cond.arrayClass ty).before args s = true) : ∃ cA, ArrOfT s cA ty ∧ s.vm.findClass ("[" ++ ty.toString) = some cA := by
  obtain ⟨cA, kA, comp, h1, h2, h3⟩ := Cond.arrayClass_spec h
  exact ⟨cA, fun n z => ⟨fun k h => (by cases h), kA, h2, comp, h3⟩, h1⟩
theorem str_of {s : State} {args : Array Value} {cls tx : String} {k cur : Nat} (hcur : s.vm.findClass cls = some cur) (h : (Cond.stringRef cls k tx).before args s = true) : ∃ a, vk_R cls k tx a s := by
  obtain ⟨-, -, -, sa, -, -, -, -, -, hev⟩ := Cond.stringRef_spec hcur h
  exact ⟨sa, vk_R.of h hev⟩
theorem nWs_tbl : ∀ w ∈ nWs, w ∈ lw_tbl := by decide +kernel
theorem nWs_on : ∀ w ∈ nWs, w.onTables = true := by
  intro w hw
  simp only [nWs, List.mem_cons, List.not_mem_nil, or_false] at hw
  rcases hw with rfl | rfl | rfl | rfl | rfl | rfl | rfl | rfl | rfl | rfl | rfl | rfl | rfl | rfl | rfl | rfl | rfl | rfl | rfl | rfl | rfl <;> rfl
set_option maxHeartbeats 4000000 in
set_option maxRecDepth 100000 in
/-- the world's start: nothing in it yet -/
theorem start_cC {p : Program} {s : State} {m : MethodId} {meth : Method} {c : Code} {b L : Nat} {xs : Nat → Int32} (C0 : lw_At p s m meth c b L xs) : ∃ g : EN, cC g [] (fun q => s.heap.size ≤ q) s s.heap [] := by
  obtain ⟨hx, hb, hr, hml, hown, hts, hX, hbl, hlocks, hgv⟩ := C0
  have hs := flat_of_before _ hgv
  obtain ⟨c0, i0, k0⟩ := u_known (C := RX0) (T := TX0) (N := 4) (n := 4) hts inX0 (hts (.instantiable RX0 4) (by decide +kernel))
  obtain ⟨c1, i1, k1⟩ := u_known (C := RX1) (T := TX1) (N := 4) (n := 4) hts inX1 (hts (.instantiable RX1 4) (by decide +kernel))
  obtain ⟨c2, i2, k2⟩ := u_known (C := RX2) (T := TX2) (N := 12) (n := 12) hts inX2 (hts (.instantiable RX2 12) (by decide +kernel))
  obtain ⟨c3, i3, k3⟩ := u_known (C := RX3) (T := TX3) (N := 24) (n := 24) hts inX3 (hts (.instantiable RX3 24) (by decide +kernel))
  obtain ⟨aI, a1, a2⟩ := arr_of (hts (.arrayClass .int) (by decide +kernel))
  obtain ⟨aL, a3, a4⟩ := arr_of (hts (.arrayClass .long) (by decide +kernel))
  obtain ⟨aB, a5, a6⟩ := arr_of (hts (.arrayClass .boolean) (by decide +kernel))
  obtain ⟨x2, y2, hc2, -⟩ := Cond.instantiable_spec (hts (.instantiable RX2 12) (by decide +kernel))
  have hno : ∀ a : Nat, a < s.heap.size → ¬ (s.heap.size ≤ a) := fun a h => Nat.not_le.mpr h
  refine ⟨((fun k => if k = 0 then c0 else if k = 1 then c1 else if k = 2 then c2 else c3, fun k => if k = 0 then i0 else if k = 1 then i1 else if k = 2 then i2 else i3), aI, aL, aB), fun k q h => by simp at h, ⟨?_, ?_⟩, ⟨fun i j p q h => by simp at h, fun k q h => by simp at h⟩, va_S.rf, ⟨fun w hw => va_Nw.of (nWs_on w hw) (hts w (nWs_tbl w hw)), ?_, ?_, str_of hc2 (hts (.stringRef RX2 62 "there are 10 nodes") (by decide +kernel)), str_of hc2 (hts (.stringRef RX2 78 "a node is not linked with itself") (by decide +kernel)), str_of hc2 (hts (.stringRef RX2 86 "they are linked") (by decide +kernel)), str_of hc2 (hts (.stringRef RX2 150 "there is no such node") (by decide +kernel)), str_of hc2 (hts (.stringRef RX2 153 "an argument is out of its range") (by decide +kernel)), str_of hc2 (hts (.stringRef RX2 155 "they are not linked") (by decide +kernel)), va_Nc.of (hs (.not (.castable "java/lang/IllegalStateException" "java/lang/IllegalArgumentException")) (by decide +kernel)), va_Nc.of (hs (.not (.castable "java/lang/IllegalArgumentException" "java/lang/IndexOutOfBoundsException")) (by decide +kernel)), va_Nc.of (hs (.not (.castable "java/lang/IllegalStateException" "java/lang/IndexOutOfBoundsException")) (by decide +kernel))⟩, fun q h => h⟩
  · intro k q hq
    match k, hq with
    | 0, hq => cases hq; exact k0
    | 1, hq => cases hq; exact k1
    | 2, hq => cases hq; exact k2
    | 3, hq => cases hq; exact k3
    | k + 4, hq => simp [vwCl] at hq
  · intro k q hq
    match k, hq with
    | 0, hq => cases hq; exact ⟨a1, a2⟩
    | 1, hq => cases hq; exact ⟨a3, a4⟩
    | 2, hq => cases hq; exact ⟨a5, a6⟩
    | k + 3, hq => simp [tY] at hq
  · exact vx_Zqof (hts (.laysStatic Bundle.tN "UNASSIGNED_STACK" Bundle.steD) (by decide +kernel)) (hts (.initialized Bundle.tN) (by decide +kernel)) (hs (.isRef (.static Bundle.tN "UNASSIGNED_STACK" Bundle.steD)) (by decide +kernel)) hno
  · exact vx_Zqof (hts (.laysStatic Bundle.tN "SUPPRESSED_SENTINEL" Bundle.listD) (by decide +kernel)) (hts (.initialized Bundle.tN) (by decide +kernel)) (hs (.isRef (.static Bundle.tN "SUPPRESSED_SENTINEL" Bundle.listD)) (by decide +kernel)) hno
