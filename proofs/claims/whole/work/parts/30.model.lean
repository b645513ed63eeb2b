theorem hdX6_thrown : yX6_thrown.cls = RX6 ∧ yX6_thrown.cls ≠ "java/lang/invoke/MethodHandle" ∧ yX6_thrown.cls ≠ "java/lang/invoke/VarHandle" ∧ (parseMethodDescriptor yX6_thrown.desc).map (fun d => d.parameters.length) = some 0 := ⟨rfl, by decide, by decide, by decide +kernel⟩
theorem iX6_thrown_X6 : ∀ w ∈ wsX60, w ∈ wsX6_thrown := fun _ h => List.mem_cons_of_mem _ (List.mem_append_right _ h)
set_option maxHeartbeats 4000000 in
set_option maxRecDepth 100000 in
theorem met_X6_thrown (l : Launch) (D : va_G) (cI cJ cO : ClassId) (ma : Nat) (za : Nat) (aa : Nat) (va : Nat) (ka : Nat) (ta : Nat) (y : Nat → Int32)  : CI l D (TY cI cJ cO) yX6_thrown wsX6_thrown ({ frames := 0, cells := 0, slots := 0, locals := 0 }) [.ref ma] [oM ma za aa va ka ta y] (y 0) [oM ma za aa va ka ta y] := by
  refine CI.of (plainFor_of_name (by decide)) rfl (Nat.le_of_ble_eq_true rfl) (rfl) (fun p e s m below meth c A ls Q X hA w hl fin => ?_)
  obtain ⟨hx, hb, hml, hown, hts⟩ := id X.1
  have hl : lv_has ls 1 [(0, .ref ma)] := hl
  refine lv_aload_n hx hb dX6_thrown_0 rfl (lv_at hl 0 rfl) ?_
  refine k_get X w 0 rfl rfl 0 (by decide) rfl iX6_thrown_X6 (List.mem_of_getElem? (i := 1) rfl) (v := .int (y 0)) rfl dX6_thrown_1 ?_
  exact fin _ _ _ _ _ w rfl dX6_thrown_4
theorem hdX6_in : yX6_in.cls = RX6 ∧ yX6_in.cls ≠ "java/lang/invoke/MethodHandle" ∧ yX6_in.cls ≠ "java/lang/invoke/VarHandle" ∧ (parseMethodDescriptor yX6_in.desc).map (fun d => d.parameters.length) = some 3 := ⟨rfl, by decide, by decide, by decide +kernel⟩
set_option maxHeartbeats 4000000 in
set_option maxRecDepth 100000 in
theorem met_X6_in (l : Launch) (D : va_G) (cI cJ cO : ClassId) (x : Int32) (lo : Int32) (hi : Int32)  : CI l D (TY cI cJ cO) yX6_in wsX6_in ({ frames := 0, cells := 0, slots := 0, locals := 0 }) [.int x, .int lo, .int hi] [] (bI (inB x lo hi)) [] := by
  refine CI.of (plainFor_of_name (by decide)) rfl (Nat.le_of_ble_eq_true rfl) (bI_n _) (fun p e s m below meth c A ls Q X hA w hl fin => ?_)
  obtain ⟨hx, hb, hml, hown, hts⟩ := id X.1
  have hl : lv_has ls 3 [(0, .int x), (1, .int lo), (2, .int hi)] := hl
  refine lv_iload_n hx hb dX6_in_0 rfl (lv_at hl 0 rfl) ?_
  refine lv_iload_n hx hb dX6_in_1 rfl (lv_at hl 1 rfl) ?_
  refine lv_icmp_lt (tgt := 14) hx hb dX6_in_2 (by decide) (fun c1 => ?_) (fun c1 => ?_)
  · refine lv_iconst (v := 0) hx hb dX6_in_14 (by decide) ?_
    exact fin _ _ _ _ _ w (by simp [inB, bI, c1]) dX6_in_15
  · refine lv_iload_n hx hb dX6_in_5 rfl (lv_at hl 0 rfl) ?_
    refine lv_iload_n hx hb dX6_in_6 rfl (lv_at hl 2 rfl) ?_
    refine lv_icmp_gt (tgt := 14) hx hb dX6_in_7 (by decide) (fun c2 => ?_) (fun c2 => ?_)
    · refine lv_iconst (v := 0) hx hb dX6_in_14 (by decide) ?_
      exact fin _ _ _ _ _ w (by simp [inB, bI, c1, c2]) dX6_in_15
    · refine lv_iconst (v := 1) hx hb dX6_in_10 (by decide) ?_
      refine lv_goto (tgt := 15) hx hb dX6_in_11 (by decide) ?_
      exact fin _ _ _ _ _ w (by simp [inB, bI, c1, c2]) dX6_in_15
theorem hdX6_isPose : yX6_isPose.cls = RX6 ∧ yX6_isPose.cls ≠ "java/lang/invoke/MethodHandle" ∧ yX6_isPose.cls ≠ "java/lang/invoke/VarHandle" ∧ (parseMethodDescriptor yX6_isPose.desc).map (fun d => d.parameters.length) = some 1 := ⟨rfl, by decide, by decide, by decide +kernel⟩
set_option maxHeartbeats 4000000 in
set_option maxRecDepth 100000 in
theorem met_X6_isPose (l : Launch) (D : va_G) (cI cJ cO : ClassId) (x : Int32)  : CI l D (TY cI cJ cO) yX6_isPose wsX6_isPose ({ frames := 1, cells := 0, slots := 0, locals := 22 }) [.int x] [] (bI (inB x 0 5)) [] := by
  refine CI.of (plainFor_of_name (by decide)) rfl (Nat.le_of_ble_eq_true rfl) (bI_n _) (fun p e s m below meth c A ls Q X hA w hl fin => ?_)
  obtain ⟨hx, hb, hml, hown, hts⟩ := id X.1
  have hl : lv_has ls 1 [(0, .int x)] := hl
  refine lv_iload_n hx hb dX6_isPose_0 rfl (lv_at hl 0 rfl) ?_
  refine lv_iconst (v := 0) hx hb dX6_isPose_1 (by decide) ?_
  refine lv_iconst (v := 5) hx hb dX6_isPose_2 (by decide) ?_
  refine k_ciR (k_runS X w (met_X6_in l D cI cJ cO x 0 5  s.heap.size) gX6_isPose_X6_in rfl rfl rfl 3 hdX6_in ⟨Nat.le_of_ble_eq_true rfl, Nat.le_of_ble_eq_true rfl⟩ [] rfl rfl rfl hl.1 rfl (Nat.le_of_ble_eq_true rfl) dX6_isPose_3 ⟨Nat.le_of_ble_eq_true rfl, Nat.le_of_ble_eq_true rfl⟩) w hA [] rfl (fun H locs w => ?_)
  exact fin _ _ _ _ _ w rfl dX6_isPose_6
theorem hdX6_atMost : yX6_atMost.cls = RX6 ∧ yX6_atMost.cls ≠ "java/lang/invoke/MethodHandle" ∧ yX6_atMost.cls ≠ "java/lang/invoke/VarHandle" ∧ (parseMethodDescriptor yX6_atMost.desc).map (fun d => d.parameters.length) = some 2 := ⟨rfl, by decide, by decide, by decide +kernel⟩
set_option maxHeartbeats 4000000 in
set_option maxRecDepth 100000 in
theorem met_X6_atMost (l : Launch) (D : va_G) (cI cJ cO : ClassId) (u : Int32) (v : Int32)  : CI l D (TY cI cJ cO) yX6_atMost wsX6_atMost ({ frames := 0, cells := 0, slots := 0, locals := 0 }) [.int u, .int v] [] (mnv u v) [] := by
  refine CI.of (plainFor_of_name (by decide)) rfl (Nat.le_of_ble_eq_true rfl) (rfl) (fun p e s m below meth c A ls Q X hA w hl fin => ?_)
  obtain ⟨hx, hb, hml, hown, hts⟩ := id X.1
  have hl : lv_has ls 2 [(0, .int u), (1, .int v)] := hl
  refine lv_iload_n hx hb dX6_atMost_0 rfl (lv_at hl 0 rfl) ?_
  refine lv_iload_n hx hb dX6_atMost_1 rfl (lv_at hl 1 rfl) ?_
  refine lv_icmp_le (tgt := 9) hx hb dX6_atMost_2 (by decide) (fun c1 => ?_) (fun c1 => ?_)
  · refine lv_iload_n hx hb dX6_atMost_9 rfl (lv_at hl 0 rfl) ?_
    exact fin _ _ _ _ _ w (by simp only [mnv, c1, if_true, if_false]) dX6_atMost_10
  · refine lv_iload_n hx hb dX6_atMost_5 rfl (lv_at hl 1 rfl) ?_
    refine lv_goto (tgt := 10) hx hb dX6_atMost_6 (by decide) ?_
    exact fin _ _ _ _ _ w (by simp only [mnv, c1, if_true, if_false]) dX6_atMost_10
theorem hdX6_amount : yX6_amount.cls = RX6 ∧ yX6_amount.cls ≠ "java/lang/invoke/MethodHandle" ∧ yX6_amount.cls ≠ "java/lang/invoke/VarHandle" ∧ (parseMethodDescriptor yX6_amount.desc).map (fun d => d.parameters.length) = some 1 := ⟨rfl, by decide, by decide, by decide +kernel⟩
set_option maxHeartbeats 4000000 in
set_option maxRecDepth 100000 in
theorem met_X6_amount (l : Launch) (D : va_G) (cI cJ cO : ClassId) (u : Int32)  : CI l D (TY cI cJ cO) yX6_amount wsX6_amount ({ frames := 0, cells := 0, slots := 0, locals := 0 }) [.int u] [] (am u) [] := by
  refine CI.of (plainFor_of_name (by decide)) rfl (Nat.le_of_ble_eq_true rfl) (rfl) (fun p e s m below meth c A ls Q X hA w hl fin => ?_)
  obtain ⟨hx, hb, hml, hown, hts⟩ := id X.1
  have hl : lv_has ls 1 [(0, .int u)] := hl
  refine lv_iload_n hx hb dX6_amount_0 rfl (lv_at hl 0 rfl) ?_
  refine lv_if_ge (tgt := 9) hx hb dX6_amount_1 (by decide) (fun c1 => ?_) (fun c1 => ?_)
  · refine lv_iload_n hx hb dX6_amount_9 rfl (lv_at hl 0 rfl) ?_
    exact fin _ _ _ _ _ w (by simp only [am, c1, if_true, if_false]) dX6_amount_10
  · refine lv_iload_n hx hb dX6_amount_4 rfl (lv_at hl 0 rfl) ?_
    refine lv_ineg hx hb dX6_amount_5 ?_
    refine lv_goto (tgt := 10) hx hb dX6_amount_6 (by decide) ?_
    exact fin _ _ _ _ _ w (by simp only [am, c1, if_true, if_false]) dX6_amount_10
theorem hdX6_divided : yX6_divided.cls = RX6 ∧ yX6_divided.cls ≠ "java/lang/invoke/MethodHandle" ∧ yX6_divided.cls ≠ "java/lang/invoke/VarHandle" ∧ (parseMethodDescriptor yX6_divided.desc).map (fun d => d.parameters.length) = some 2 := ⟨rfl, by decide, by decide, by decide +kernel⟩
set_option maxHeartbeats 4000000 in
set_option maxRecDepth 100000 in
theorem met_X6_divided (l : Launch) (D : va_G) (cI cJ cO : ClassId) (x : Int32) (u : Int32) (hy : ¬ u = 0) : CI l D (TY cI cJ cO) yX6_divided wsX6_divided ({ frames := 0, cells := 0, slots := 0, locals := 0 }) [.int x, .int u] [] (dvd x u) [] := by
  refine CI.of (plainFor_of_name (by decide)) rfl (Nat.le_of_ble_eq_true rfl) (rfl) (fun p e s m below meth c A ls Q X hA w hl fin => ?_)
  obtain ⟨hx, hb, hml, hown, hts⟩ := id X.1
  have hl : lv_has ls 2 [(0, .int x), (1, .int u)] := hl
  refine lv_iload_n hx hb dX6_divided_0 rfl (lv_at hl 0 rfl) ?_
  refine lv_if_ge (tgt := 15) hx hb dX6_divided_1 (by decide) (fun c1 => ?_) (fun c1 => ?_)
  · refine lv_iload_n hx hb dX6_divided_15 rfl (lv_at hl 0 rfl) ?_
    refine lv_iload_n hx hb dX6_divided_16 rfl (lv_at hl 1 rfl) ?_
    refine lv_idiv hx hb dX6_divided_17 hy ?_
    exact fin _ _ _ _ _ w (by simp only [dvd, c1, if_true, if_false]) dX6_divided_18
  · refine lv_iload_n hx hb dX6_divided_4 rfl (lv_at hl 1 rfl) ?_
    refine lv_iconst (v := 1) hx hb dX6_divided_5 (by decide) ?_
    refine lv_isub hx hb dX6_divided_6 ?_
    refine lv_iload_n hx hb dX6_divided_7 rfl (lv_at hl 0 rfl) ?_
    refine lv_isub hx hb dX6_divided_8 ?_
    refine lv_iload_n hx hb dX6_divided_9 rfl (lv_at hl 1 rfl) ?_
    refine lv_idiv hx hb dX6_divided_10 hy ?_
    refine lv_ineg hx hb dX6_divided_11 ?_
    refine lv_goto (tgt := 18) hx hb dX6_divided_12 (by decide) ?_
    exact fin _ _ _ _ _ w (by simp only [dvd, c1, if_true, if_false]) dX6_divided_18
theorem hdX6_noStop : yX6_noStop.cls = RX6 ∧ yX6_noStop.cls ≠ "java/lang/invoke/MethodHandle" ∧ yX6_noStop.cls ≠ "java/lang/invoke/VarHandle" ∧ (parseMethodDescriptor yX6_noStop.desc).map (fun d => d.parameters.length) = some 0 := ⟨rfl, by decide, by decide, by decide +kernel⟩
theorem iX6_noStop_X6 : ∀ w ∈ wsX60, w ∈ wsX6_noStop := fun _ h => List.mem_cons_of_mem _ (List.mem_append_right _ h)
set_option maxHeartbeats 4000000 in
set_option maxRecDepth 100000 in
theorem met_X6_noStop (l : Launch) (D : va_G) (cI cJ cO : ClassId) (ma : Nat) (za : Nat) (aa : Nat) (va : Nat) (ka : Nat) (ta : Nat) (y : Nat → Int32) (z : Nat → Int32)  : CV l D (TY cI cJ cO) yX6_noStop wsX6_noStop ({ frames := 0, cells := 0, slots := 0, locals := 0 }) [.ref ma] [oM ma za aa va ka ta y, aI cI za 225 0 z] [oM ma za aa va ka ta y, aI cI za 225 0 (fst0 z)] := by
  refine CV.of (plainFor_of_name (by decide)) rfl (Nat.le_of_ble_eq_true rfl) (fun p e s m below meth c A ls Q X hA w hl fin => ?_)
  obtain ⟨hx, hb, hml, hown, hts⟩ := id X.1
  have hl : lv_has ls 1 [(0, .ref ma)] := hl
  refine lv_aload_n hx hb dX6_noStop_0 rfl (lv_at hl 0 rfl) ?_
  refine k_get X w 0 rfl rfl 1 (by decide) rfl iX6_noStop_X6 (List.mem_of_getElem? (i := 1) rfl) (v := .ref za) rfl dX6_noStop_1 ?_
  refine lv_bipush (v := 16) hx hb dX6_noStop_4 (by decide) ?_
  refine lv_iconst (v := (-1)) hx hb dX6_noStop_6 (by decide) ?_
  refine k_iast X w 1 0 rfl rfl 16 (kj := 16) rfl (by decide) (by decide) rfl (ws2 := [oM ma za aa va ka ta y, aI cI za 225 0 (upd z 16 (-1))]) rfl dX6_noStop_7 (fun H locs w => ?_)
  refine lv_aload_n hx hb dX6_noStop_8 rfl (lv_at hl 0 rfl) ?_
  refine k_get X w 0 rfl rfl 1 (by decide) rfl iX6_noStop_X6 (List.mem_of_getElem? (i := 1) rfl) (v := .ref za) rfl dX6_noStop_9 ?_
  refine lv_bipush (v := 17) hx hb dX6_noStop_12 (by decide) ?_
  refine lv_iconst (v := (-1)) hx hb dX6_noStop_14 (by decide) ?_
  refine k_iast X w 1 0 rfl rfl 17 (kj := 17) rfl (by decide) (by decide) rfl (ws2 := [oM ma za aa va ka ta y, aI cI za 225 0 (upd (upd z 16 (-1)) 17 (-1))]) rfl dX6_noStop_15 (fun H locs w => ?_)
  refine lv_aload_n hx hb dX6_noStop_16 rfl (lv_at hl 0 rfl) ?_
  refine k_get X w 0 rfl rfl 1 (by decide) rfl iX6_noStop_X6 (List.mem_of_getElem? (i := 1) rfl) (v := .ref za) rfl dX6_noStop_17 ?_
  refine lv_bipush (v := 18) hx hb dX6_noStop_20 (by decide) ?_
  refine lv_iconst (v := (-1)) hx hb dX6_noStop_22 (by decide) ?_
  refine k_iast X w 1 0 rfl rfl 18 (kj := 18) rfl (by decide) (by decide) rfl (ws2 := [oM ma za aa va ka ta y, aI cI za 225 0 (upd (upd (upd z 16 (-1)) 17 (-1)) 18 (-1))]) rfl dX6_noStop_23 (fun H locs w => ?_)
  have w := w.to (show [oM ma za aa va ka ta y, aI cI za 225 0 (upd (upd (upd z 16 (-1)) 17 (-1)) 18 (-1))] = [oM ma za aa va ka ta y, aI cI za 225 0 (fst0 z)] from rfl)
  exact fin _ _ _ _ w dX6_noStop_24
theorem hdX6_of : yX6_of.cls = RX6 ∧ yX6_of.cls ≠ "java/lang/invoke/MethodHandle" ∧ yX6_of.cls ≠ "java/lang/invoke/VarHandle" ∧ (parseMethodDescriptor yX6_of.desc).map (fun d => d.parameters.length) = some 2 := ⟨rfl, by decide, by decide, by decide +kernel⟩
theorem iX6_of_X6 : ∀ w ∈ wsX60, w ∈ wsX6_of := fun _ h => List.mem_cons_of_mem _ (List.mem_append_right _ h)
set_option maxHeartbeats 4000000 in
set_option maxRecDepth 100000 in
theorem met_X6_of (l : Launch) (D : va_G) (cI cJ cO : ClassId) (ma : Nat) (za : Nat) (aa : Nat) (va : Nat) (ka : Nat) (ta : Nat) (y : Nat → Int32) (z : Nat → Int32) (i : Nat) (wh : Nat) (hi : i < 40) (hw : wh < 5) : CI l D (TY cI cJ cO) yX6_of wsX6_of ({ frames := 0, cells := 0, slots := 0, locals := 0 }) [.ref ma, .int (nI i), .int (nI wh)] [oM ma za aa va ka ta y, aI cI za 225 0 z] (z (25 + (i * 5 + wh))) [oM ma za aa va ka ta y, aI cI za 225 0 z] := by
  refine CI.of (plainFor_of_name (by decide)) rfl (Nat.le_of_ble_eq_true rfl) (rfl) (fun p e s m below meth c A ls Q X hA w hl fin => ?_)
  obtain ⟨hx, hb, hml, hown, hts⟩ := id X.1
  have hl : lv_has ls 3 [(0, .ref ma), (1, .int (nI i)), (2, .int (nI wh))] := hl
  refine lv_aload_n hx hb dX6_of_0 rfl (lv_at hl 0 rfl) ?_
  refine k_get X w 0 rfl rfl 1 (by decide) rfl iX6_of_X6 (List.mem_of_getElem? (i := 1) rfl) (v := .ref za) rfl dX6_of_1 ?_
  refine lv_bipush (v := 25) hx hb dX6_of_4 (by decide) ?_
  refine lv_iconst (v := 5) hx hb dX6_of_6 (by decide) ?_
  refine lv_iload_n hx hb dX6_of_7 rfl (lv_at hl 1 rfl) ?_
  refine lv_imul hx hb dX6_of_8 ?_
  refine lv_iadd hx hb dX6_of_9 ?_
  refine lv_iload_n hx hb dX6_of_10 rfl (lv_at hl 2 rfl) ?_
  refine lv_iadd hx hb dX6_of_11 ?_
  refine k_iald X w 1 0 rfl rfl (25 + (i * 5 + wh)) (kj := 25 + (i * 5 + wh)) (Nat.zero_add _) (by omega) (by decide) (of_ix _ _) (v := z (25 + (i * 5 + wh))) rfl dX6_of_12 ?_
  exact fin _ _ _ _ _ w rfl dX6_of_13
theorem hdX6_putAside : yX6_putAside.cls = RX6 ∧ yX6_putAside.cls ≠ "java/lang/invoke/MethodHandle" ∧ yX6_putAside.cls ≠ "java/lang/invoke/VarHandle" ∧ (parseMethodDescriptor yX6_putAside.desc).map (fun d => d.parameters.length) = some 0 := ⟨rfl, by decide, by decide, by decide +kernel⟩
theorem iX6_putAside_X6 : ∀ w ∈ wsX60, w ∈ wsX6_putAside := fun _ h => List.mem_cons_of_mem _ (List.mem_append_right _ h)
set_option maxHeartbeats 4000000 in
set_option maxRecDepth 100000 in
theorem met_X6_putAside (l : Launch) (D : va_G) (cI cJ cO : ClassId) (ma : Nat) (za : Nat) (aa : Nat) (va : Nat) (ka : Nat) (ta : Nat) (y : Nat → Int32) (z : Nat → Int32) (ad : Nat → Int32)  : CV l D (TY cI cJ cO) yX6_putAside wsX6_putAside ({ frames := 0, cells := 0, slots := 0, locals := 0 }) [.ref ma] [oM ma za aa va ka ta y, aI cI za 225 0 z, aI cI aa 225 0 ad] [oM ma za aa va ka ta y, aI cI za 225 0 z, aI cI aa 225 0 z] := by
  refine CV.of (plainFor_of_name (by decide)) rfl (Nat.le_of_ble_eq_true rfl) (fun p e s m below meth c A ls Q X hA w hl fin => ?_)
  obtain ⟨hx, hb, hml, hown, hts⟩ := id X.1
  have hl : lv_has ls 2 [(0, .ref ma)] := hl
  refine lv_iconst (v := 0) hx hb dX6_putAside_0 (by decide) ?_
  refine lv_istore_n (lv' := [(1, .int 0), (0, .ref ma)]) hx hb dX6_putAside_1 rfl hl (by decide) rfl (fun ls hl => ?_)
  have w := w.to (show [oM ma za aa va ka ta y, aI cI za 225 0 z, aI cI aa 225 0 ad] = [oM ma za aa va ka ta y, aI cI za 225 0 z, aI cI aa 225 0 (cpy ad z (0) 0)] by rw [show aI cI aa 225 0 ad = aI cI aa 225 0 (cpy ad z (0) 0) from congrArg (aI cI aa 225 0) cpy_0.symm])
  have lp2 : ∀ (n : Nat) (i : Nat), i + n = 225 → ∀ (H : Heap) (locs : List Loc) (ls : Array Slot), wd D A s.heap H locs ([oM ma za aa va ka ta y, aI cI za 225 0 z, aI cI aa 225 0 (cpy ad z (0) i)]) → lv_has ls 2 [(1, .int (nI i)), (0, .ref ma)] → W p l e ({ frames := 0, cells := 0, slots := 0, locals := 0 }) s m [.ref ma].toArray below meth c H locs 0 0 Q (F0 m 2 ls []) := by
    intro n
    induction n with
    | zero =>
      intro i hi H locs ls w hl
      refine lv_iload_n hx hb dX6_putAside_2 rfl (lv_at hl 0 rfl) ?_
      refine lv_sipush (v := 225) hx hb dX6_putAside_3 (by decide) ?_
      refine lv_icmp_ge (tgt := 27) hx hb dX6_putAside_6 (by decide) (fun c1 => ?_) (fun c1 => absurd (nI_le (a := 225) (b := i) (by omega) (by omega)) c1)
      have w := w.to (show [oM ma za aa va ka ta y, aI cI za 225 0 z, aI cI aa 225 0 (cpy ad z (0) i)] = [oM ma za aa va ka ta y, aI cI za 225 0 z, aI cI aa 225 0 z] by rw [show aI cI aa 225 0 (cpy ad z (0) i) = aI cI aa 225 0 z from cpy_al (by omega)])
      exact fin _ _ _ _ w dX6_putAside_27
    | succ n ih =>
      intro i hi H locs ls w hl
      refine lv_iload_n hx hb dX6_putAside_2 rfl (lv_at hl 0 rfl) ?_
      refine lv_sipush (v := 225) hx hb dX6_putAside_3 (by decide) ?_
      refine lv_icmp_ge (tgt := 27) hx hb dX6_putAside_6 (by decide) (fun c2 => absurd c2 (nI_ge (a := i) (b := 225) (by omega) (by omega))) (fun c2 => ?_)
      refine lv_aload_n hx hb dX6_putAside_9 rfl (lv_at hl 1 rfl) ?_
      refine k_get X w 0 rfl rfl 2 (by decide) rfl iX6_putAside_X6 (List.mem_of_getElem? (i := 1) rfl) (v := .ref aa) rfl dX6_putAside_10 ?_
      refine lv_iload_n hx hb dX6_putAside_13 rfl (lv_at hl 0 rfl) ?_
      refine lv_aload_n hx hb dX6_putAside_14 rfl (lv_at hl 1 rfl) ?_
      refine k_get X w 0 rfl rfl 1 (by decide) rfl iX6_putAside_X6 (List.mem_of_getElem? (i := 2) rfl) (v := .ref za) rfl dX6_putAside_15 ?_
      refine lv_iload_n hx hb dX6_putAside_18 rfl (lv_at hl 0 rfl) ?_
      refine k_iald X w 1 0 rfl rfl i (kj := i) (Nat.zero_add _) (by omega) (by decide) rfl (v := z i) rfl dX6_putAside_19 ?_
      refine k_iast X w 2 0 rfl rfl i (kj := i) (Nat.zero_add _) (by omega) (by decide) rfl (ws2 := [oM ma za aa va ka ta y, aI cI za 225 0 z, aI cI aa 225 0 (upd (cpy ad z (0) i) i (z i))]) rfl dX6_putAside_20 (fun H locs w => ?_)
      have w := w.to (show [oM ma za aa va ka ta y, aI cI za 225 0 z, aI cI aa 225 0 (upd (cpy ad z (0) i) i (z i))] = [oM ma za aa va ka ta y, aI cI za 225 0 z, aI cI aa 225 0 (cpy ad z (0) (i + 1))] by rw [show aI cI aa 225 0 (upd (cpy ad z (0) i) i (z i)) = aI cI aa 225 0 (cpy ad z (0) (i + 1)) from congrArg (aI cI aa 225 0) cpy_s0])
      refine lv_iinc (v := nI (i + 1)) (lv' := [(1, .int (nI (i + 1))), (0, .ref ma)]) hx hb dX6_putAside_21 hl (k := 0) rfl (nI_1 _) (by decide) rfl (fun ls hl => ?_)
      refine lv_goto (tgt := 2) hx hb dX6_putAside_24 (by decide) ?_
      exact ih (i + 1) (by omega) _ _ _ w (lv_sub hl [0, 1] rfl)
  exact lp2 225 0 (Nat.zero_add _) _ _ _ w (lv_sub hl [0, 1] rfl)
theorem hdX6_putBack : yX6_putBack.cls = RX6 ∧ yX6_putBack.cls ≠ "java/lang/invoke/MethodHandle" ∧ yX6_putBack.cls ≠ "java/lang/invoke/VarHandle" ∧ (parseMethodDescriptor yX6_putBack.desc).map (fun d => d.parameters.length) = some 0 := ⟨rfl, by decide, by decide, by decide +kernel⟩
theorem iX6_putBack_X6 : ∀ w ∈ wsX60, w ∈ wsX6_putBack := fun _ h => List.mem_cons_of_mem _ (List.mem_append_right _ h)
set_option maxHeartbeats 4000000 in
set_option maxRecDepth 100000 in
theorem met_X6_putBack (l : Launch) (D : va_G) (cI cJ cO : ClassId) (ma : Nat) (za : Nat) (aa : Nat) (va : Nat) (ka : Nat) (ta : Nat) (y : Nat → Int32) (z : Nat → Int32) (ad : Nat → Int32)  : CV l D (TY cI cJ cO) yX6_putBack wsX6_putBack ({ frames := 0, cells := 0, slots := 0, locals := 0 }) [.ref ma] [oM ma za aa va ka ta y, aI cI za 225 0 z, aI cI aa 225 0 ad] [oM ma za aa va ka ta y, aI cI za 225 0 ad, aI cI aa 225 0 ad] := by
  refine CV.of (plainFor_of_name (by decide)) rfl (Nat.le_of_ble_eq_true rfl) (fun p e s m below meth c A ls Q X hA w hl fin => ?_)
  obtain ⟨hx, hb, hml, hown, hts⟩ := id X.1
  have hl : lv_has ls 2 [(0, .ref ma)] := hl
  refine lv_iconst (v := 0) hx hb dX6_putBack_0 (by decide) ?_
  refine lv_istore_n (lv' := [(1, .int 0), (0, .ref ma)]) hx hb dX6_putBack_1 rfl hl (by decide) rfl (fun ls hl => ?_)
  have w := w.to (show [oM ma za aa va ka ta y, aI cI za 225 0 z, aI cI aa 225 0 ad] = [oM ma za aa va ka ta y, aI cI za 225 0 (cpy z ad (0) 0), aI cI aa 225 0 ad] by rw [show aI cI za 225 0 z = aI cI za 225 0 (cpy z ad (0) 0) from congrArg (aI cI za 225 0) cpy_0.symm])
  have lp2 : ∀ (n : Nat) (i : Nat), i + n = 225 → ∀ (H : Heap) (locs : List Loc) (ls : Array Slot), wd D A s.heap H locs ([oM ma za aa va ka ta y, aI cI za 225 0 (cpy z ad (0) i), aI cI aa 225 0 ad]) → lv_has ls 2 [(1, .int (nI i)), (0, .ref ma)] → W p l e ({ frames := 0, cells := 0, slots := 0, locals := 0 }) s m [.ref ma].toArray below meth c H locs 0 0 Q (F0 m 2 ls []) := by
    intro n
    induction n with
    | zero =>
      intro i hi H locs ls w hl
      refine lv_iload_n hx hb dX6_putBack_2 rfl (lv_at hl 0 rfl) ?_
      refine lv_sipush (v := 225) hx hb dX6_putBack_3 (by decide) ?_
      refine lv_icmp_ge (tgt := 27) hx hb dX6_putBack_6 (by decide) (fun c1 => ?_) (fun c1 => absurd (nI_le (a := 225) (b := i) (by omega) (by omega)) c1)
      have w := w.to (show [oM ma za aa va ka ta y, aI cI za 225 0 (cpy z ad (0) i), aI cI aa 225 0 ad] = [oM ma za aa va ka ta y, aI cI za 225 0 ad, aI cI aa 225 0 ad] by rw [show aI cI za 225 0 (cpy z ad (0) i) = aI cI za 225 0 ad from cpy_al (by omega)])
      exact fin _ _ _ _ w dX6_putBack_27
    | succ n ih =>
      intro i hi H locs ls w hl
      refine lv_iload_n hx hb dX6_putBack_2 rfl (lv_at hl 0 rfl) ?_
      refine lv_sipush (v := 225) hx hb dX6_putBack_3 (by decide) ?_
      refine lv_icmp_ge (tgt := 27) hx hb dX6_putBack_6 (by decide) (fun c2 => absurd c2 (nI_ge (a := i) (b := 225) (by omega) (by omega))) (fun c2 => ?_)
      refine lv_aload_n hx hb dX6_putBack_9 rfl (lv_at hl 1 rfl) ?_
      refine k_get X w 0 rfl rfl 1 (by decide) rfl iX6_putBack_X6 (List.mem_of_getElem? (i := 1) rfl) (v := .ref za) rfl dX6_putBack_10 ?_
      refine lv_iload_n hx hb dX6_putBack_13 rfl (lv_at hl 0 rfl) ?_
      refine lv_aload_n hx hb dX6_putBack_14 rfl (lv_at hl 1 rfl) ?_
      refine k_get X w 0 rfl rfl 2 (by decide) rfl iX6_putBack_X6 (List.mem_of_getElem? (i := 2) rfl) (v := .ref aa) rfl dX6_putBack_15 ?_
      refine lv_iload_n hx hb dX6_putBack_18 rfl (lv_at hl 0 rfl) ?_
      refine k_iald X w 2 0 rfl rfl i (kj := i) (Nat.zero_add _) (by omega) (by decide) rfl (v := ad i) rfl dX6_putBack_19 ?_
      refine k_iast X w 1 0 rfl rfl i (kj := i) (Nat.zero_add _) (by omega) (by decide) rfl (ws2 := [oM ma za aa va ka ta y, aI cI za 225 0 (upd (cpy z ad (0) i) i (ad i)), aI cI aa 225 0 ad]) rfl dX6_putBack_20 (fun H locs w => ?_)
      have w := w.to (show [oM ma za aa va ka ta y, aI cI za 225 0 (upd (cpy z ad (0) i) i (ad i)), aI cI aa 225 0 ad] = [oM ma za aa va ka ta y, aI cI za 225 0 (cpy z ad (0) (i + 1)), aI cI aa 225 0 ad] by rw [show aI cI za 225 0 (upd (cpy z ad (0) i) i (ad i)) = aI cI za 225 0 (cpy z ad (0) (i + 1)) from congrArg (aI cI za 225 0) cpy_s0])
      refine lv_iinc (v := nI (i + 1)) (lv' := [(1, .int (nI (i + 1))), (0, .ref ma)]) hx hb dX6_putBack_21 hl (k := 0) rfl (nI_1 _) (by decide) rfl (fun ls hl => ?_)
      refine lv_goto (tgt := 2) hx hb dX6_putBack_24 (by decide) ?_
      exact ih (i + 1) (by omega) _ _ _ w (lv_sub hl [0, 1] rfl)
  exact lp2 225 0 (Nat.zero_add _) _ _ _ w (lv_sub hl [0, 1] rfl)
theorem hdX6_swing : yX6_swing.cls = RX6 ∧ yX6_swing.cls ≠ "java/lang/invoke/MethodHandle" ∧ yX6_swing.cls ≠ "java/lang/invoke/VarHandle" ∧ (parseMethodDescriptor yX6_swing.desc).map (fun d => d.parameters.length) = some 1 := ⟨rfl, by decide, by decide, by decide +kernel⟩
theorem iX6_swing_X6 : ∀ w ∈ wsX60, w ∈ wsX6_swing := fun _ h => List.mem_cons_of_mem _ (List.mem_append_right _ h)
set_option maxHeartbeats 4000000 in
set_option maxRecDepth 100000 in
theorem met_X6_swing (l : Launch) (D : va_G) (cI cJ cO : ClassId) (ma : Nat) (za : Nat) (aa : Nat) (va : Nat) (ka : Nat) (ta : Nat) (y : Nat → Int32) (z : Nat → Int32) (x : Int32)  : CI l D (TY cI cJ cO) yX6_swing wsX6_swing ({ frames := 0, cells := 0, slots := 0, locals := 0 }) [.ref ma, .int x] [oM ma za aa va ka ta y, aI cI za 225 0 z] (swing z x) [oM ma za aa va ka ta y, aI cI za 225 0 z] := by
  refine CI.of (plainFor_of_name (by decide)) rfl (Nat.le_of_ble_eq_true rfl) (rfl) (fun p e s m below meth c A ls Q X hA w hl fin => ?_)
  obtain ⟨hx, hb, hml, hown, hts⟩ := id X.1
  have hl : lv_has ls 3 [(0, .ref ma), (1, .int x)] := hl
  refine lv_sipush (v := 320) hx hb dX6_swing_0 (by decide) ?_
  refine lv_iconst (v := 3) hx hb dX6_swing_3 (by decide) ?_
  refine lv_bipush (v := 48) hx hb dX6_swing_4 (by decide) ?_
  refine lv_aload_n hx hb dX6_swing_6 rfl (lv_at hl 0 rfl) ?_
  refine k_get X w 0 rfl rfl 1 (by decide) rfl iX6_swing_X6 (List.mem_of_getElem? (i := 1) rfl) (v := .ref za) rfl dX6_swing_7 ?_
  refine lv_iconst (v := 1) hx hb dX6_swing_10 (by decide) ?_
  refine k_iald X w 1 0 rfl rfl 1 (kj := 1) rfl (by decide) (by decide) rfl (v := z 1) rfl dX6_swing_11 ?_
  refine lv_isub hx hb dX6_swing_12 ?_
  refine lv_imul hx hb dX6_swing_13 ?_
  refine lv_isub hx hb dX6_swing_14 ?_
  refine lv_aload_n hx hb dX6_swing_15 rfl (lv_at hl 0 rfl) ?_
  refine k_get X w 0 rfl rfl 1 (by decide) rfl iX6_swing_X6 (List.mem_of_getElem? (i := 1) rfl) (v := .ref za) rfl dX6_swing_16 ?_
  refine lv_iconst (v := 5) hx hb dX6_swing_19 (by decide) ?_
  refine k_iald X w 1 0 rfl rfl 5 (kj := 5) rfl (by decide) (by decide) rfl (v := z 5) rfl dX6_swing_20 ?_
  refine lv_isub hx hb dX6_swing_21 ?_
  refine lv_iload_n hx hb dX6_swing_22 rfl (lv_at hl 1 rfl) ?_
  refine lv_iconst (v := 1) hx hb dX6_swing_23 (by decide) ?_
  refine lv_icmp_le (tgt := 32) hx hb dX6_swing_24 (by decide) (fun c1 => ?_) (fun c1 => ?_)
  · refine lv_iconst (v := 0) hx hb dX6_swing_32 (by decide) ?_
    refine lv_isub hx hb dX6_swing_33 ?_
    refine lv_istore_n (lv' := [(2, .int (((320 - (3 * (48 - (z 1)))) - (z 5)) - 0)), (0, .ref ma), (1, .int x)]) hx hb dX6_swing_34 rfl hl (by decide) rfl (fun ls hl => ?_)
    refine lv_iload_n hx hb dX6_swing_35 rfl (lv_at hl 0 rfl) ?_
    refine lv_if_ge (tgt := 43) hx hb dX6_swing_36 (by decide) (fun c2 => ?_) (fun c2 => ?_)
    · refine lv_iload_n hx hb dX6_swing_43 rfl (lv_at hl 0 rfl) ?_
      exact fin _ _ _ _ _ w (by simp only [swing, sw0, c1, c2, if_true, if_false]) dX6_swing_44
    · refine lv_iconst (v := 0) hx hb dX6_swing_39 (by decide) ?_
      refine lv_goto (tgt := 44) hx hb dX6_swing_40 (by decide) ?_
      exact fin _ _ _ _ _ w (by simp only [swing, sw0, c1, c2, if_true, if_false]) dX6_swing_44
  · refine lv_bipush (v := 20) hx hb dX6_swing_27 (by decide) ?_
    refine lv_goto (tgt := 33) hx hb dX6_swing_29 (by decide) ?_
    refine lv_isub hx hb dX6_swing_33 ?_
    refine lv_istore_n (lv' := [(2, .int (((320 - (3 * (48 - (z 1)))) - (z 5)) - 20)), (0, .ref ma), (1, .int x)]) hx hb dX6_swing_34 rfl hl (by decide) rfl (fun ls hl => ?_)
    refine lv_iload_n hx hb dX6_swing_35 rfl (lv_at hl 0 rfl) ?_
    refine lv_if_ge (tgt := 43) hx hb dX6_swing_36 (by decide) (fun c3 => ?_) (fun c3 => ?_)
    · refine lv_iload_n hx hb dX6_swing_43 rfl (lv_at hl 0 rfl) ?_
      exact fin _ _ _ _ _ w (by simp only [swing, sw0, c1, c3, if_true, if_false]) dX6_swing_44
    · refine lv_iconst (v := 0) hx hb dX6_swing_39 (by decide) ?_
      refine lv_goto (tgt := 44) hx hb dX6_swing_40 (by decide) ?_
      exact fin _ _ _ _ _ w (by simp only [swing, sw0, c1, c3, if_true, if_false]) dX6_swing_44
theorem hdX6_goes : yX6_goes.cls = RX6 ∧ yX6_goes.cls ≠ "java/lang/invoke/MethodHandle" ∧ yX6_goes.cls ≠ "java/lang/invoke/VarHandle" ∧ (parseMethodDescriptor yX6_goes.desc).map (fun d => d.parameters.length) = some 1 := ⟨rfl, by decide, by decide, by decide +kernel⟩
theorem iX6_goes_X6 : ∀ w ∈ wsX60, w ∈ wsX6_goes := fun _ h => List.mem_cons_of_mem _ (List.mem_append_right _ h)
set_option maxHeartbeats 4000000 in
set_option maxRecDepth 100000 in
theorem met_X6_goes (l : Launch) (D : va_G) (cI cJ cO : ClassId) (ma : Nat) (za : Nat) (aa : Nat) (va : Nat) (ka : Nat) (ta : Nat) (y : Nat → Int32) (z : Nat → Int32) (x : Int32)  : CI l D (TY cI cJ cO) yX6_goes wsX6_goes ({ frames := 1, cells := 0, slots := 0, locals := 22 }) [.ref ma, .int x] [oM ma za aa va ka ta y, aI cI za 225 0 z] (bI (goes z x)) [oM ma za aa va ka ta y, aI cI za 225 0 z] := by
  refine CI.of (plainFor_of_name (by decide)) rfl (Nat.le_of_ble_eq_true rfl) (bI_n _) (fun p e s m below meth c A ls Q X hA w hl fin => ?_)
  obtain ⟨hx, hb, hml, hown, hts⟩ := id X.1
  have hl : lv_has ls 2 [(0, .ref ma), (1, .int x)] := hl
  refine lv_aload_n hx hb dX6_goes_0 rfl (lv_at hl 0 rfl) ?_
  refine k_get X w 0 rfl rfl 1 (by decide) rfl iX6_goes_X6 (List.mem_of_getElem? (i := 1) rfl) (v := .ref za) rfl dX6_goes_1 ?_
  refine lv_iconst (v := 1) hx hb dX6_goes_4 (by decide) ?_
  refine k_iald X w 1 0 rfl rfl 1 (kj := 1) rfl (by decide) (by decide) rfl (v := z 1) rfl dX6_goes_5 ?_
  refine lv_if_le (tgt := 23) hx hb dX6_goes_6 (by decide) (fun c1 => ?_) (fun c1 => ?_)
  · refine lv_iconst (v := 0) hx hb dX6_goes_23 (by decide) ?_
    exact fin _ _ _ _ _ w (by simp [goes, bI, c1]) dX6_goes_24
  · refine lv_aload_n hx hb dX6_goes_9 rfl (lv_at hl 0 rfl) ?_
    refine lv_iload_n hx hb dX6_goes_10 rfl (lv_at hl 1 rfl) ?_
    refine k_ciR (k_runV X w (met_X6_swing l D cI cJ cO ma za aa va ka ta y z x  s.heap.size) gX6_goes_X6_swing rfl rfl rfl 1 hdX6_swing ⟨Nat.le_of_ble_eq_true rfl, Nat.le_of_ble_eq_true rfl⟩ [0, 1] rfl rfl 0 6 rfl rfl rfl rfl hl.1 rfl (Nat.le_of_ble_eq_true rfl) dX6_goes_11 ⟨Nat.le_of_ble_eq_true rfl, Nat.le_of_ble_eq_true rfl⟩) w hA [0, 1] rfl (fun H locs w => ?_)
    refine lv_bipush (v := 120) hx hb dX6_goes_14 (by decide) ?_
    refine lv_icmp_lt (tgt := 23) hx hb dX6_goes_16 (by decide) (fun c2 => ?_) (fun c2 => ?_)
    · refine lv_iconst (v := 0) hx hb dX6_goes_23 (by decide) ?_
      exact fin _ _ _ _ _ w (by simp [goes, bI, c1, c2]) dX6_goes_24
    · refine lv_iconst (v := 1) hx hb dX6_goes_19 (by decide) ?_
      refine lv_goto (tgt := 24) hx hb dX6_goes_20 (by decide) ?_
      exact fin _ _ _ _ _ w (by simp [goes, bI, c1, c2]) dX6_goes_24
theorem hdX6_rate : yX6_rate.cls = RX6 ∧ yX6_rate.cls ≠ "java/lang/invoke/MethodHandle" ∧ yX6_rate.cls ≠ "java/lang/invoke/VarHandle" ∧ (parseMethodDescriptor yX6_rate.desc).map (fun d => d.parameters.length) = some 1 := ⟨rfl, by decide, by decide, by decide +kernel⟩
theorem iX6_rate_X6 : ∀ w ∈ wsX60, w ∈ wsX6_rate := fun _ h => List.mem_cons_of_mem _ (List.mem_append_right _ h)
set_option maxHeartbeats 4000000 in
set_option maxRecDepth 100000 in
theorem met_X6_rate (l : Launch) (D : va_G) (cI cJ cO : ClassId) (ma : Nat) (za : Nat) (aa : Nat) (va : Nat) (ka : Nat) (ta : Nat) (y : Nat → Int32) (z : Nat → Int32) (k : Nat) (hob : okb z) (hk : k < 6) : CI l D (TY cI cJ cO) yX6_rate wsX6_rate ({ frames := 1, cells := 0, slots := 0, locals := 22 }) [.ref ma, .int (nI k)] [oM ma za aa va ka ta y, aI cI za 225 0 z] (rate z k) [oM ma za aa va ka ta y, aI cI za 225 0 z] := by
  refine CI.of (plainFor_of_name (by decide)) rfl (Nat.le_of_ble_eq_true rfl) (rfl) (fun p e s m below meth c A ls Q X hA w hl fin => ?_)
  obtain ⟨hx, hb, hml, hown, hts⟩ := id X.1
  have hl : lv_has ls 3 [(0, .ref ma), (1, .int (nI k))] := hl
  refine lv_aload_n hx hb dX6_rate_0 rfl (lv_at hl 0 rfl) ?_
  refine k_get X w 0 rfl rfl 1 (by decide) rfl iX6_rate_X6 (List.mem_of_getElem? (i := 1) rfl) (v := .ref za) rfl dX6_rate_1 ?_
  refine lv_iconst (v := 2) hx hb dX6_rate_4 (by decide) ?_
  refine k_iald X w 1 0 rfl rfl 2 (kj := 2) rfl (by decide) (by decide) rfl (v := z 2) rfl dX6_rate_5 ?_
  refine lv_aload_n hx hb dX6_rate_6 rfl (lv_at hl 0 rfl) ?_
  refine k_get X w 0 rfl rfl 1 (by decide) rfl iX6_rate_X6 (List.mem_of_getElem? (i := 1) rfl) (v := .ref za) rfl dX6_rate_7 ?_
  refine lv_bipush (v := 19) hx hb dX6_rate_10 (by decide) ?_
  refine lv_iload_n hx hb dX6_rate_12 rfl (lv_at hl 1 rfl) ?_
  refine lv_iadd hx hb dX6_rate_13 ?_
  refine k_iald X w 1 0 rfl rfl (19 + k) (kj := 19 + k) (Nat.zero_add _) (by omega) (by decide) (nI_addp rfl rfl) (v := z (19 + k)) rfl dX6_rate_14 ?_
  refine lv_sipush (v := 360) hx hb dX6_rate_15 (by decide) ?_
  refine lv_aload_n hx hb dX6_rate_18 rfl (lv_at hl 0 rfl) ?_
  refine lv_iload_n hx hb dX6_rate_19 rfl (lv_at hl 1 rfl) ?_
  refine k_ciR (k_runV X w (met_X6_swing l D cI cJ cO ma za aa va ka ta y z (nI k)  s.heap.size) gX6_rate_X6_swing rfl rfl rfl 1 hdX6_swing ⟨Nat.le_of_ble_eq_true rfl, Nat.le_of_ble_eq_true rfl⟩ [0, 1] rfl rfl 0 6 rfl rfl rfl rfl hl.1 rfl (Nat.le_of_ble_eq_true rfl) dX6_rate_20 ⟨Nat.le_of_ble_eq_true rfl, Nat.le_of_ble_eq_true rfl⟩) w hA [0, 1] rfl (fun H locs w => ?_)
  refine lv_isub hx hb dX6_rate_23 ?_
  refine lv_imul hx hb dX6_rate_24 ?_
  refine lv_bipush (v := 100) hx hb dX6_rate_25 (by decide) ?_
  refine k_ciR (k_runS X w (met_X6_divided l D cI cJ cO ((z (19 + k)) * (360 - (swing z (nI k)))) 100 (by decide) H.size) gX6_rate_X6_divided rfl rfl rfl 2 hdX6_divided ⟨Nat.le_of_ble_eq_true rfl, Nat.le_of_ble_eq_true rfl⟩ [] rfl rfl rfl hl.1 rfl (Nat.le_of_ble_eq_true rfl) dX6_rate_27 ⟨Nat.le_of_ble_eq_true rfl, Nat.le_of_ble_eq_true rfl⟩) w hA [] rfl (fun H locs w => ?_)
  rw [dvd_w hob hk]
  refine lv_iadd hx hb dX6_rate_30 ?_
  refine lv_iconst (v := 2) hx hb dX6_rate_31 (by decide) ?_
  refine lv_aload_n hx hb dX6_rate_32 rfl (lv_at hl 0 rfl) ?_
  refine k_get X w 0 rfl rfl 1 (by decide) rfl iX6_rate_X6 (List.mem_of_getElem? (i := 1) rfl) (v := .ref za) rfl dX6_rate_33 ?_
  refine lv_iconst (v := 4) hx hb dX6_rate_36 (by decide) ?_
  refine k_iald X w 1 0 rfl rfl 4 (kj := 4) rfl (by decide) (by decide) rfl (v := z 4) rfl dX6_rate_37 ?_
  refine lv_imul hx hb dX6_rate_38 ?_
  refine lv_iadd hx hb dX6_rate_39 ?_
  refine lv_istore_n (lv' := [(2, .int (((z 2) + (fdv (z (19 + k) * (360 - swing z (nI k))) 100)) + (2 * (z 4)))), (0, .ref ma), (1, .int (nI k))]) hx hb dX6_rate_40 rfl hl (by decide) rfl (fun ls hl => ?_)
  refine lv_aload_n hx hb dX6_rate_41 rfl (lv_at hl 1 rfl) ?_
  refine k_get X w 0 rfl rfl 1 (by decide) rfl iX6_rate_X6 (List.mem_of_getElem? (i := 1) rfl) (v := .ref za) rfl dX6_rate_42 ?_
  refine lv_iconst (v := 4) hx hb dX6_rate_45 (by decide) ?_
  refine k_iald X w 1 0 rfl rfl 4 (kj := 4) rfl (by decide) (by decide) rfl (v := z 4) rfl dX6_rate_46 ?_
  refine lv_bipush (v := 50) hx hb dX6_rate_47 (by decide) ?_
  refine lv_icmp_le (tgt := 60) hx hb dX6_rate_49 (by decide) (fun c1 => ?_) (fun c1 => ?_)
  · refine lv_aload_n hx hb dX6_rate_60 rfl (lv_at hl 1 rfl) ?_
    refine lv_iload_n hx hb dX6_rate_61 rfl (lv_at hl 2 rfl) ?_
    refine k_ciR (k_runV X w (met_X6_swing l D cI cJ cO ma za aa va ka ta y z (nI k)  H.size) gX6_rate_X6_swing rfl rfl rfl 1 hdX6_swing ⟨Nat.le_of_ble_eq_true rfl, Nat.le_of_ble_eq_true rfl⟩ [0, 1] rfl rfl 0 6 rfl rfl rfl rfl hl.1 rfl (Nat.le_of_ble_eq_true rfl) dX6_rate_62 ⟨Nat.le_of_ble_eq_true rfl, Nat.le_of_ble_eq_true rfl⟩) w hA [0, 1] rfl (fun H locs w => ?_)
    refine lv_sipush (v := 300) hx hb dX6_rate_65 (by decide) ?_
    refine lv_icmp_le (tgt := 79) hx hb dX6_rate_68 (by decide) (fun c2 => ?_) (fun c2 => ?_)
    · refine lv_iload_n hx hb dX6_rate_79 rfl (lv_at hl 0 rfl) ?_
      exact fin _ _ _ _ _ w (by simp only [rate, rt0, c1, c2, if_true, if_false]) dX6_rate_80
    · refine lv_iload_n hx hb dX6_rate_71 rfl (lv_at hl 0 rfl) ?_
      refine lv_sipush (v := 600) hx hb dX6_rate_72 (by decide) ?_
      refine lv_iadd hx hb dX6_rate_75 ?_
      refine lv_goto (tgt := 80) hx hb dX6_rate_76 (by decide) ?_
      exact fin _ _ _ _ _ w (by simp only [rate, rt0, c1, c2, if_true, if_false]) dX6_rate_80
  · refine lv_iload_n hx hb dX6_rate_52 rfl (lv_at hl 0 rfl) ?_
    refine lv_sipush (v := 300) hx hb dX6_rate_53 (by decide) ?_
    refine lv_iadd hx hb dX6_rate_56 ?_
    refine lv_goto (tgt := 80) hx hb dX6_rate_57 (by decide) ?_
    exact fin _ _ _ _ _ w (by simp only [rate, rt0, c1, if_true, if_false]) dX6_rate_80
theorem hdX6_beat : yX6_beat.cls = RX6 ∧ yX6_beat.cls ≠ "java/lang/invoke/MethodHandle" ∧ yX6_beat.cls ≠ "java/lang/invoke/VarHandle" ∧ (parseMethodDescriptor yX6_beat.desc).map (fun d => d.parameters.length) = some 1 := ⟨rfl, by decide, by decide, by decide +kernel⟩
theorem iX6_beat_X6 : ∀ w ∈ wsX60, w ∈ wsX6_beat := fun _ h => List.mem_cons_of_mem _ (List.mem_append_right _ h)
set_option maxHeartbeats 4000000 in
set_option maxRecDepth 100000 in
theorem met_X6_beat (l : Launch) (D : va_G) (cI cJ cO : ClassId) (ma : Nat) (za : Nat) (aa : Nat) (va : Nat) (ka : Nat) (ta : Nat) (y : Nat → Int32) (z : Nat → Int32) (x : Int32)  : CI l D (TY cI cJ cO) yX6_beat wsX6_beat ({ frames := 1, cells := 0, slots := 0, locals := 20 }) [.ref ma, .int x] [oM ma za aa va ka ta y, aI cI za 225 0 z] (beat z x) [oM ma za aa va ka ta y, aI cI za 225 0 z] := by
  refine CI.of (plainFor_of_name (by decide)) rfl (Nat.le_of_ble_eq_true rfl) (rfl) (fun p e s m below meth c A ls Q X hA w hl fin => ?_)
  obtain ⟨hx, hb, hml, hown, hts⟩ := id X.1
  have hl : lv_has ls 2 [(0, .ref ma), (1, .int x)] := hl
  refine lv_aload_n hx hb dX6_beat_0 rfl (lv_at hl 0 rfl) ?_
  refine k_get X w 0 rfl rfl 1 (by decide) rfl iX6_beat_X6 (List.mem_of_getElem? (i := 1) rfl) (v := .ref za) rfl dX6_beat_1 ?_
  refine lv_iconst (v := 3) hx hb dX6_beat_4 (by decide) ?_
  refine k_iald X w 1 0 rfl rfl 3 (kj := 3) rfl (by decide) (by decide) rfl (v := z 3) rfl dX6_beat_5 ?_
  refine k_ciR (k_runS X w (met_X6_amount l D cI cJ cO (z 3)  s.heap.size) gX6_beat_X6_amount rfl rfl rfl 1 hdX6_amount ⟨Nat.le_of_ble_eq_true rfl, Nat.le_of_ble_eq_true rfl⟩ [] rfl rfl rfl hl.1 rfl (Nat.le_of_ble_eq_true rfl) dX6_beat_6 ⟨Nat.le_of_ble_eq_true rfl, Nat.le_of_ble_eq_true rfl⟩) w hA [] rfl (fun H locs w => ?_)
  refine lv_aload_n hx hb dX6_beat_9 rfl (lv_at hl 0 rfl) ?_
  refine k_get X w 0 rfl rfl 1 (by decide) rfl iX6_beat_X6 (List.mem_of_getElem? (i := 1) rfl) (v := .ref za) rfl dX6_beat_10 ?_
  refine lv_iconst (v := 5) hx hb dX6_beat_13 (by decide) ?_
  refine k_iald X w 1 0 rfl rfl 5 (kj := 5) rfl (by decide) (by decide) rfl (v := z 5) rfl dX6_beat_14 ?_
  refine lv_bipush (v := 10) hx hb dX6_beat_15 (by decide) ?_
  refine lv_idiv hx hb dX6_beat_17 (by decide) ?_
  refine lv_iadd hx hb dX6_beat_18 ?_
  refine lv_iload_n hx hb dX6_beat_19 rfl (lv_at hl 1 rfl) ?_
  refine lv_iconst (v := 1) hx hb dX6_beat_20 (by decide) ?_
  refine lv_icmp_le (tgt := 28) hx hb dX6_beat_21 (by decide) (fun c1 => ?_) (fun c1 => ?_)
  · refine lv_iconst (v := 0) hx hb dX6_beat_28 (by decide) ?_
    refine lv_iadd hx hb dX6_beat_29 ?_
    exact fin _ _ _ _ _ w (by simp only [beat, c1, if_true, if_false]) dX6_beat_30
  · refine lv_iconst (v := 2) hx hb dX6_beat_24 (by decide) ?_
    refine lv_goto (tgt := 29) hx hb dX6_beat_25 (by decide) ?_
    refine lv_iadd hx hb dX6_beat_29 ?_
    exact fin _ _ _ _ _ w (by simp only [beat, c1, if_true, if_false]) dX6_beat_30
theorem hdX6_whyNot : yX6_whyNot.cls = RX6 ∧ yX6_whyNot.cls ≠ "java/lang/invoke/MethodHandle" ∧ yX6_whyNot.cls ≠ "java/lang/invoke/VarHandle" ∧ (parseMethodDescriptor yX6_whyNot.desc).map (fun d => d.parameters.length) = some 1 := ⟨rfl, by decide, by decide, by decide +kernel⟩
theorem iX6_whyNot_X6 : ∀ w ∈ wsX60, w ∈ wsX6_whyNot := fun _ h => List.mem_cons_of_mem _ (List.mem_append_right _ h)
set_option maxHeartbeats 4000000 in
set_option maxRecDepth 100000 in
theorem met_X6_whyNot (l : Launch) (D : va_G) (cI cJ cO : ClassId) (ma : Nat) (za : Nat) (aa : Nat) (va : Nat) (ka : Nat) (ta : Nat) (y : Nat → Int32) (z : Nat → Int32) (n : Nat) (k : Nat) (hob : okb z) (hn : z 10 = nI n) (hn4 : n ≤ 40) : CI l D (TY cI cJ cO) yX6_whyNot wsX6_whyNot ({ frames := 2, cells := 0, slots := 0, locals := 41 }) [.ref ma, .int (nI k)] [oM ma za aa va ka ta y, aI cI za 225 0 z] (why z k) [oM ma za aa va ka ta y, aI cI za 225 0 z] := by
  refine CI.of (plainFor_of_name (by decide)) rfl (Nat.le_of_ble_eq_true rfl) (rfl) (fun p e s m below meth c A ls Q X hA w hl fin => ?_)
  obtain ⟨hx, hb, hml, hown, hts⟩ := id X.1
  have hl : lv_has ls 2 [(0, .ref ma), (1, .int (nI k))] := hl
  refine lv_aload_n hx hb dX6_whyNot_0 rfl (lv_at hl 0 rfl) ?_
  refine k_get X w 0 rfl rfl 1 (by decide) rfl iX6_whyNot_X6 (List.mem_of_getElem? (i := 1) rfl) (v := .ref za) rfl dX6_whyNot_1 ?_
  refine lv_iconst (v := 1) hx hb dX6_whyNot_4 (by decide) ?_
  refine k_iald X w 1 0 rfl rfl 1 (kj := 1) rfl (by decide) (by decide) rfl (v := z 1) rfl dX6_whyNot_5 ?_
  refine lv_if_ne (tgt := 11) hx hb dX6_whyNot_6 (by decide) (fun c1 => ?_) (fun c1 => ?_)
  · have c1 := left_pos hob c1
    refine lv_aload_n hx hb dX6_whyNot_11 rfl (lv_at hl 0 rfl) ?_
    refine lv_iload_n hx hb dX6_whyNot_12 rfl (lv_at hl 1 rfl) ?_
    refine k_ciR (k_runV X w (met_X6_swing l D cI cJ cO ma za aa va ka ta y z (nI k)  s.heap.size) gX6_whyNot_X6_swing rfl rfl rfl 1 hdX6_swing ⟨Nat.le_of_ble_eq_true rfl, Nat.le_of_ble_eq_true rfl⟩ [0, 1] rfl rfl 0 6 rfl rfl rfl rfl hl.1 rfl (Nat.le_of_ble_eq_true rfl) dX6_whyNot_13 ⟨Nat.le_of_ble_eq_true rfl, Nat.le_of_ble_eq_true rfl⟩) w hA [0, 1] rfl (fun H locs w => ?_)
    refine lv_bipush (v := 120) hx hb dX6_whyNot_16 (by decide) ?_
    refine lv_icmp_ge (tgt := 23) hx hb dX6_whyNot_18 (by decide) (fun c2 => ?_) (fun c2 => ?_)
    · refine lv_aload_n hx hb dX6_whyNot_23 rfl (lv_at hl 0 rfl) ?_
      refine lv_iload_n hx hb dX6_whyNot_24 rfl (lv_at hl 1 rfl) ?_
      refine k_ciR (k_runV X w (met_X6_beat l D cI cJ cO ma za aa va ka ta y z (nI k)  H.size) gX6_whyNot_X6_beat rfl rfl rfl 1 hdX6_beat ⟨Nat.le_of_ble_eq_true rfl, Nat.le_of_ble_eq_true rfl⟩ [0, 1] rfl rfl 0 6 rfl rfl rfl rfl hl.1 rfl (Nat.le_of_ble_eq_true rfl) dX6_whyNot_25 ⟨Nat.le_of_ble_eq_true rfl, Nat.le_of_ble_eq_true rfl⟩) w hA [0, 1] rfl (fun H locs w => ?_)
      refine lv_aload_n hx hb dX6_whyNot_28 rfl (lv_at hl 0 rfl) ?_
      refine k_get X w 0 rfl rfl 1 (by decide) rfl iX6_whyNot_X6 (List.mem_of_getElem? (i := 1) rfl) (v := .ref za) rfl dX6_whyNot_29 ?_
      refine lv_bipush (v := 12) hx hb dX6_whyNot_32 (by decide) ?_
      refine k_iald X w 1 0 rfl rfl 12 (kj := 12) rfl (by decide) (by decide) rfl (v := z 12) rfl dX6_whyNot_34 ?_
      refine lv_icmp_le (tgt := 40) hx hb dX6_whyNot_35 (by decide) (fun c3 => ?_) (fun c3 => ?_)
      · refine lv_aload_n hx hb dX6_whyNot_40 rfl (lv_at hl 0 rfl) ?_
        refine k_get X w 0 rfl rfl 1 (by decide) rfl iX6_whyNot_X6 (List.mem_of_getElem? (i := 1) rfl) (v := .ref za) rfl dX6_whyNot_41 ?_
        refine lv_iconst (v := 4) hx hb dX6_whyNot_44 (by decide) ?_
        refine k_iald X w 1 0 rfl rfl 4 (kj := 4) rfl (by decide) (by decide) rfl (v := z 4) rfl dX6_whyNot_45 ?_
        refine lv_aload_n hx hb dX6_whyNot_46 rfl (lv_at hl 0 rfl) ?_
        refine k_get X w 0 rfl rfl 1 (by decide) rfl iX6_whyNot_X6 (List.mem_of_getElem? (i := 1) rfl) (v := .ref za) rfl dX6_whyNot_47 ?_
        refine lv_bipush (v := 13) hx hb dX6_whyNot_50 (by decide) ?_
        refine k_iald X w 1 0 rfl rfl 13 (kj := 13) rfl (by decide) (by decide) rfl (v := z 13) rfl dX6_whyNot_52 ?_
        refine lv_icmp_le (tgt := 60) hx hb dX6_whyNot_53 (by decide) (fun c4 => ?_) (fun c4 => ?_)
        · refine lv_aload_n hx hb dX6_whyNot_60 rfl (lv_at hl 0 rfl) ?_
          refine k_get X w 0 rfl rfl 1 (by decide) rfl iX6_whyNot_X6 (List.mem_of_getElem? (i := 1) rfl) (v := .ref za) rfl dX6_whyNot_61 ?_
          refine lv_bipush (v := 10) hx hb dX6_whyNot_64 (by decide) ?_
          refine k_iald X w 1 0 rfl rfl 10 (kj := 10) rfl (by decide) (by decide) rfl (v := z 10) rfl dX6_whyNot_66 ?_
          refine lv_bipush (v := 40) hx hb dX6_whyNot_67 (by decide) ?_
          refine lv_icmp_ne (tgt := 76) hx hb dX6_whyNot_69 (by decide) (fun c5 => ?_) (fun c5 => ?_)
          · have c5 := full_n hn hn4 c5
            refine lv_iconst (v := 0) hx hb dX6_whyNot_76 (by decide) ?_
            exact fin _ _ _ _ _ w (by simp only [why, c1, c2, c3, c4, c5, if_true, if_false, Bool.true_eq_false, reduceIte]) dX6_whyNot_77
          · have c5 := full_y c5
            refine lv_iconst (v := 5) hx hb dX6_whyNot_72 (by decide) ?_
            refine lv_goto (tgt := 77) hx hb dX6_whyNot_73 (by decide) ?_
            exact fin _ _ _ _ _ w (by simp only [why, c1, c2, c3, c4, c5, if_true, if_false, Bool.true_eq_false, reduceIte]) dX6_whyNot_77
        · refine lv_iconst (v := 4) hx hb dX6_whyNot_56 (by decide) ?_
          refine lv_goto (tgt := 77) hx hb dX6_whyNot_57 (by decide) ?_
          exact fin _ _ _ _ _ w (by simp only [why, c1, c2, c3, c4, if_true, if_false, Bool.true_eq_false, reduceIte]) dX6_whyNot_77
      · refine lv_iconst (v := 3) hx hb dX6_whyNot_38 (by decide) ?_
        exact fin _ _ _ _ _ w (by simp only [why, c1, c2, c3, if_true, if_false, Bool.true_eq_false, reduceIte]) dX6_whyNot_39
    · refine lv_iconst (v := 2) hx hb dX6_whyNot_21 (by decide) ?_
      exact fin _ _ _ _ _ w (by simp only [why, c1, c2, if_true, if_false, Bool.true_eq_false, reduceIte]) dX6_whyNot_22
  · have c1 : ¬ 0 < z 1 := by rw [c1]; decide
    refine lv_iconst (v := 1) hx hb dX6_whyNot_9 (by decide) ?_
    exact fin _ _ _ _ _ w (by simp only [why, c1, if_true, if_false, Bool.true_eq_false, reduceIte]) dX6_whyNot_10
theorem hdX6_hour : yX6_hour.cls = RX6 ∧ yX6_hour.cls ≠ "java/lang/invoke/MethodHandle" ∧ yX6_hour.cls ≠ "java/lang/invoke/VarHandle" ∧ (parseMethodDescriptor yX6_hour.desc).map (fun d => d.parameters.length) = some 0 := ⟨rfl, by decide, by decide, by decide +kernel⟩
theorem iX6_hour_X6 : ∀ w ∈ wsX60, w ∈ wsX6_hour := fun _ h => List.mem_cons_of_mem _ (List.mem_append_right _ h)
set_option maxHeartbeats 4000000 in
set_option maxRecDepth 100000 in
theorem met_X6_hour (l : Launch) (D : va_G) (cI cJ cO : ClassId) (ma : Nat) (za : Nat) (aa : Nat) (va : Nat) (ka : Nat) (ta : Nat) (y : Nat → Int32) (z : Nat → Int32) (k : Nat) (hob : okb z) (hz : z 6 = nI k) (hk : k < 6) : CV l D (TY cI cJ cO) yX6_hour wsX6_hour ({ frames := 2, cells := 0, slots := 0, locals := 44 }) [.ref ma] [oM ma za aa va ka ta y, aI cI za 225 0 z] [oM ma za aa va ka ta y, aI cI za 225 0 (hourF z k)] := by
  refine CV.of (plainFor_of_name (by decide)) rfl (Nat.le_of_ble_eq_true rfl) (fun p e s m below meth c A ls Q X hA w hl fin => ?_)
  obtain ⟨hx, hb, hml, hown, hts⟩ := id X.1
  have hl : lv_has ls 2 [(0, .ref ma)] := hl
  refine lv_aload_n hx hb dX6_hour_0 rfl (lv_at hl 0 rfl) ?_
  refine k_get X w 0 rfl rfl 1 (by decide) rfl iX6_hour_X6 (List.mem_of_getElem? (i := 1) rfl) (v := .ref za) rfl dX6_hour_1 ?_
  refine lv_bipush (v := 6) hx hb dX6_hour_4 (by decide) ?_
  refine k_iald X w 1 0 rfl rfl 6 (kj := 6) rfl (by decide) (by decide) rfl (v := nI k) hz dX6_hour_6 ?_
  refine lv_istore_n (lv' := [(1, .int (nI k)), (0, .ref ma)]) hx hb dX6_hour_7 rfl hl (by decide) rfl (fun ls hl => ?_)
  refine lv_aload_n hx hb dX6_hour_8 rfl (lv_at hl 1 rfl) ?_
  refine k_get X w 0 rfl rfl 1 (by decide) rfl iX6_hour_X6 (List.mem_of_getElem? (i := 1) rfl) (v := .ref za) rfl dX6_hour_9 ?_
  refine lv_iconst (v := 0) hx hb dX6_hour_12 (by decide) ?_
  refine lv_dup2_11 hx hb dX6_hour_13 rfl rfl ?_
  refine k_iald X w 1 0 rfl rfl 0 (kj := 0) rfl (by decide) (by decide) rfl (v := z 0) rfl dX6_hour_14 ?_
  refine lv_iconst (v := 1) hx hb dX6_hour_15 (by decide) ?_
  refine lv_iadd hx hb dX6_hour_16 ?_
  refine k_iast X w 1 0 rfl rfl 0 (kj := 0) rfl (by decide) (by decide) rfl (ws2 := [oM ma za aa va ka ta y, aI cI za 225 0 (upd z 0 ((z 0) + 1))]) rfl dX6_hour_17 (fun H locs w => ?_)
  have w := w.to (show [oM ma za aa va ka ta y, aI cI za 225 0 (upd z 0 ((z 0) + 1))] = [oM ma za aa va ka ta y, aI cI za 225 0 (tick z)] from rfl)
  refine lv_aload_n hx hb dX6_hour_18 rfl (lv_at hl 1 rfl) ?_
  refine lv_iload_n hx hb dX6_hour_19 rfl (lv_at hl 0 rfl) ?_
  refine k_ciR (k_runV X w (met_X6_goes l D cI cJ cO ma za aa va ka ta y (tick z) (nI k)  H.size) gX6_hour_X6_goes rfl rfl rfl 1 hdX6_goes ⟨Nat.le_of_ble_eq_true rfl, Nat.le_of_ble_eq_true rfl⟩ [0, 1] rfl rfl 0 6 rfl rfl rfl rfl hl.1 rfl (Nat.le_of_ble_eq_true rfl) dX6_hour_20 ⟨Nat.le_of_ble_eq_true rfl, Nat.le_of_ble_eq_true rfl⟩) w hA [0, 1] rfl (fun H locs w => ?_)
  refine lv_if_ne (tgt := 38) hx hb dX6_hour_23 (by decide) (fun c1 => ?_) (fun c1 => ?_)
  · have c1 := bI_t c1
    refine lv_aload_n hx hb dX6_hour_38 rfl (lv_at hl 1 rfl) ?_
    refine k_get X w 0 rfl rfl 1 (by decide) rfl iX6_hour_X6 (List.mem_of_getElem? (i := 1) rfl) (v := .ref za) rfl dX6_hour_39 ?_
    refine lv_bipush (v := 7) hx hb dX6_hour_42 (by decide) ?_
    refine lv_dup2_11 hx hb dX6_hour_44 rfl rfl ?_
    refine k_iald X w 1 0 rfl rfl 7 (kj := 7) rfl (by decide) (by decide) rfl (v := z 7) ((tick_o _ 7 (by decide) (by decide)).trans rfl) dX6_hour_45 ?_
    refine lv_aload_n hx hb dX6_hour_46 rfl (lv_at hl 1 rfl) ?_
    refine lv_iload_n hx hb dX6_hour_47 rfl (lv_at hl 0 rfl) ?_
    refine k_ciR (k_runV X w (met_X6_rate l D cI cJ cO ma za aa va ka ta y (tick z) k (okb_u (Or.inl rfl) hob) hk H.size) gX6_hour_X6_rate rfl rfl rfl 1 hdX6_rate ⟨Nat.le_of_ble_eq_true rfl, Nat.le_of_ble_eq_true rfl⟩ [0, 1] rfl rfl 0 6 rfl rfl rfl rfl hl.1 rfl (Nat.le_of_ble_eq_true rfl) dX6_hour_48 ⟨Nat.le_of_ble_eq_true rfl, Nat.le_of_ble_eq_true rfl⟩) w hA [0, 1] rfl (fun H locs w => ?_)
    refine lv_bipush (v := 24) hx hb dX6_hour_51 (by decide) ?_
    refine k_ciR (k_runS X w (met_X6_divided l D cI cJ cO (rate (tick z) k) 24 (by decide) H.size) gX6_hour_X6_divided rfl rfl rfl 2 hdX6_divided ⟨Nat.le_of_ble_eq_true rfl, Nat.le_of_ble_eq_true rfl⟩ [] rfl rfl rfl hl.1 rfl (Nat.le_of_ble_eq_true rfl) dX6_hour_53 ⟨Nat.le_of_ble_eq_true rfl, Nat.le_of_ble_eq_true rfl⟩) w hA [] rfl (fun H locs w => ?_)
    rw [dvd_24 (rate_rng (show okb (tick z) from okb_u (Or.inl rfl) hob) hk)]
    refine lv_iadd hx hb dX6_hour_56 ?_
    refine k_iast X w 1 0 rfl rfl 7 (kj := 7) rfl (by decide) (by decide) rfl (ws2 := [oM ma za aa va ka ta y, aI cI za 225 0 (upd (tick z) 7 ((z 7) + (fdv (rate (tick z) k) 24)))]) rfl dX6_hour_57 (fun H locs w => ?_)
    refine lv_aload_n hx hb dX6_hour_58 rfl (lv_at hl 1 rfl) ?_
    refine k_get X w 0 rfl rfl 1 (by decide) rfl iX6_hour_X6 (List.mem_of_getElem? (i := 1) rfl) (v := .ref za) rfl dX6_hour_59 ?_
    refine lv_iconst (v := 1) hx hb dX6_hour_62 (by decide) ?_
    refine lv_dup2_11 hx hb dX6_hour_63 rfl rfl ?_
    refine k_iald X w 1 0 rfl rfl 1 (kj := 1) rfl (by decide) (by decide) rfl (v := z 1) ((upd_no (by decide)).trans ((tick_o _ 1 (by decide) (by decide)).trans rfl)) dX6_hour_64 ?_
    refine lv_iconst (v := 1) hx hb dX6_hour_65 (by decide) ?_
    refine lv_isub hx hb dX6_hour_66 ?_
    refine k_iast X w 1 0 rfl rfl 1 (kj := 1) rfl (by decide) (by decide) rfl (ws2 := [oM ma za aa va ka ta y, aI cI za 225 0 (upd (upd (tick z) 7 ((z 7) + (fdv (rate (tick z) k) 24))) 1 ((z 1) - 1))]) rfl dX6_hour_67 (fun H locs w => ?_)
    refine lv_aload_n hx hb dX6_hour_68 rfl (lv_at hl 1 rfl) ?_
    refine k_get X w 0 rfl rfl 1 (by decide) rfl iX6_hour_X6 (List.mem_of_getElem? (i := 1) rfl) (v := .ref za) rfl dX6_hour_69 ?_
    refine lv_bipush (v := 9) hx hb dX6_hour_72 (by decide) ?_
    refine lv_dup2_11 hx hb dX6_hour_74 rfl rfl ?_
    refine k_iald X w 1 0 rfl rfl 9 (kj := 9) rfl (by decide) (by decide) rfl (v := z 9) ((upd_no (by decide)).trans ((upd_no (by decide)).trans ((tick_o _ 9 (by decide) (by decide)).trans rfl))) dX6_hour_75 ?_
    refine lv_iconst (v := 1) hx hb dX6_hour_76 (by decide) ?_
    refine lv_iadd hx hb dX6_hour_77 ?_
    refine k_iast X w 1 0 rfl rfl 9 (kj := 9) rfl (by decide) (by decide) rfl (ws2 := [oM ma za aa va ka ta y, aI cI za 225 0 (upd (upd (upd (tick z) 7 ((z 7) + (fdv (rate (tick z) k) 24))) 1 ((z 1) - 1)) 9 ((z 9) + 1))]) rfl dX6_hour_78 (fun H locs w => ?_)
    refine lv_aload_n hx hb dX6_hour_79 rfl (lv_at hl 1 rfl) ?_
    refine k_get X w 0 rfl rfl 1 (by decide) rfl iX6_hour_X6 (List.mem_of_getElem? (i := 1) rfl) (v := .ref za) rfl dX6_hour_80 ?_
    refine lv_iconst (v := 5) hx hb dX6_hour_83 (by decide) ?_
    refine lv_aload_n hx hb dX6_hour_84 rfl (lv_at hl 1 rfl) ?_
    refine k_get X w 0 rfl rfl 1 (by decide) rfl iX6_hour_X6 (List.mem_of_getElem? (i := 1) rfl) (v := .ref za) rfl dX6_hour_85 ?_
    refine lv_bipush (v := 9) hx hb dX6_hour_88 (by decide) ?_
    refine k_iald X w 1 0 rfl rfl 9 (kj := 9) rfl (by decide) (by decide) rfl (v := (z 9) + 1) (upd_is _ _ _) dX6_hour_90 ?_
    refine lv_bipush (v := 24) hx hb dX6_hour_91 (by decide) ?_
    refine lv_irem hx hb dX6_hour_93 (by decide) ?_
    refine lv_if_ne (tgt := 113) hx hb dX6_hour_94 (by decide) (fun c2 => ?_) (fun c2 => ?_)
    · refine lv_aload_n hx hb dX6_hour_113 rfl (lv_at hl 1 rfl) ?_
      refine k_get X w 0 rfl rfl 1 (by decide) rfl iX6_hour_X6 (List.mem_of_getElem? (i := 1) rfl) (v := .ref za) rfl dX6_hour_114 ?_
      refine lv_iconst (v := 5) hx hb dX6_hour_117 (by decide) ?_
      refine k_iald X w 1 0 rfl rfl 5 (kj := 5) rfl (by decide) (by decide) rfl (v := z 5) ((upd_no (by decide)).trans ((upd_no (by decide)).trans ((upd_no (by decide)).trans ((tick_o _ 5 (by decide) (by decide)).trans rfl)))) dX6_hour_118 ?_
      refine k_iast X w 1 0 rfl rfl 5 (kj := 5) rfl (by decide) (by decide) rfl (ws2 := [oM ma za aa va ka ta y, aI cI za 225 0 (upd (upd (upd (upd (tick z) 7 ((z 7) + (fdv (rate (tick z) k) 24))) 1 ((z 1) - 1)) 9 ((z 9) + 1)) 5 (z 5))]) rfl dX6_hour_119 (fun H locs w => ?_)
      have ez : upd (upd (upd (upd (tick z) 7 ((z 7) + (fdv (rate (tick z) k) 24))) 1 ((z 1) - 1)) 9 ((z 9) + 1)) 5 (z 5) = hourF z k := by rw [show upd (upd (upd (upd (tick z) 7 ((z 7) + (fdv (rate (tick z) k) 24))) 1 ((z 1) - 1)) 9 ((z 9) + 1)) 5 (z 5) = upd (upd (upd (tick z) 7 ((z 7) + (fdv (rate (tick z) k) 24))) 1 ((z 1) - 1)) 9 ((z 9) + 1) from upd_same rfl]; simp only [hourF, goneF, rem, mnv, c1, c2, if_true, if_false, Bool.false_eq_true, reduceIte]
      rw [ez] at w
      exact fin _ _ _ _ w dX6_hour_120
    · refine lv_aload_n hx hb dX6_hour_97 rfl (lv_at hl 1 rfl) ?_
      refine k_get X w 0 rfl rfl 1 (by decide) rfl iX6_hour_X6 (List.mem_of_getElem? (i := 1) rfl) (v := .ref za) rfl dX6_hour_98 ?_
      refine lv_iconst (v := 5) hx hb dX6_hour_101 (by decide) ?_
      refine k_iald X w 1 0 rfl rfl 5 (kj := 5) rfl (by decide) (by decide) rfl (v := z 5) ((upd_no (by decide)).trans ((upd_no (by decide)).trans ((upd_no (by decide)).trans ((tick_o _ 5 (by decide) (by decide)).trans rfl)))) dX6_hour_102 ?_
      refine lv_iconst (v := 1) hx hb dX6_hour_103 (by decide) ?_
      refine lv_iadd hx hb dX6_hour_104 ?_
      refine lv_bipush (v := 100) hx hb dX6_hour_105 (by decide) ?_
      refine k_ciR (k_runS X w (met_X6_atMost l D cI cJ cO ((z 5) + 1) 100  H.size) gX6_hour_X6_atMost rfl rfl rfl 2 hdX6_atMost ⟨Nat.le_of_ble_eq_true rfl, Nat.le_of_ble_eq_true rfl⟩ [] rfl rfl rfl hl.1 rfl (Nat.le_of_ble_eq_true rfl) dX6_hour_107 ⟨Nat.le_of_ble_eq_true rfl, Nat.le_of_ble_eq_true rfl⟩) w hA [] rfl (fun H locs w => ?_)
      refine lv_goto (tgt := 119) hx hb dX6_hour_110 (by decide) ?_
      refine k_iast X w 1 0 rfl rfl 5 (kj := 5) rfl (by decide) (by decide) rfl (ws2 := [oM ma za aa va ka ta y, aI cI za 225 0 (upd (upd (upd (upd (tick z) 7 ((z 7) + (fdv (rate (tick z) k) 24))) 1 ((z 1) - 1)) 9 ((z 9) + 1)) 5 (mnv ((z 5) + 1) 100))]) rfl dX6_hour_119 (fun H locs w => ?_)
      have ez : upd (upd (upd (upd (tick z) 7 ((z 7) + (fdv (rate (tick z) k) 24))) 1 ((z 1) - 1)) 9 ((z 9) + 1)) 5 (mnv ((z 5) + 1) 100) = hourF z k := by simp only [hourF, goneF, rem, mnv, c1, c2, if_true, if_false, Bool.false_eq_true, reduceIte]
      rw [ez] at w
      exact fin _ _ _ _ w dX6_hour_120
  · have c1 := bI_f c1
    refine lv_aload_n hx hb dX6_hour_26 rfl (lv_at hl 1 rfl) ?_
    refine k_get X w 0 rfl rfl 1 (by decide) rfl iX6_hour_X6 (List.mem_of_getElem? (i := 1) rfl) (v := .ref za) rfl dX6_hour_27 ?_
    refine lv_bipush (v := 8) hx hb dX6_hour_30 (by decide) ?_
    refine lv_dup2_11 hx hb dX6_hour_32 rfl rfl ?_
    refine k_iald X w 1 0 rfl rfl 8 (kj := 8) rfl (by decide) (by decide) rfl (v := z 8) ((tick_o _ 8 (by decide) (by decide)).trans rfl) dX6_hour_33 ?_
    refine lv_iconst (v := 1) hx hb dX6_hour_34 (by decide) ?_
    refine lv_iadd hx hb dX6_hour_35 ?_
    refine k_iast X w 1 0 rfl rfl 8 (kj := 8) rfl (by decide) (by decide) rfl (ws2 := [oM ma za aa va ka ta y, aI cI za 225 0 (upd (tick z) 8 ((z 8) + 1))]) rfl dX6_hour_36 (fun H locs w => ?_)
    have ez : upd (tick z) 8 ((z 8) + 1) = hourF z k := by simp only [hourF, goneF, rem, mnv, c1, if_true, if_false, Bool.false_eq_true, reduceIte]
    rw [ez] at w
    exact fin _ _ _ _ w dX6_hour_37
theorem hdX6_hours : yX6_hours.cls = RX6 ∧ yX6_hours.cls ≠ "java/lang/invoke/MethodHandle" ∧ yX6_hours.cls ≠ "java/lang/invoke/VarHandle" ∧ (parseMethodDescriptor yX6_hours.desc).map (fun d => d.parameters.length) = some 1 := ⟨rfl, by decide, by decide, by decide +kernel⟩
theorem iX6_hours_X6 : ∀ w ∈ wsX60, w ∈ wsX6_hours := fun _ h => List.mem_cons_of_mem _ (List.mem_append_right _ h)
set_option maxHeartbeats 4000000 in
set_option maxRecDepth 100000 in
theorem met_X6_hours (l : Launch) (D : va_G) (cI cJ cO : ClassId) (ma : Nat) (za : Nat) (aa : Nat) (va : Nat) (ka : Nat) (ta : Nat) (y : Nat → Int32) (z : Nat → Int32) (k : Nat) (N : Nat) (hob : okb z) (hz : z 6 = nI k) (hk : k < 6) (hN : N < 2 ^ 31) : CI l D (TY cI cJ cO) yX6_hours wsX6_hours ({ frames := 3, cells := 0, slots := 0, locals := 65 }) [.ref ma, .int (nI N)] [oM ma za aa va ka ta y, aI cI za 225 0 z] (hoursF N z k 9 - z 9) [oM ma za aa va ka ta y, aI cI za 225 0 (hoursF N z k)] := by
  refine CI.of (plainFor_of_name (by decide)) rfl (Nat.le_of_ble_eq_true rfl) (rfl) (fun p e s m below meth c A ls Q X hA w hl fin => ?_)
  obtain ⟨hx, hb, hml, hown, hts⟩ := id X.1
  have hl : lv_has ls 4 [(0, .ref ma), (1, .int (nI N))] := hl
  refine lv_aload_n hx hb dX6_hours_0 rfl (lv_at hl 0 rfl) ?_
  refine k_get X w 0 rfl rfl 1 (by decide) rfl iX6_hours_X6 (List.mem_of_getElem? (i := 1) rfl) (v := .ref za) rfl dX6_hours_1 ?_
  refine lv_bipush (v := 9) hx hb dX6_hours_4 (by decide) ?_
  refine k_iald X w 1 0 rfl rfl 9 (kj := 9) rfl (by decide) (by decide) rfl (v := z 9) rfl dX6_hours_6 ?_
  refine lv_istore_n (lv' := [(2, .int (z 9)), (0, .ref ma), (1, .int (nI N))]) hx hb dX6_hours_7 rfl hl (by decide) rfl (fun ls hl => ?_)
  refine lv_iconst (v := 0) hx hb dX6_hours_8 (by decide) ?_
  refine lv_istore_n (lv' := [(3, .int 0), (2, .int (z 9)), (0, .ref ma), (1, .int (nI N))]) hx hb dX6_hours_9 rfl hl (by decide) rfl (fun ls hl => ?_)
  have lp10 : ∀ (n : Nat) (i : Nat) (zz : Nat → Int32), i + n = N → zz 6 = nI k → okb zz → hoursF n zz k = hoursF N z k → ∀ (H : Heap) (locs : List Loc) (ls : Array Slot), wd D A s.heap H locs ([oM ma za aa va ka ta y, aI cI za 225 0 zz]) → lv_has ls 4 [(3, .int (nI i)), (2, .int (z 9)), (0, .ref ma), (1, .int (nI N))] → W p l e ({ frames := 3, cells := 0, slots := 0, locals := 65 }) s m [.ref ma, .int (nI N)].toArray below meth c H locs 0 0 Q (F0 m 10 ls []) := by
    intro n
    induction n with
    | zero =>
      intro i zz hi hzz hbb he H locs ls w hl
      replace hi : i = N := hi
      refine lv_iload_n hx hb dX6_hours_10 rfl (lv_at hl 0 rfl) ?_
      refine lv_iload_n hx hb dX6_hours_11 rfl (lv_at hl 3 rfl) ?_
      refine lv_icmp_ge (tgt := 25) hx hb dX6_hours_12 (by decide) (fun c1 => ?_) (fun c1 => absurd (nI_le (by omega) (by omega)) c1)
      refine lv_aload_n hx hb dX6_hours_25 rfl (lv_at hl 2 rfl) ?_
      refine k_get X w 0 rfl rfl 1 (by decide) rfl iX6_hours_X6 (List.mem_of_getElem? (i := 1) rfl) (v := .ref za) rfl dX6_hours_26 ?_
      refine lv_bipush (v := 9) hx hb dX6_hours_29 (by decide) ?_
      refine k_iald X w 1 0 rfl rfl 9 (kj := 9) rfl (by decide) (by decide) rfl (v := zz 9) rfl dX6_hours_31 ?_
      refine lv_iload_n hx hb dX6_hours_32 rfl (lv_at hl 1 rfl) ?_
      refine lv_isub hx hb dX6_hours_33 ?_
      have ez : zz = hoursF N z k := by exact he
      rw [ez] at w
      exact fin _ _ _ _ _ w (by rw [← he]; rfl) dX6_hours_34
    | succ n ih =>
      intro i zz hi hzz hbb he H locs ls w hl
      refine lv_iload_n hx hb dX6_hours_10 rfl (lv_at hl 0 rfl) ?_
      refine lv_iload_n hx hb dX6_hours_11 rfl (lv_at hl 3 rfl) ?_
      refine lv_icmp_ge (tgt := 25) hx hb dX6_hours_12 (by decide) (fun c2 => absurd c2 (nI_ge (by omega) (by omega))) (fun c2 => ?_)
      refine lv_aload_n hx hb dX6_hours_15 rfl (lv_at hl 2 rfl) ?_
      refine k_cv (wr := []) (ws2 := [oM ma za aa va ka ta y, aI cI za 225 0 (hourF zz k)]) (k_runV X w (met_X6_hour l D cI cJ cO ma za aa va ka ta y zz k hbb hzz hk H.size) gX6_hours_X6_hour rfl rfl rfl 0 hdX6_hour ⟨Nat.le_of_ble_eq_true rfl, Nat.le_of_ble_eq_true rfl⟩ [0, 1] rfl rfl 0 6 rfl rfl rfl rfl hl.1 rfl (Nat.le_of_ble_eq_true rfl) dX6_hours_16 ⟨Nat.le_of_ble_eq_true rfl, Nat.le_of_ble_eq_true rfl⟩) w hA [0, 1] [] rfl rfl rfl (by decide) [0, 1] rfl rfl (fun H locs w => ?_)
      refine lv_iinc (v := nI (i + 1)) (lv' := [(3, .int (nI (i + 1))), (2, .int (z 9)), (0, .ref ma), (1, .int (nI N))]) hx hb dX6_hours_19 hl (k := 0) rfl (nI_1 _) (by decide) rfl (fun ls hl => ?_)
      refine lv_goto (tgt := 10) hx hb dX6_hours_22 (by decide) ?_
      exact ih (i + 1) (hourF zz k) (by omega) ((hourF_6 _ _).trans hzz) (hourF_okb hbb) he _ _ _ w (lv_sub hl [0, 1, 2, 3] rfl)
  exact lp10 N 0 z (Nat.zero_add _) hz hob rfl _ _ _ w (lv_sub hl [0, 1, 2, 3] rfl)
theorem hdX6_doWind : yX6_doWind.cls = RX6 ∧ yX6_doWind.cls ≠ "java/lang/invoke/MethodHandle" ∧ yX6_doWind.cls ≠ "java/lang/invoke/VarHandle" ∧ (parseMethodDescriptor yX6_doWind.desc).map (fun d => d.parameters.length) = some 1 := ⟨rfl, by decide, by decide, by decide +kernel⟩
theorem iX6_doWind_X6 : ∀ w ∈ wsX60, w ∈ wsX6_doWind := fun _ h => List.mem_cons_of_mem _ (List.mem_append_right _ h)
set_option maxHeartbeats 4000000 in
set_option maxRecDepth 100000 in
theorem met_X6_doWind (l : Launch) (D : va_G) (cI cJ cO : ClassId) (ma : Nat) (za : Nat) (aa : Nat) (va : Nat) (ka : Nat) (ta : Nat) (y : Nat → Int32) (z : Nat → Int32) (x : Int32)  : CI l D (TY cI cJ cO) yX6_doWind wsX6_doWind ({ frames := 1, cells := 0, slots := 0, locals := 21 }) [.ref ma, .int x] [oM ma za aa va ka ta y, aI cI za 225 0 z] (mn48 (z 1 + x)) [oM ma za aa va ka ta y, aI cI za 225 0 (upd z 1 (mn48 (z 1 + x)))] := by
  refine CI.of (plainFor_of_name (by decide)) rfl (Nat.le_of_ble_eq_true rfl) (rfl) (fun p e s m below meth c A ls Q X hA w hl fin => ?_)
  obtain ⟨hx, hb, hml, hown, hts⟩ := id X.1
  have hl : lv_has ls 2 [(0, .ref ma), (1, .int x)] := hl
  refine lv_aload_n hx hb dX6_doWind_0 rfl (lv_at hl 0 rfl) ?_
  refine k_get X w 0 rfl rfl 1 (by decide) rfl iX6_doWind_X6 (List.mem_of_getElem? (i := 1) rfl) (v := .ref za) rfl dX6_doWind_1 ?_
  refine lv_iconst (v := 1) hx hb dX6_doWind_4 (by decide) ?_
  refine lv_aload_n hx hb dX6_doWind_5 rfl (lv_at hl 0 rfl) ?_
  refine k_get X w 0 rfl rfl 1 (by decide) rfl iX6_doWind_X6 (List.mem_of_getElem? (i := 1) rfl) (v := .ref za) rfl dX6_doWind_6 ?_
  refine lv_iconst (v := 1) hx hb dX6_doWind_9 (by decide) ?_
  refine k_iald X w 1 0 rfl rfl 1 (kj := 1) rfl (by decide) (by decide) rfl (v := z 1) rfl dX6_doWind_10 ?_
  refine lv_iload_n hx hb dX6_doWind_11 rfl (lv_at hl 1 rfl) ?_
  refine lv_iadd hx hb dX6_doWind_12 ?_
  refine lv_bipush (v := 48) hx hb dX6_doWind_13 (by decide) ?_
  refine k_ciR (k_runS X w (met_X6_atMost l D cI cJ cO ((z 1) + x) 48  s.heap.size) gX6_doWind_X6_atMost rfl rfl rfl 2 hdX6_atMost ⟨Nat.le_of_ble_eq_true rfl, Nat.le_of_ble_eq_true rfl⟩ [] rfl rfl rfl hl.1 rfl (Nat.le_of_ble_eq_true rfl) dX6_doWind_15 ⟨Nat.le_of_ble_eq_true rfl, Nat.le_of_ble_eq_true rfl⟩) w hA [] rfl (fun H locs w => ?_)
  refine k_iast X w 1 0 rfl rfl 1 (kj := 1) rfl (by decide) (by decide) rfl (ws2 := [oM ma za aa va ka ta y, aI cI za 225 0 (upd z 1 (mnv ((z 1) + x) 48))]) rfl dX6_doWind_18 (fun H locs w => ?_)
  refine lv_aload_n hx hb dX6_doWind_19 rfl (lv_at hl 0 rfl) ?_
  refine k_get X w 0 rfl rfl 1 (by decide) rfl iX6_doWind_X6 (List.mem_of_getElem? (i := 1) rfl) (v := .ref za) rfl dX6_doWind_20 ?_
  refine lv_iconst (v := 1) hx hb dX6_doWind_23 (by decide) ?_
  refine k_iald X w 1 0 rfl rfl 1 (kj := 1) rfl (by decide) (by decide) rfl (v := mnv ((z 1) + x) 48) (upd_is _ _ _) dX6_doWind_24 ?_
  have ez : upd z 1 (mnv ((z 1) + x) 48) = upd z 1 (mn48 (z 1 + x)) := by rfl
  rw [ez] at w
  exact fin _ _ _ _ _ w (by rfl) dX6_doWind_25
theorem hdX6_doRead : yX6_doRead.cls = RX6 ∧ yX6_doRead.cls ≠ "java/lang/invoke/MethodHandle" ∧ yX6_doRead.cls ≠ "java/lang/invoke/VarHandle" ∧ (parseMethodDescriptor yX6_doRead.desc).map (fun d => d.parameters.length) = some 1 := ⟨rfl, by decide, by decide, by decide +kernel⟩
theorem iX6_doRead_X6 : ∀ w ∈ wsX60, w ∈ wsX6_doRead := fun _ h => List.mem_cons_of_mem _ (List.mem_append_right _ h)
set_option maxHeartbeats 4000000 in
set_option maxRecDepth 100000 in
theorem met_X6_doRead (l : Launch) (D : va_G) (cI cJ cO : ClassId) (ma : Nat) (za : Nat) (aa : Nat) (va : Nat) (ka : Nat) (ta : Nat) (y : Nat → Int32) (z : Nat → Int32) (n : Nat) (k : Nat) (hob : okb z) (hk : k < 6) (hn : z 10 = nI n) (hn4 : n < 40) : CI l D (TY cI cJ cO) yX6_doRead wsX6_doRead ({ frames := 2, cells := 0, slots := 0, locals := 44 }) [.ref ma, .int (nI k)] [oM ma za aa va ka ta y, aI cI za 225 0 z] (rate z k + 10000) [oM ma za aa va ka ta y, aI cI za 225 0 (readF z n k)] := by
  refine CI.of (plainFor_of_name (by decide)) rfl (Nat.le_of_ble_eq_true rfl) (rfl) (fun p e s m below meth c A ls Q X hA w hl fin => ?_)
  obtain ⟨hx, hb, hml, hown, hts⟩ := id X.1
  have hl : lv_has ls 3 [(0, .ref ma), (1, .int (nI k))] := hl
  refine lv_bipush (v := 25) hx hb dX6_doRead_0 (by decide) ?_
  refine lv_iconst (v := 5) hx hb dX6_doRead_2 (by decide) ?_
  refine lv_aload_n hx hb dX6_doRead_3 rfl (lv_at hl 0 rfl) ?_
  refine k_get X w 0 rfl rfl 1 (by decide) rfl iX6_doRead_X6 (List.mem_of_getElem? (i := 1) rfl) (v := .ref za) rfl dX6_doRead_4 ?_
  refine lv_bipush (v := 10) hx hb dX6_doRead_7 (by decide) ?_
  refine k_iald X w 1 0 rfl rfl 10 (kj := 10) rfl (by decide) (by decide) rfl (v := nI n) hn dX6_doRead_9 ?_
  refine lv_imul hx hb dX6_doRead_10 ?_
  refine lv_iadd hx hb dX6_doRead_11 ?_
  refine lv_istore_n (lv' := [(2, .int (25 + (5 * (nI n)))), (0, .ref ma), (1, .int (nI k))]) hx hb dX6_doRead_12 rfl hl (by decide) rfl (fun ls hl => ?_)
  refine lv_aload_n hx hb dX6_doRead_13 rfl (lv_at hl 1 rfl) ?_
  refine k_get X w 0 rfl rfl 1 (by decide) rfl iX6_doRead_X6 (List.mem_of_getElem? (i := 1) rfl) (v := .ref za) rfl dX6_doRead_14 ?_
  refine lv_bipush (v := 6) hx hb dX6_doRead_17 (by decide) ?_
  refine lv_iload_n hx hb dX6_doRead_19 rfl (lv_at hl 2 rfl) ?_
  refine k_iast X w 1 0 rfl rfl 6 (kj := 6) rfl (by decide) (by decide) rfl (ws2 := [oM ma za aa va ka ta y, aI cI za 225 0 (upd z 6 (nI k))]) rfl dX6_doRead_20 (fun H locs w => ?_)
  refine lv_aload_n hx hb dX6_doRead_21 rfl (lv_at hl 1 rfl) ?_
  refine k_get X w 0 rfl rfl 1 (by decide) rfl iX6_doRead_X6 (List.mem_of_getElem? (i := 1) rfl) (v := .ref za) rfl dX6_doRead_22 ?_
  refine lv_iload_n hx hb dX6_doRead_25 rfl (lv_at hl 0 rfl) ?_
  refine lv_iconst (v := 0) hx hb dX6_doRead_26 (by decide) ?_
  refine lv_iadd hx hb dX6_doRead_27 ?_
  refine lv_aload_n hx hb dX6_doRead_28 rfl (lv_at hl 1 rfl) ?_
  refine k_get X w 0 rfl rfl 1 (by decide) rfl iX6_doRead_X6 (List.mem_of_getElem? (i := 1) rfl) (v := .ref za) rfl dX6_doRead_29 ?_
  refine lv_iconst (v := 0) hx hb dX6_doRead_32 (by decide) ?_
  refine k_iald X w 1 0 rfl rfl 0 (kj := 0) rfl (by decide) (by decide) rfl (v := z 0) rfl dX6_doRead_33 ?_
  refine k_iast X w 1 0 rfl rfl (25 + (n * 5 + 0)) (kj := 25 + (n * 5 + 0)) (Nat.zero_add _) (by omega) (by decide) (of_ix n 0) (ws2 := [oM ma za aa va ka ta y, aI cI za 225 0 (upd (upd z 6 (nI k)) (25 + (n * 5 + 0)) (z 0))]) rfl dX6_doRead_34 (fun H locs w => ?_)
  refine lv_aload_n hx hb dX6_doRead_35 rfl (lv_at hl 1 rfl) ?_
  refine k_get X w 0 rfl rfl 1 (by decide) rfl iX6_doRead_X6 (List.mem_of_getElem? (i := 1) rfl) (v := .ref za) rfl dX6_doRead_36 ?_
  refine lv_iload_n hx hb dX6_doRead_39 rfl (lv_at hl 0 rfl) ?_
  refine lv_iconst (v := 1) hx hb dX6_doRead_40 (by decide) ?_
  refine lv_iadd hx hb dX6_doRead_41 ?_
  refine lv_iload_n hx hb dX6_doRead_42 rfl (lv_at hl 2 rfl) ?_
  refine k_iast X w 1 0 rfl rfl (25 + (n * 5 + 1)) (kj := 25 + (n * 5 + 1)) (Nat.zero_add _) (by omega) (by decide) (of_ix n 1) (ws2 := [oM ma za aa va ka ta y, aI cI za 225 0 (upd (upd (upd z 6 (nI k)) (25 + (n * 5 + 0)) (z 0)) (25 + (n * 5 + 1)) (nI k))]) rfl dX6_doRead_43 (fun H locs w => ?_)
  refine lv_aload_n hx hb dX6_doRead_44 rfl (lv_at hl 1 rfl) ?_
  refine k_get X w 0 rfl rfl 1 (by decide) rfl iX6_doRead_X6 (List.mem_of_getElem? (i := 1) rfl) (v := .ref za) rfl dX6_doRead_45 ?_
  refine lv_iload_n hx hb dX6_doRead_48 rfl (lv_at hl 0 rfl) ?_
  refine lv_iconst (v := 2) hx hb dX6_doRead_49 (by decide) ?_
  refine lv_iadd hx hb dX6_doRead_50 ?_
  refine lv_aload_n hx hb dX6_doRead_51 rfl (lv_at hl 1 rfl) ?_
  refine lv_iload_n hx hb dX6_doRead_52 rfl (lv_at hl 2 rfl) ?_
  refine k_ciR (k_runV X w (met_X6_rate l D cI cJ cO ma za aa va ka ta y (upd (upd (upd z 6 (nI k)) (25 + (n * 5 + 0)) (z 0)) (25 + (n * 5 + 1)) (nI k)) k (okb_u (by omega) (okb_u (by omega) (okb_u (by omega) hob))) hk H.size) gX6_doRead_X6_rate rfl rfl rfl 1 hdX6_rate ⟨Nat.le_of_ble_eq_true rfl, Nat.le_of_ble_eq_true rfl⟩ [0, 1] rfl rfl 0 6 rfl rfl rfl rfl hl.1 rfl (Nat.le_of_ble_eq_true rfl) dX6_doRead_53 ⟨Nat.le_of_ble_eq_true rfl, Nat.le_of_ble_eq_true rfl⟩) w hA [0, 1] rfl (fun H locs w => ?_)
  rw [show rate (upd (upd (upd z 6 (nI k)) (25 + (n * 5 + 0)) (z 0)) (25 + (n * 5 + 1)) (nI k)) k = rate (upd z 6 (nI k)) k from rate_c (by rw [upd_no (by omega), upd_no (by omega)]) (by rw [upd_no (by omega), upd_no (by omega)]) (by rw [upd_no (by omega), upd_no (by omega)]) (by rw [upd_no (by omega), upd_no (by omega)]) (by rw [upd_no (by omega), upd_no (by omega)])]
  refine k_iast X w 1 0 rfl rfl (25 + (n * 5 + 2)) (kj := 25 + (n * 5 + 2)) (Nat.zero_add _) (by omega) (by decide) (of_ix n 2) (ws2 := [oM ma za aa va ka ta y, aI cI za 225 0 (upd (upd (upd (upd z 6 (nI k)) (25 + (n * 5 + 0)) (z 0)) (25 + (n * 5 + 1)) (nI k)) (25 + (n * 5 + 2)) (rate (upd z 6 (nI k)) k))]) rfl dX6_doRead_56 (fun H locs w => ?_)
  refine lv_aload_n hx hb dX6_doRead_57 rfl (lv_at hl 1 rfl) ?_
  refine k_get X w 0 rfl rfl 1 (by decide) rfl iX6_doRead_X6 (List.mem_of_getElem? (i := 1) rfl) (v := .ref za) rfl dX6_doRead_58 ?_
  refine lv_iload_n hx hb dX6_doRead_61 rfl (lv_at hl 0 rfl) ?_
  refine lv_iconst (v := 3) hx hb dX6_doRead_62 (by decide) ?_
  refine lv_iadd hx hb dX6_doRead_63 ?_
  refine lv_aload_n hx hb dX6_doRead_64 rfl (lv_at hl 1 rfl) ?_
  refine lv_iload_n hx hb dX6_doRead_65 rfl (lv_at hl 2 rfl) ?_
  refine k_ciR (k_runV X w (met_X6_beat l D cI cJ cO ma za aa va ka ta y (upd (upd (upd (upd z 6 (nI k)) (25 + (n * 5 + 0)) (z 0)) (25 + (n * 5 + 1)) (nI k)) (25 + (n * 5 + 2)) (rate (upd z 6 (nI k)) k)) (nI k)  H.size) gX6_doRead_X6_beat rfl rfl rfl 1 hdX6_beat ⟨Nat.le_of_ble_eq_true rfl, Nat.le_of_ble_eq_true rfl⟩ [0, 1] rfl rfl 0 6 rfl rfl rfl rfl hl.1 rfl (Nat.le_of_ble_eq_true rfl) dX6_doRead_66 ⟨Nat.le_of_ble_eq_true rfl, Nat.le_of_ble_eq_true rfl⟩) w hA [0, 1] rfl (fun H locs w => ?_)
  rw [show beat (upd (upd (upd (upd z 6 (nI k)) (25 + (n * 5 + 0)) (z 0)) (25 + (n * 5 + 1)) (nI k)) (25 + (n * 5 + 2)) (rate (upd z 6 (nI k)) k)) (nI k) = beat (upd z 6 (nI k)) (nI k) from beat_c (by rw [upd_no (by omega), upd_no (by omega), upd_no (by omega)]) (by rw [upd_no (by omega), upd_no (by omega), upd_no (by omega)])]
  refine k_iast X w 1 0 rfl rfl (25 + (n * 5 + 3)) (kj := 25 + (n * 5 + 3)) (Nat.zero_add _) (by omega) (by decide) (of_ix n 3) (ws2 := [oM ma za aa va ka ta y, aI cI za 225 0 (upd (upd (upd (upd (upd z 6 (nI k)) (25 + (n * 5 + 0)) (z 0)) (25 + (n * 5 + 1)) (nI k)) (25 + (n * 5 + 2)) (rate (upd z 6 (nI k)) k)) (25 + (n * 5 + 3)) (beat (upd z 6 (nI k)) (nI k)))]) rfl dX6_doRead_69 (fun H locs w => ?_)
  refine lv_aload_n hx hb dX6_doRead_70 rfl (lv_at hl 1 rfl) ?_
  refine k_get X w 0 rfl rfl 1 (by decide) rfl iX6_doRead_X6 (List.mem_of_getElem? (i := 1) rfl) (v := .ref za) rfl dX6_doRead_71 ?_
  refine lv_iload_n hx hb dX6_doRead_74 rfl (lv_at hl 0 rfl) ?_
  refine lv_iconst (v := 4) hx hb dX6_doRead_75 (by decide) ?_
  refine lv_iadd hx hb dX6_doRead_76 ?_
  refine lv_aload_n hx hb dX6_doRead_77 rfl (lv_at hl 1 rfl) ?_
  refine lv_iload_n hx hb dX6_doRead_78 rfl (lv_at hl 2 rfl) ?_
  refine k_ciR (k_runV X w (met_X6_swing l D cI cJ cO ma za aa va ka ta y (upd (upd (upd (upd (upd z 6 (nI k)) (25 + (n * 5 + 0)) (z 0)) (25 + (n * 5 + 1)) (nI k)) (25 + (n * 5 + 2)) (rate (upd z 6 (nI k)) k)) (25 + (n * 5 + 3)) (beat (upd z 6 (nI k)) (nI k))) (nI k)  H.size) gX6_doRead_X6_swing rfl rfl rfl 1 hdX6_swing ⟨Nat.le_of_ble_eq_true rfl, Nat.le_of_ble_eq_true rfl⟩ [0, 1] rfl rfl 0 6 rfl rfl rfl rfl hl.1 rfl (Nat.le_of_ble_eq_true rfl) dX6_doRead_79 ⟨Nat.le_of_ble_eq_true rfl, Nat.le_of_ble_eq_true rfl⟩) w hA [0, 1] rfl (fun H locs w => ?_)
  rw [show swing (upd (upd (upd (upd (upd z 6 (nI k)) (25 + (n * 5 + 0)) (z 0)) (25 + (n * 5 + 1)) (nI k)) (25 + (n * 5 + 2)) (rate (upd z 6 (nI k)) k)) (25 + (n * 5 + 3)) (beat (upd z 6 (nI k)) (nI k))) (nI k) = swing (upd z 6 (nI k)) (nI k) from swing_c (by rw [upd_no (by omega), upd_no (by omega), upd_no (by omega), upd_no (by omega)]) (by rw [upd_no (by omega), upd_no (by omega), upd_no (by omega), upd_no (by omega)])]
  refine k_iast X w 1 0 rfl rfl (25 + (n * 5 + 4)) (kj := 25 + (n * 5 + 4)) (Nat.zero_add _) (by omega) (by decide) (of_ix n 4) (ws2 := [oM ma za aa va ka ta y, aI cI za 225 0 (upd (upd (upd (upd (upd (upd z 6 (nI k)) (25 + (n * 5 + 0)) (z 0)) (25 + (n * 5 + 1)) (nI k)) (25 + (n * 5 + 2)) (rate (upd z 6 (nI k)) k)) (25 + (n * 5 + 3)) (beat (upd z 6 (nI k)) (nI k))) (25 + (n * 5 + 4)) (swing (upd z 6 (nI k)) (nI k)))]) rfl dX6_doRead_82 (fun H locs w => ?_)
  refine lv_aload_n hx hb dX6_doRead_83 rfl (lv_at hl 1 rfl) ?_
  refine k_get X w 0 rfl rfl 1 (by decide) rfl iX6_doRead_X6 (List.mem_of_getElem? (i := 1) rfl) (v := .ref za) rfl dX6_doRead_84 ?_
  refine lv_bipush (v := 10) hx hb dX6_doRead_87 (by decide) ?_
  refine lv_dup2_11 hx hb dX6_doRead_89 rfl rfl ?_
  refine k_iald X w 1 0 rfl rfl 10 (kj := 10) rfl (by decide) (by decide) rfl (v := nI n) (((upd_no (by omega)).trans ((upd_no (by omega)).trans ((upd_no (by omega)).trans ((upd_no (by omega)).trans ((upd_no (by omega)).trans rfl))))).trans hn) dX6_doRead_90 ?_
  refine lv_iconst (v := 1) hx hb dX6_doRead_91 (by decide) ?_
  refine lv_iadd hx hb dX6_doRead_92 ?_
  refine k_iast X w 1 0 rfl rfl 10 (kj := 10) rfl (by decide) (by decide) rfl (ws2 := [oM ma za aa va ka ta y, aI cI za 225 0 (upd (upd (upd (upd (upd (upd (upd z 6 (nI k)) (25 + (n * 5 + 0)) (z 0)) (25 + (n * 5 + 1)) (nI k)) (25 + (n * 5 + 2)) (rate (upd z 6 (nI k)) k)) (25 + (n * 5 + 3)) (beat (upd z 6 (nI k)) (nI k))) (25 + (n * 5 + 4)) (swing (upd z 6 (nI k)) (nI k))) 10 ((nI n) + 1))]) rfl dX6_doRead_93 (fun H locs w => ?_)
  refine lv_aload_n hx hb dX6_doRead_94 rfl (lv_at hl 1 rfl) ?_
  refine k_get X w 0 rfl rfl 1 (by decide) rfl iX6_doRead_X6 (List.mem_of_getElem? (i := 1) rfl) (v := .ref za) rfl dX6_doRead_95 ?_
  refine lv_bipush (v := 11) hx hb dX6_doRead_98 (by decide) ?_
  refine lv_dup2_11 hx hb dX6_doRead_100 rfl rfl ?_
  refine k_iald X w 1 0 rfl rfl 11 (kj := 11) rfl (by decide) (by decide) rfl (v := z 11) ((upd_no (by decide)).trans ((upd_no (by omega)).trans ((upd_no (by omega)).trans ((upd_no (by omega)).trans ((upd_no (by omega)).trans ((upd_no (by omega)).trans rfl)))))) dX6_doRead_101 ?_
  refine lv_iconst (v := 1) hx hb dX6_doRead_102 (by decide) ?_
  refine lv_iadd hx hb dX6_doRead_103 ?_
  refine k_iast X w 1 0 rfl rfl 11 (kj := 11) rfl (by decide) (by decide) rfl (ws2 := [oM ma za aa va ka ta y, aI cI za 225 0 (upd (upd (upd (upd (upd (upd (upd (upd z 6 (nI k)) (25 + (n * 5 + 0)) (z 0)) (25 + (n * 5 + 1)) (nI k)) (25 + (n * 5 + 2)) (rate (upd z 6 (nI k)) k)) (25 + (n * 5 + 3)) (beat (upd z 6 (nI k)) (nI k))) (25 + (n * 5 + 4)) (swing (upd z 6 (nI k)) (nI k))) 10 ((nI n) + 1)) 11 ((z 11) + 1))]) rfl dX6_doRead_104 (fun H locs w => ?_)
  refine lv_aload_n hx hb dX6_doRead_105 rfl (lv_at hl 1 rfl) ?_
  refine lv_iload_n hx hb dX6_doRead_106 rfl (lv_at hl 2 rfl) ?_
  refine k_ciR (k_runV X w (met_X6_rate l D cI cJ cO ma za aa va ka ta y (upd (upd (upd (upd (upd (upd (upd (upd z 6 (nI k)) (25 + (n * 5 + 0)) (z 0)) (25 + (n * 5 + 1)) (nI k)) (25 + (n * 5 + 2)) (rate (upd z 6 (nI k)) k)) (25 + (n * 5 + 3)) (beat (upd z 6 (nI k)) (nI k))) (25 + (n * 5 + 4)) (swing (upd z 6 (nI k)) (nI k))) 10 ((nI n) + 1)) 11 ((z 11) + 1)) k (okb_u (by omega) (okb_u (by omega) (okb_u (by omega) (okb_u (by omega) (okb_u (by omega) (okb_u (by omega) (okb_u (by omega) (okb_u (by omega) hob)))))))) hk H.size) gX6_doRead_X6_rate rfl rfl rfl 1 hdX6_rate ⟨Nat.le_of_ble_eq_true rfl, Nat.le_of_ble_eq_true rfl⟩ [0, 1] rfl rfl 0 6 rfl rfl rfl rfl hl.1 rfl (Nat.le_of_ble_eq_true rfl) dX6_doRead_107 ⟨Nat.le_of_ble_eq_true rfl, Nat.le_of_ble_eq_true rfl⟩) w hA [0, 1] rfl (fun H locs w => ?_)
  rw [show rate (upd (upd (upd (upd (upd (upd (upd (upd z 6 (nI k)) (25 + (n * 5 + 0)) (z 0)) (25 + (n * 5 + 1)) (nI k)) (25 + (n * 5 + 2)) (rate (upd z 6 (nI k)) k)) (25 + (n * 5 + 3)) (beat (upd z 6 (nI k)) (nI k))) (25 + (n * 5 + 4)) (swing (upd z 6 (nI k)) (nI k))) 10 ((nI n) + 1)) 11 ((z 11) + 1)) k = rate z k from rate_c (by rw [upd_no (by omega), upd_no (by omega), upd_no (by omega), upd_no (by omega), upd_no (by omega), upd_no (by omega), upd_no (by omega), upd_no (by omega)]) (by rw [upd_no (by omega), upd_no (by omega), upd_no (by omega), upd_no (by omega), upd_no (by omega), upd_no (by omega), upd_no (by omega), upd_no (by omega)]) (by rw [upd_no (by omega), upd_no (by omega), upd_no (by omega), upd_no (by omega), upd_no (by omega), upd_no (by omega), upd_no (by omega), upd_no (by omega)]) (by rw [upd_no (by omega), upd_no (by omega), upd_no (by omega), upd_no (by omega), upd_no (by omega), upd_no (by omega), upd_no (by omega), upd_no (by omega)]) (by rw [upd_no (by omega), upd_no (by omega), upd_no (by omega), upd_no (by omega), upd_no (by omega), upd_no (by omega), upd_no (by omega), upd_no (by omega)])]
  refine lv_sipush (v := 10000) hx hb dX6_doRead_110 (by decide) ?_
  refine lv_iadd hx hb dX6_doRead_113 ?_
  have ez : upd (upd (upd (upd (upd (upd (upd (upd z 6 (nI k)) (25 + (n * 5 + 0)) (z 0)) (25 + (n * 5 + 1)) (nI k)) (25 + (n * 5 + 2)) (rate (upd z 6 (nI k)) k)) (25 + (n * 5 + 3)) (beat (upd z 6 (nI k)) (nI k))) (25 + (n * 5 + 4)) (swing (upd z 6 (nI k)) (nI k))) 10 ((nI n) + 1)) 11 ((z 11) + 1) = readF z n k := by rfl
  rw [ez] at w
  exact fin _ _ _ _ _ w (by rfl) dX6_doRead_114
