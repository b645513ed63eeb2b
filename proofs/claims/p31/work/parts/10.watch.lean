theorem hdJ9_floorDiv_7cf53 : yJ9_floorDiv_7cf53.cls = RJ9 ∧ yJ9_floorDiv_7cf53.cls ≠ "java/lang/invoke/MethodHandle" ∧ yJ9_floorDiv_7cf53.cls ≠ "java/lang/invoke/VarHandle" ∧ (parseMethodDescriptor yJ9_floorDiv_7cf53.desc).map (fun d => d.parameters.length) = some 2 := ⟨rfl, by decide, by decide, by decide +kernel⟩
set_option maxHeartbeats 4000000 in
set_option maxRecDepth 100000 in
theorem met_J9_floorDiv_7cf53 (l : Launch) (D : va_G) (cI cJ cO : ClassId) (x : Int32) (y : Int32) (hy : ¬ y = 0) : CI l D (TY cI cJ cO) yJ9_floorDiv_7cf53 wsJ9_floorDiv_7cf53 ({ frames := 0, cells := 0, slots := 0, locals := 0 }) [.int x, .int y] [] (fdv x y) [] := by
  refine CI.of (by decide +kernel) rfl (Nat.le_of_ble_eq_true rfl) (rfl) (fun p e s m below meth c A ls Q X hA w hl fin => ?_)
  obtain ⟨hx, hb, hml, hown, hts⟩ := id X.1
  have hl : lv_has ls 3 [(0, .int x), (1, .int y)] := hl
  refine lv_iload_n hx hb dJ9_floorDiv_7cf53_0 rfl (lv_at hl 0 rfl) ?_
  refine lv_iload_n hx hb dJ9_floorDiv_7cf53_1 rfl (lv_at hl 1 rfl) ?_
  refine lv_idiv hx hb dJ9_floorDiv_7cf53_2 hy ?_
  refine lv_istore_n (lv' := [(2, .int (x / y)), (0, .int x), (1, .int y)]) hx hb dJ9_floorDiv_7cf53_3 rfl hl (by decide) rfl (fun ls hl => ?_)
  refine lv_iload_n hx hb dJ9_floorDiv_7cf53_4 rfl (lv_at hl 1 rfl) ?_
  refine lv_iload_n hx hb dJ9_floorDiv_7cf53_5 rfl (lv_at hl 2 rfl) ?_
  refine lv_ixor hx hb dJ9_floorDiv_7cf53_6 ?_
  refine lv_if_ge (tgt := 21) hx hb dJ9_floorDiv_7cf53_7 (by decide) (fun c1 => ?_) (fun c1 => ?_)
  · refine lv_iload_n hx hb dJ9_floorDiv_7cf53_21 rfl (lv_at hl 0 rfl) ?_
    exact fin _ _ _ _ _ w (by simp only [fdv, c1, if_true, if_false]) dJ9_floorDiv_7cf53_22
  · refine lv_iload_n hx hb dJ9_floorDiv_7cf53_10 rfl (lv_at hl 0 rfl) ?_
    refine lv_iload_n hx hb dJ9_floorDiv_7cf53_11 rfl (lv_at hl 2 rfl) ?_
    refine lv_imul hx hb dJ9_floorDiv_7cf53_12 ?_
    refine lv_iload_n hx hb dJ9_floorDiv_7cf53_13 rfl (lv_at hl 1 rfl) ?_
    refine lv_icmp_eq (tgt := 21) hx hb dJ9_floorDiv_7cf53_14 (by decide) (fun c2 => ?_) (fun c2 => ?_)
    · refine lv_iload_n hx hb dJ9_floorDiv_7cf53_21 rfl (lv_at hl 0 rfl) ?_
      exact fin _ _ _ _ _ w (by simp only [fdv, c1, c2, if_true, if_false]) dJ9_floorDiv_7cf53_22
    · refine lv_iload_n hx hb dJ9_floorDiv_7cf53_17 rfl (lv_at hl 0 rfl) ?_
      refine lv_iconst (v := 1) hx hb dJ9_floorDiv_7cf53_18 (by decide) ?_
      refine lv_isub hx hb dJ9_floorDiv_7cf53_19 ?_
      exact fin _ _ _ _ _ w (by simp only [fdv, c1, c2, if_true, if_false]) dJ9_floorDiv_7cf53_20
theorem hdX5_isPose : yX5_isPose.cls = RX5 ∧ yX5_isPose.cls ≠ "java/lang/invoke/MethodHandle" ∧ yX5_isPose.cls ≠ "java/lang/invoke/VarHandle" ∧ (parseMethodDescriptor yX5_isPose.desc).map (fun d => d.parameters.length) = some 1 := ⟨rfl, by decide, by decide, by decide +kernel⟩
set_option maxHeartbeats 4000000 in
set_option maxRecDepth 100000 in
theorem met_X5_isPose (l : Launch) (D : va_G) (cI cJ cO : ClassId) (x : Int32)  : CI l D (TY cI cJ cO) yX5_isPose wsX5_isPose ({ frames := 0, cells := 0, slots := 0, locals := 0 }) [.int x] [] (bI (isP x)) [] := by
  refine CI.of (plainFor_of_name (by decide)) rfl (Nat.le_of_ble_eq_true rfl) (bI_n _) (fun p e s m below meth c A ls Q X hA w hl fin => ?_)
  obtain ⟨hx, hb, hml, hown, hts⟩ := id X.1
  have hl : lv_has ls 1 [(0, .int x)] := hl
  refine lv_iload_n hx hb dX5_isPose_0 rfl (lv_at hl 0 rfl) ?_
  refine lv_if_lt (tgt := 14) hx hb dX5_isPose_1 (by decide) (fun c1 => ?_) (fun c1 => ?_)
  · refine lv_iconst (v := 0) hx hb dX5_isPose_14 (by decide) ?_
    exact fin _ _ _ _ _ w (by simp [isP, bI, c1]) dX5_isPose_15
  · refine lv_iload_n hx hb dX5_isPose_4 rfl (lv_at hl 0 rfl) ?_
    refine lv_bipush (v := 6) hx hb dX5_isPose_5 (by decide) ?_
    refine lv_icmp_ge (tgt := 14) hx hb dX5_isPose_7 (by decide) (fun c2 => ?_) (fun c2 => ?_)
    · refine lv_iconst (v := 0) hx hb dX5_isPose_14 (by decide) ?_
      exact fin _ _ _ _ _ w (by simp [isP, bI, c1, c2]) dX5_isPose_15
    · refine lv_iconst (v := 1) hx hb dX5_isPose_10 (by decide) ?_
      refine lv_goto (tgt := 15) hx hb dX5_isPose_11 (by decide) ?_
      exact fin _ _ _ _ _ w (by simp [isP, bI, c1, c2]) dX5_isPose_15
theorem hdX4_weightOf : yX4_weightOf.cls = RX4 ∧ yX4_weightOf.cls ≠ "java/lang/invoke/MethodHandle" ∧ yX4_weightOf.cls ≠ "java/lang/invoke/VarHandle" ∧ (parseMethodDescriptor yX4_weightOf.desc).map (fun d => d.parameters.length) = some 1 := ⟨rfl, by decide, by decide, by decide +kernel⟩
theorem iX4_weightOf_X4 : ∀ w ∈ wsX40, w ∈ wsX4_weightOf := fun _ h => List.mem_cons_of_mem _ (List.mem_append_right _ h)
set_option maxHeartbeats 4000000 in
set_option maxRecDepth 100000 in
theorem met_X4_weightOf (l : Launch) (D : va_G) (cI cJ cO : ClassId) (a : Nat) (wa : Nat) (z : Nat → Int32) (k : Nat) (hk : k < 6) : CI l D (TY cI cJ cO) yX4_weightOf wsX4_weightOf ({ frames := 1, cells := 0, slots := 0, locals := 20 }) [.ref a, .int (nI k)] [oW a wa z, aI cI wa 6 19 z] (z (19 + k)) [oW a wa z, aI cI wa 6 19 z] := by
  refine CI.of (plainFor_of_name (by decide)) rfl (Nat.le_of_ble_eq_true rfl) (rfl) (fun p e s m below meth c A ls Q X hA w hl fin => ?_)
  obtain ⟨hx, hb, hml, hown, hts⟩ := id X.1
  have hl : lv_has ls 2 [(0, .ref a), (1, .int (nI k))] := hl
  refine lv_iload_n hx hb dX4_weightOf_0 rfl (lv_at hl 1 rfl) ?_
  refine k_ciR (k_runSN X w (met_X5_isPose l D cI cJ cO (nI k)  s.heap.size) gX4_weightOf_X5_isPose_n54 (List.mem_of_getElem? (i := 6) rfl) (List.mem_of_getElem? (i := 2) rfl) (List.mem_of_getElem? (i := 3) rfl) rfl rfl rfl 1 hdX5_isPose ⟨Nat.le_of_ble_eq_true rfl, Nat.le_of_ble_eq_true rfl⟩ [] rfl rfl rfl hl.1 rfl (Nat.le_of_ble_eq_true rfl) dX4_weightOf_1 ⟨Nat.le_of_ble_eq_true rfl, Nat.le_of_ble_eq_true rfl⟩) w hA [] rfl (fun H locs w => ?_)
  refine lv_if_eq (tgt := 16) hx hb dX4_weightOf_4 (by decide) (fun c1 => absurd c1 (isP_b hk)) (fun c1 => ?_)
  refine lv_aload_n hx hb dX4_weightOf_7 rfl (lv_at hl 0 rfl) ?_
  refine k_get X w 0 rfl rfl 0 (by decide) rfl iX4_weightOf_X4 (List.mem_of_getElem? (i := 1) rfl) (v := .ref wa) rfl dX4_weightOf_8 ?_
  refine lv_iload_n hx hb dX4_weightOf_11 rfl (lv_at hl 1 rfl) ?_
  refine k_iald X w 1 0 rfl rfl k (kj := 19 + k) rfl (by omega) (by decide) rfl (v := z (19 + k)) rfl dX4_weightOf_12 ?_
  refine lv_goto (tgt := 17) hx hb dX4_weightOf_13 (by decide) ?_
  exact fin _ _ _ _ _ w rfl dX4_weightOf_17
theorem hdX4_putWeight : yX4_putWeight.cls = RX4 ∧ yX4_putWeight.cls ≠ "java/lang/invoke/MethodHandle" ∧ yX4_putWeight.cls ≠ "java/lang/invoke/VarHandle" ∧ (parseMethodDescriptor yX4_putWeight.desc).map (fun d => d.parameters.length) = some 2 := ⟨rfl, by decide, by decide, by decide +kernel⟩
theorem iX4_putWeight_X4 : ∀ w ∈ wsX40, w ∈ wsX4_putWeight := fun _ h => List.mem_cons_of_mem _ (List.mem_append_right _ h)
set_option maxHeartbeats 4000000 in
set_option maxRecDepth 100000 in
theorem met_X4_putWeight (l : Launch) (D : va_G) (cI cJ cO : ClassId) (a : Nat) (wa : Nat) (z : Nat → Int32) (k : Nat) (v : Int32) (hk : k < 6) : CV l D (TY cI cJ cO) yX4_putWeight wsX4_putWeight ({ frames := 1, cells := 0, slots := 0, locals := 20 }) [.ref a, .int (nI k), .int v] [oW a wa z, aI cI wa 6 19 z] [oW a wa (upd z (19 + k) v), aI cI wa 6 19 (upd z (19 + k) v)] := by
  refine CV.of (plainFor_of_name (by decide)) rfl (Nat.le_of_ble_eq_true rfl) (fun p e s m below meth c A ls Q X hA w hl fin => ?_)
  obtain ⟨hx, hb, hml, hown, hts⟩ := id X.1
  have hl : lv_has ls 3 [(0, .ref a), (1, .int (nI k)), (2, .int v)] := hl
  refine lv_iload_n hx hb dX4_putWeight_0 rfl (lv_at hl 1 rfl) ?_
  refine k_ciR (k_runSN X w (met_X5_isPose l D cI cJ cO (nI k)  s.heap.size) gX4_putWeight_X5_isPose_n54 (List.mem_of_getElem? (i := 6) rfl) (List.mem_of_getElem? (i := 2) rfl) (List.mem_of_getElem? (i := 3) rfl) rfl rfl rfl 1 hdX5_isPose ⟨Nat.le_of_ble_eq_true rfl, Nat.le_of_ble_eq_true rfl⟩ [] rfl rfl rfl hl.1 rfl (Nat.le_of_ble_eq_true rfl) dX4_putWeight_1 ⟨Nat.le_of_ble_eq_true rfl, Nat.le_of_ble_eq_true rfl⟩) w hA [] rfl (fun H locs w => ?_)
  refine lv_if_eq (tgt := 14) hx hb dX4_putWeight_4 (by decide) (fun c1 => absurd c1 (isP_b hk)) (fun c1 => ?_)
  refine lv_aload_n hx hb dX4_putWeight_7 rfl (lv_at hl 0 rfl) ?_
  refine k_get X w 0 rfl rfl 0 (by decide) rfl iX4_putWeight_X4 (List.mem_of_getElem? (i := 1) rfl) (v := .ref wa) rfl dX4_putWeight_8 ?_
  refine lv_iload_n hx hb dX4_putWeight_11 rfl (lv_at hl 1 rfl) ?_
  refine lv_iload_n hx hb dX4_putWeight_12 rfl (lv_at hl 2 rfl) ?_
  refine k_iast X w 1 0 rfl rfl k (kj := 19 + k) rfl (by omega) (by decide) rfl (ws2 := [oW a wa z, aI cI wa 6 19 (upd z (19 + k) v)]) rfl dX4_putWeight_13 (fun H locs w => ?_)
  have w := w.to (show [oW a wa z, aI cI wa 6 19 (upd z (19 + k) v)] = [oW a wa (upd z (19 + k) v), aI cI wa 6 19 (upd z (19 + k) v)] by rw [show oW a wa z = oW a wa (upd z (19 + k) v) from oW_c (fun k h1 h2 => (((upd_no (by omega)).trans rfl)).symm)])
  exact fin _ _ _ _ w dX4_putWeight_14
theorem hdX4_tighten : yX4_tighten.cls = RX4 ∧ yX4_tighten.cls ≠ "java/lang/invoke/MethodHandle" ∧ yX4_tighten.cls ≠ "java/lang/invoke/VarHandle" ∧ (parseMethodDescriptor yX4_tighten.desc).map (fun d => d.parameters.length) = some 1 := ⟨rfl, by decide, by decide, by decide +kernel⟩
theorem iX4_tighten_X4 : ∀ w ∈ wsX40, w ∈ wsX4_tighten := fun _ h => List.mem_cons_of_mem _ (List.mem_append_right _ h)
set_option maxHeartbeats 4000000 in
set_option maxRecDepth 100000 in
theorem met_X4_tighten (l : Launch) (D : va_G) (cI cJ cO : ClassId) (a : Nat) (wa : Nat) (z : Nat → Int32) (h : Int32)  : CV l D (TY cI cJ cO) yX4_tighten wsX4_tighten ({ frames := 1, cells := 0, slots := 0, locals := 21 }) [.ref a, .int h] [oW a wa z, aI cI wa 6 19 z] [oW a wa (upd z 1 (mn48 (z 1 + h))), aI cI wa 6 19 (upd z 1 (mn48 (z 1 + h)))] := by
  refine CV.of (plainFor_of_name (by decide)) rfl (Nat.le_of_ble_eq_true rfl) (fun p e s m below meth c A ls Q X hA w hl fin => ?_)
  obtain ⟨hx, hb, hml, hown, hts⟩ := id X.1
  have hl : lv_has ls 2 [(0, .ref a), (1, .int h)] := hl
  refine lv_aload_n hx hb dX4_tighten_0 rfl (lv_at hl 0 rfl) ?_
  refine lv_bipush (v := 48) hx hb dX4_tighten_1 (by decide) ?_
  refine lv_aload_n hx hb dX4_tighten_3 rfl (lv_at hl 0 rfl) ?_
  refine k_get X w 0 rfl rfl 3 (by decide) rfl iX4_tighten_X4 (List.mem_of_getElem? (i := 1) rfl) (v := .int (z 1)) rfl dX4_tighten_4 ?_
  refine lv_iload_n hx hb dX4_tighten_7 rfl (lv_at hl 1 rfl) ?_
  refine lv_iadd hx hb dX4_tighten_8 ?_
  refine k_min X hl.1 (List.mem_of_getElem? (i := 2) rfl) (List.mem_of_getElem? (i := 3) rfl) (List.mem_of_getElem? (i := 4) rfl) (List.mem_of_getElem? (i := 5) rfl) (Nat.le_of_ble_eq_true rfl) (Nat.le_of_ble_eq_true rfl) (Nat.le_of_ble_eq_true rfl) (Nat.le_of_ble_eq_true rfl) dX4_tighten_9 ?_
  refine k_put X w 0 rfl rfl 3 (by decide) rfl iX4_tighten_X4 (List.mem_of_getElem? (i := 1) rfl) tyX4_ok nmX4 rfl rfl (Nat.le_of_ble_eq_true rfl) (ws2 := [oW a wa (upd z 1 (if ((z 1) + h) < 48 then (z 1) + h else 48)), aI cI wa 6 19 z]) rfl dX4_tighten_12 (fun H locs w => ?_)
  have w := w.to (show [oW a wa (upd z 1 (if ((z 1) + h) < 48 then (z 1) + h else 48)), aI cI wa 6 19 z] = [oW a wa (upd z 1 (if ((z 1) + h) < 48 then (z 1) + h else 48)), aI cI wa 6 19 (upd z 1 (if ((z 1) + h) < 48 then (z 1) + h else 48))] by rw [show aI cI wa 6 19 z = aI cI wa 6 19 (upd z 1 (if ((z 1) + h) < 48 then (z 1) + h else 48)) from aI_c (fun k h1 h2 => (((upd_no (by omega)).trans rfl)).symm)])
  have ez : upd z 1 (if ((z 1) + h) < 48 then (z 1) + h else 48) = upd z 1 (mn48 (z 1 + h)) := by rw [mn48_c]
  rw [ez] at w
  exact fin _ _ _ _ w dX4_tighten_15
theorem hdX4_swingIn : yX4_swingIn.cls = RX4 ∧ yX4_swingIn.cls ≠ "java/lang/invoke/MethodHandle" ∧ yX4_swingIn.cls ≠ "java/lang/invoke/VarHandle" ∧ (parseMethodDescriptor yX4_swingIn.desc).map (fun d => d.parameters.length) = some 1 := ⟨rfl, by decide, by decide, by decide +kernel⟩
theorem iX4_swingIn_X4 : ∀ w ∈ wsX40, w ∈ wsX4_swingIn := fun _ h => List.mem_cons_of_mem _ (List.mem_append_right _ h)
set_option maxHeartbeats 4000000 in
set_option maxRecDepth 100000 in
theorem met_X4_swingIn (l : Launch) (D : va_G) (cI cJ cO : ClassId) (a : Nat) (wa : Nat) (z : Nat → Int32) (x : Int32)  : CI l D (TY cI cJ cO) yX4_swingIn wsX4_swingIn ({ frames := 1, cells := 0, slots := 0, locals := 21 }) [.ref a, .int x] [oW a wa z, aI cI wa 6 19 z] (swing z x) [oW a wa z, aI cI wa 6 19 z] := by
  refine CI.of (plainFor_of_name (by decide)) rfl (Nat.le_of_ble_eq_true rfl) (rfl) (fun p e s m below meth c A ls Q X hA w hl fin => ?_)
  obtain ⟨hx, hb, hml, hown, hts⟩ := id X.1
  have hl : lv_has ls 3 [(0, .ref a), (1, .int x)] := hl
  refine lv_sipush (v := 320) hx hb dX4_swingIn_0 (by decide) ?_
  refine lv_iconst (v := 3) hx hb dX4_swingIn_3 (by decide) ?_
  refine lv_bipush (v := 48) hx hb dX4_swingIn_4 (by decide) ?_
  refine lv_aload_n hx hb dX4_swingIn_6 rfl (lv_at hl 0 rfl) ?_
  refine k_get X w 0 rfl rfl 3 (by decide) rfl iX4_swingIn_X4 (List.mem_of_getElem? (i := 1) rfl) (v := .int (z 1)) rfl dX4_swingIn_7 ?_
  refine lv_isub hx hb dX4_swingIn_10 ?_
  refine lv_imul hx hb dX4_swingIn_11 ?_
  refine lv_isub hx hb dX4_swingIn_12 ?_
  refine lv_aload_n hx hb dX4_swingIn_13 rfl (lv_at hl 0 rfl) ?_
  refine k_get X w 0 rfl rfl 5 (by decide) rfl iX4_swingIn_X4 (List.mem_of_getElem? (i := 2) rfl) (v := .int (z 5)) rfl dX4_swingIn_14 ?_
  refine lv_isub hx hb dX4_swingIn_17 ?_
  refine lv_istore_n (lv' := [(2, .int ((320 - (3 * (48 - (z 1)))) - (z 5))), (0, .ref a), (1, .int x)]) hx hb dX4_swingIn_18 rfl hl (by decide) rfl (fun ls hl => ?_)
  refine lv_iload_n hx hb dX4_swingIn_19 rfl (lv_at hl 2 rfl) ?_
  refine lv_iconst (v := 2) hx hb dX4_swingIn_20 (by decide) ?_
  refine lv_icmp_lt (tgt := 27) hx hb dX4_swingIn_21 (by decide) (fun c1 => ?_) (fun c1 => ?_)
  · refine lv_iconst (v := 0) hx hb dX4_swingIn_27 (by decide) ?_
    refine lv_iload_n hx hb dX4_swingIn_28 rfl (lv_at hl 0 rfl) ?_
    refine k_max X hl.1 (List.mem_of_getElem? (i := 3) rfl) (List.mem_of_getElem? (i := 4) rfl) (List.mem_of_getElem? (i := 5) rfl) (List.mem_of_getElem? (i := 6) rfl) (Nat.le_of_ble_eq_true rfl) (Nat.le_of_ble_eq_true rfl) (Nat.le_of_ble_eq_true rfl) (Nat.le_of_ble_eq_true rfl) dX4_swingIn_29 ?_
    exact fin _ _ _ _ _ w (by exact sw_a c1) dX4_swingIn_32
  · refine lv_iinc (v := ((320 - (3 * (48 - (z 1)))) - (z 5)) + (-20)) (lv' := [(2, .int (((320 - (3 * (48 - (z 1)))) - (z 5)) + (-20))), (0, .ref a), (1, .int x)]) hx hb dX4_swingIn_24 hl (k := 0) rfl (congrArg (fun t => ((320 - (3 * (48 - (z 1)))) - (z 5)) + t) (by decide)) (by decide) rfl (fun ls hl => ?_)
    refine lv_iconst (v := 0) hx hb dX4_swingIn_27 (by decide) ?_
    refine lv_iload_n hx hb dX4_swingIn_28 rfl (lv_at hl 0 rfl) ?_
    refine k_max X hl.1 (List.mem_of_getElem? (i := 3) rfl) (List.mem_of_getElem? (i := 4) rfl) (List.mem_of_getElem? (i := 5) rfl) (List.mem_of_getElem? (i := 6) rfl) (Nat.le_of_ble_eq_true rfl) (Nat.le_of_ble_eq_true rfl) (Nat.le_of_ble_eq_true rfl) (Nat.le_of_ble_eq_true rfl) dX4_swingIn_29 ?_
    exact fin _ _ _ _ _ w (by exact sw_b c1) dX4_swingIn_32
theorem hdX4_rateIn : yX4_rateIn.cls = RX4 ∧ yX4_rateIn.cls ≠ "java/lang/invoke/MethodHandle" ∧ yX4_rateIn.cls ≠ "java/lang/invoke/VarHandle" ∧ (parseMethodDescriptor yX4_rateIn.desc).map (fun d => d.parameters.length) = some 1 := ⟨rfl, by decide, by decide, by decide +kernel⟩
theorem iX4_rateIn_X4 : ∀ w ∈ wsX40, w ∈ wsX4_rateIn := fun _ h => List.mem_cons_of_mem _ (List.mem_append_right _ h)
set_option maxHeartbeats 4000000 in
set_option maxRecDepth 100000 in
theorem met_X4_rateIn (l : Launch) (D : va_G) (cI cJ cO : ClassId) (a : Nat) (wa : Nat) (z : Nat → Int32) (k : Nat) (hk : k < 6) : CI l D (TY cI cJ cO) yX4_rateIn wsX4_rateIn ({ frames := 2, cells := 0, slots := 0, locals := 43 }) [.ref a, .int (nI k)] [oW a wa z, aI cI wa 6 19 z] (rate z k) [oW a wa z, aI cI wa 6 19 z] := by
  refine CI.of (plainFor_of_name (by decide)) rfl (Nat.le_of_ble_eq_true rfl) (rfl) (fun p e s m below meth c A ls Q X hA w hl fin => ?_)
  obtain ⟨hx, hb, hml, hown, hts⟩ := id X.1
  have hl : lv_has ls 4 [(0, .ref a), (1, .int (nI k))] := hl
  refine lv_aload_n hx hb dX4_rateIn_0 rfl (lv_at hl 0 rfl) ?_
  refine lv_iload_n hx hb dX4_rateIn_1 rfl (lv_at hl 1 rfl) ?_
  refine k_ciR (k_runV X w (met_X4_swingIn l D cI cJ cO a wa z (nI k)  s.heap.size) gX4_rateIn_X4_swingIn rfl rfl rfl 1 hdX4_swingIn ⟨Nat.le_of_ble_eq_true rfl, Nat.le_of_ble_eq_true rfl⟩ [0, 1] rfl rfl 0 4 rfl rfl rfl rfl hl.1 rfl (Nat.le_of_ble_eq_true rfl) dX4_rateIn_2 ⟨Nat.le_of_ble_eq_true rfl, Nat.le_of_ble_eq_true rfl⟩) w hA [0, 1] rfl (fun H locs w => ?_)
  refine lv_istore_n (lv' := [(2, .int (swing z (nI k))), (0, .ref a), (1, .int (nI k))]) hx hb dX4_rateIn_5 rfl hl (by decide) rfl (fun ls hl => ?_)
  refine lv_aload_n hx hb dX4_rateIn_6 rfl (lv_at hl 1 rfl) ?_
  refine k_get X w 0 rfl rfl 1 (by decide) rfl iX4_rateIn_X4 (List.mem_of_getElem? (i := 1) rfl) (v := .int (z 2)) rfl dX4_rateIn_7 ?_
  refine lv_aload_n hx hb dX4_rateIn_10 rfl (lv_at hl 1 rfl) ?_
  refine lv_iload_n hx hb dX4_rateIn_11 rfl (lv_at hl 2 rfl) ?_
  refine k_ciR (k_runV X w (met_X4_weightOf l D cI cJ cO a wa z k (by first | assumption | omega) H.size) gX4_rateIn_X4_weightOf rfl rfl rfl 1 hdX4_weightOf ⟨Nat.le_of_ble_eq_true rfl, Nat.le_of_ble_eq_true rfl⟩ [0, 1] rfl rfl 0 4 rfl rfl rfl rfl hl.1 rfl (Nat.le_of_ble_eq_true rfl) dX4_rateIn_12 ⟨Nat.le_of_ble_eq_true rfl, Nat.le_of_ble_eq_true rfl⟩) w hA [0, 1] rfl (fun H locs w => ?_)
  refine lv_sipush (v := 360) hx hb dX4_rateIn_15 (by decide) ?_
  refine lv_iload_n hx hb dX4_rateIn_18 rfl (lv_at hl 0 rfl) ?_
  refine lv_isub hx hb dX4_rateIn_19 ?_
  refine lv_imul hx hb dX4_rateIn_20 ?_
  refine lv_bipush (v := 100) hx hb dX4_rateIn_21 (by decide) ?_
  refine k_ciR (k_runS X w (met_J9_floorDiv_7cf53 l D cI cJ cO ((z (19 + k)) * (360 - (swing z (nI k)))) 100 (by decide) H.size) gX4_rateIn_J9_floorDiv_7cf53 rfl rfl rfl 2 hdJ9_floorDiv_7cf53 ⟨Nat.le_of_ble_eq_true rfl, Nat.le_of_ble_eq_true rfl⟩ [] rfl rfl rfl hl.1 rfl (Nat.le_of_ble_eq_true rfl) dX4_rateIn_23 ⟨Nat.le_of_ble_eq_true rfl, Nat.le_of_ble_eq_true rfl⟩) w hA [] rfl (fun H locs w => ?_)
  refine lv_iadd hx hb dX4_rateIn_26 ?_
  refine lv_iconst (v := 2) hx hb dX4_rateIn_27 (by decide) ?_
  refine lv_aload_n hx hb dX4_rateIn_28 rfl (lv_at hl 1 rfl) ?_
  refine k_get X w 0 rfl rfl 4 (by decide) rfl iX4_rateIn_X4 (List.mem_of_getElem? (i := 2) rfl) (v := .int (z 4)) rfl dX4_rateIn_29 ?_
  refine lv_imul hx hb dX4_rateIn_32 ?_
  refine lv_iadd hx hb dX4_rateIn_33 ?_
  refine lv_istore_n (lv' := [(3, .int (((z 2) + (fdv ((z (19 + k)) * (360 - (swing z (nI k)))) 100)) + (2 * (z 4)))), (2, .int (swing z (nI k))), (0, .ref a), (1, .int (nI k))]) hx hb dX4_rateIn_34 rfl hl (by decide) rfl (fun ls hl => ?_)
  refine lv_aload_n hx hb dX4_rateIn_35 rfl (lv_at hl 2 rfl) ?_
  refine k_get X w 0 rfl rfl 4 (by decide) rfl iX4_rateIn_X4 (List.mem_of_getElem? (i := 2) rfl) (v := .int (z 4)) rfl dX4_rateIn_36 ?_
  refine lv_bipush (v := 50) hx hb dX4_rateIn_39 (by decide) ?_
  refine lv_icmp_le (tgt := 50) hx hb dX4_rateIn_41 (by decide) (fun c1 => ?_) (fun c1 => ?_)
  · refine lv_iload_n hx hb dX4_rateIn_50 rfl (lv_at hl 1 rfl) ?_
    refine lv_sipush (v := 300) hx hb dX4_rateIn_51 (by decide) ?_
    refine lv_icmp_le (tgt := 65) hx hb dX4_rateIn_54 (by decide) (fun c2 => ?_) (fun c2 => ?_)
    · refine lv_iload_n hx hb dX4_rateIn_65 rfl (lv_at hl 0 rfl) ?_
      exact fin _ _ _ _ _ w (by simp only [rate, rt0, c1, c2, if_true, if_false]) dX4_rateIn_66
    · refine lv_iload_n hx hb dX4_rateIn_57 rfl (lv_at hl 0 rfl) ?_
      refine lv_sipush (v := 600) hx hb dX4_rateIn_58 (by decide) ?_
      refine lv_iadd hx hb dX4_rateIn_61 ?_
      refine lv_goto (tgt := 66) hx hb dX4_rateIn_62 (by decide) ?_
      exact fin _ _ _ _ _ w (by simp only [rate, rt0, c1, c2, if_true, if_false]) dX4_rateIn_66
  · refine lv_iload_n hx hb dX4_rateIn_44 rfl (lv_at hl 0 rfl) ?_
    refine lv_sipush (v := 300) hx hb dX4_rateIn_45 (by decide) ?_
    refine lv_iadd hx hb dX4_rateIn_48 ?_
    exact fin _ _ _ _ _ w (by simp only [rate, rt0, c1, if_true, if_false]) dX4_rateIn_49
theorem hdX4_beatErrorIn : yX4_beatErrorIn.cls = RX4 ∧ yX4_beatErrorIn.cls ≠ "java/lang/invoke/MethodHandle" ∧ yX4_beatErrorIn.cls ≠ "java/lang/invoke/VarHandle" ∧ (parseMethodDescriptor yX4_beatErrorIn.desc).map (fun d => d.parameters.length) = some 1 := ⟨rfl, by decide, by decide, by decide +kernel⟩
theorem iX4_beatErrorIn_X4 : ∀ w ∈ wsX40, w ∈ wsX4_beatErrorIn := fun _ h => List.mem_cons_of_mem _ (List.mem_append_right _ h)
set_option maxHeartbeats 4000000 in
set_option maxRecDepth 100000 in
theorem met_X4_beatErrorIn (l : Launch) (D : va_G) (cI cJ cO : ClassId) (a : Nat) (wa : Nat) (z : Nat → Int32) (x : Int32)  : CI l D (TY cI cJ cO) yX4_beatErrorIn wsX4_beatErrorIn ({ frames := 1, cells := 0, slots := 0, locals := 21 }) [.ref a, .int x] [oW a wa z, aI cI wa 6 19 z] (beat z x) [oW a wa z, aI cI wa 6 19 z] := by
  refine CI.of (plainFor_of_name (by decide)) rfl (Nat.le_of_ble_eq_true rfl) (rfl) (fun p e s m below meth c A ls Q X hA w hl fin => ?_)
  obtain ⟨hx, hb, hml, hown, hts⟩ := id X.1
  have hl : lv_has ls 3 [(0, .ref a), (1, .int x)] := hl
  refine lv_aload_n hx hb dX4_beatErrorIn_0 rfl (lv_at hl 0 rfl) ?_
  refine k_get X w 0 rfl rfl 2 (by decide) rfl iX4_beatErrorIn_X4 (List.mem_of_getElem? (i := 1) rfl) (v := .int (z 3)) rfl dX4_beatErrorIn_1 ?_
  refine k_abs X hl.1 (List.mem_of_getElem? (i := 2) rfl) (List.mem_of_getElem? (i := 3) rfl) (List.mem_of_getElem? (i := 4) rfl) (List.mem_of_getElem? (i := 5) rfl) (Nat.le_of_ble_eq_true rfl) (Nat.le_of_ble_eq_true rfl) (Nat.le_of_ble_eq_true rfl) (Nat.le_of_ble_eq_true rfl) dX4_beatErrorIn_4 ?_
  refine lv_aload_n hx hb dX4_beatErrorIn_7 rfl (lv_at hl 0 rfl) ?_
  refine k_get X w 0 rfl rfl 5 (by decide) rfl iX4_beatErrorIn_X4 (List.mem_of_getElem? (i := 6) rfl) (v := .int (z 5)) rfl dX4_beatErrorIn_8 ?_
  refine lv_bipush (v := 10) hx hb dX4_beatErrorIn_11 (by decide) ?_
  refine lv_idiv hx hb dX4_beatErrorIn_13 (by decide) ?_
  refine lv_iadd hx hb dX4_beatErrorIn_14 ?_
  refine lv_istore_n (lv' := [(2, .int ((if 0 ≤ (z 3) then z 3 else 0 - (z 3)) + ((z 5) / 10))), (0, .ref a), (1, .int x)]) hx hb dX4_beatErrorIn_15 rfl hl (by decide) rfl (fun ls hl => ?_)
  refine lv_iload_n hx hb dX4_beatErrorIn_16 rfl (lv_at hl 2 rfl) ?_
  refine lv_iconst (v := 2) hx hb dX4_beatErrorIn_17 (by decide) ?_
  refine lv_icmp_lt (tgt := 27) hx hb dX4_beatErrorIn_18 (by decide) (fun c1 => ?_) (fun c1 => ?_)
  · refine lv_iload_n hx hb dX4_beatErrorIn_27 rfl (lv_at hl 0 rfl) ?_
    exact fin _ _ _ _ _ w (by exact bt_a c1) dX4_beatErrorIn_28
  · refine lv_iload_n hx hb dX4_beatErrorIn_21 rfl (lv_at hl 0 rfl) ?_
    refine lv_iconst (v := 2) hx hb dX4_beatErrorIn_22 (by decide) ?_
    refine lv_iadd hx hb dX4_beatErrorIn_23 ?_
    refine lv_goto (tgt := 28) hx hb dX4_beatErrorIn_24 (by decide) ?_
    exact fin _ _ _ _ _ w (by exact bt_b c1) dX4_beatErrorIn_28
theorem hdX4_goes : yX4_goes.cls = RX4 ∧ yX4_goes.cls ≠ "java/lang/invoke/MethodHandle" ∧ yX4_goes.cls ≠ "java/lang/invoke/VarHandle" ∧ (parseMethodDescriptor yX4_goes.desc).map (fun d => d.parameters.length) = some 0 := ⟨rfl, by decide, by decide, by decide +kernel⟩
theorem iX4_goes_X4 : ∀ w ∈ wsX40, w ∈ wsX4_goes := fun _ h => List.mem_cons_of_mem _ (List.mem_append_right _ h)
set_option maxHeartbeats 4000000 in
set_option maxRecDepth 100000 in
theorem met_X4_goes (l : Launch) (D : va_G) (cI cJ cO : ClassId) (a : Nat) (wa : Nat) (z : Nat → Int32) (k : Nat) (hz : z 6 = nI k) : CI l D (TY cI cJ cO) yX4_goes wsX4_goes ({ frames := 2, cells := 0, slots := 0, locals := 43 }) [.ref a] [oW a wa z, aI cI wa 6 19 z] (bI (goes z (nI k))) [oW a wa z, aI cI wa 6 19 z] := by
  refine CI.of (plainFor_of_name (by decide)) rfl (Nat.le_of_ble_eq_true rfl) (bI_n _) (fun p e s m below meth c A ls Q X hA w hl fin => ?_)
  obtain ⟨hx, hb, hml, hown, hts⟩ := id X.1
  have hl : lv_has ls 1 [(0, .ref a)] := hl
  refine lv_aload_n hx hb dX4_goes_0 rfl (lv_at hl 0 rfl) ?_
  refine k_get X w 0 rfl rfl 3 (by decide) rfl iX4_goes_X4 (List.mem_of_getElem? (i := 1) rfl) (v := .int (z 1)) rfl dX4_goes_1 ?_
  refine lv_if_le (tgt := 24) hx hb dX4_goes_4 (by decide) (fun c1 => ?_) (fun c1 => ?_)
  · refine lv_iconst (v := 0) hx hb dX4_goes_24 (by decide) ?_
    exact fin _ _ _ _ _ w (by simp [goes, bI, c1]) dX4_goes_25
  · refine lv_aload_n hx hb dX4_goes_7 rfl (lv_at hl 0 rfl) ?_
    refine lv_aload_n hx hb dX4_goes_8 rfl (lv_at hl 0 rfl) ?_
    refine k_get X w 0 rfl rfl 6 (by decide) rfl iX4_goes_X4 (List.mem_of_getElem? (i := 2) rfl) (v := .int (nI k)) (congrArg (fun t => some (Value.int t)) hz) dX4_goes_9 ?_
    refine k_ciR (k_runV X w (met_X4_swingIn l D cI cJ cO a wa z (nI k)  s.heap.size) gX4_goes_X4_swingIn rfl rfl rfl 1 hdX4_swingIn ⟨Nat.le_of_ble_eq_true rfl, Nat.le_of_ble_eq_true rfl⟩ [0, 1] rfl rfl 0 4 rfl rfl rfl rfl hl.1 rfl (Nat.le_of_ble_eq_true rfl) dX4_goes_12 ⟨Nat.le_of_ble_eq_true rfl, Nat.le_of_ble_eq_true rfl⟩) w hA [0, 1] rfl (fun H locs w => ?_)
    refine lv_bipush (v := 120) hx hb dX4_goes_15 (by decide) ?_
    refine lv_icmp_lt (tgt := 24) hx hb dX4_goes_17 (by decide) (fun c2 => ?_) (fun c2 => ?_)
    · refine lv_iconst (v := 0) hx hb dX4_goes_24 (by decide) ?_
      exact fin _ _ _ _ _ w (by simp [goes, bI, c1, c2]) dX4_goes_25
    · refine lv_iconst (v := 1) hx hb dX4_goes_20 (by decide) ?_
      refine lv_goto (tgt := 25) hx hb dX4_goes_21 (by decide) ?_
      exact fin _ _ _ _ _ w (by simp [goes, bI, c1, c2]) dX4_goes_25
theorem hdX4_runHour : yX4_runHour.cls = RX4 ∧ yX4_runHour.cls ≠ "java/lang/invoke/MethodHandle" ∧ yX4_runHour.cls ≠ "java/lang/invoke/VarHandle" ∧ (parseMethodDescriptor yX4_runHour.desc).map (fun d => d.parameters.length) = some 0 := ⟨rfl, by decide, by decide, by decide +kernel⟩
theorem iX4_runHour_X4 : ∀ w ∈ wsX40, w ∈ wsX4_runHour := fun _ h => List.mem_cons_of_mem _ (List.mem_append_right _ h)
set_option maxHeartbeats 4000000 in
set_option maxRecDepth 100000 in
theorem met_X4_runHour (l : Launch) (D : va_G) (cI cJ cO : ClassId) (a : Nat) (wa : Nat) (z : Nat → Int32) (k : Nat) (hz : z 6 = nI k) (hk : k < 6) : CV l D (TY cI cJ cO) yX4_runHour wsX4_runHour ({ frames := 3, cells := 0, slots := 0, locals := 66 }) [.ref a] [oW a wa z, aI cI wa 6 19 z] [oW a wa (hourF z k), aI cI wa 6 19 (hourF z k)] := by
  refine CV.of (plainFor_of_name (by decide)) rfl (Nat.le_of_ble_eq_true rfl) (fun p e s m below meth c A ls Q X hA w hl fin => ?_)
  obtain ⟨hx, hb, hml, hown, hts⟩ := id X.1
  have hl : lv_has ls 1 [(0, .ref a)] := hl
  refine lv_aload_n hx hb dX4_runHour_0 rfl (lv_at hl 0 rfl) ?_
  refine lv_dup hx hb dX4_runHour_1 rfl ?_
  refine k_get X w 0 rfl rfl 7 (by decide) rfl iX4_runHour_X4 (List.mem_of_getElem? (i := 1) rfl) (v := .int (z 0)) rfl dX4_runHour_2 ?_
  refine lv_iconst (v := 1) hx hb dX4_runHour_5 (by decide) ?_
  refine lv_iadd hx hb dX4_runHour_6 ?_
  refine k_put X w 0 rfl rfl 7 (by decide) rfl iX4_runHour_X4 (List.mem_of_getElem? (i := 1) rfl) tyX4_ok nmX4 rfl rfl (Nat.le_of_ble_eq_true rfl) (ws2 := [oW a wa (upd z 0 ((z 0) + 1)), aI cI wa 6 19 z]) rfl dX4_runHour_7 (fun H locs w => ?_)
  have w := w.to (show [oW a wa (upd z 0 ((z 0) + 1)), aI cI wa 6 19 z] = [oW a wa (tick z), aI cI wa 6 19 z] from rfl)
  refine lv_aload_n hx hb dX4_runHour_10 rfl (lv_at hl 0 rfl) ?_
  have h6 : tick z 6 = nI k := (tick_o z 6 (by decide) (by decide)).trans hz
  have w := w.to (show [oW a wa (tick z), aI cI wa 6 19 z] = [oW a wa (tick z), aI cI wa 6 19 (tick z)] by rw [show aI cI wa 6 19 z = aI cI wa 6 19 (tick z) from aI_c (fun k h1 h2 => (((tick_o _ _ (by omega) (by omega)).trans rfl)).symm)])
  refine k_ciR (k_runV X w (met_X4_goes l D cI cJ cO a wa (tick z) k h6 H.size) gX4_runHour_X4_goes rfl rfl rfl 0 hdX4_goes ⟨Nat.le_of_ble_eq_true rfl, Nat.le_of_ble_eq_true rfl⟩ [0, 1] rfl rfl 0 4 rfl rfl rfl rfl hl.1 rfl (Nat.le_of_ble_eq_true rfl) dX4_runHour_11 ⟨Nat.le_of_ble_eq_true rfl, Nat.le_of_ble_eq_true rfl⟩) w hA [0, 1] rfl (fun H locs w => ?_)
  refine lv_if_ne (tgt := 28) hx hb dX4_runHour_14 (by decide) (fun c1 => ?_) (fun c1 => ?_)
  · have c1 := bI_t c1
    refine lv_aload_n hx hb dX4_runHour_28 rfl (lv_at hl 0 rfl) ?_
    refine lv_dup hx hb dX4_runHour_29 rfl ?_
    refine k_get X w 0 rfl rfl 8 (by decide) rfl iX4_runHour_X4 (List.mem_of_getElem? (i := 3) rfl) (v := .int (z 7)) (congrArg (fun t => some (Value.int t)) ((tick_o _ 7 (by decide) (by decide)).trans rfl)) dX4_runHour_30 ?_
    refine lv_aload_n hx hb dX4_runHour_33 rfl (lv_at hl 0 rfl) ?_
    refine lv_aload_n hx hb dX4_runHour_34 rfl (lv_at hl 0 rfl) ?_
    refine k_get X w 0 rfl rfl 6 (by decide) rfl iX4_runHour_X4 (List.mem_of_getElem? (i := 4) rfl) (v := .int (nI k)) (congrArg (fun t => some (Value.int t)) (((tick_o _ 6 (by decide) (by decide)).trans rfl).trans hz)) dX4_runHour_35 ?_
    refine k_ciR (k_runV X w (met_X4_rateIn l D cI cJ cO a wa (tick z) k (by first | assumption | omega) H.size) gX4_runHour_X4_rateIn rfl rfl rfl 1 hdX4_rateIn ⟨Nat.le_of_ble_eq_true rfl, Nat.le_of_ble_eq_true rfl⟩ [0, 1] rfl rfl 0 4 rfl rfl rfl rfl hl.1 rfl (Nat.le_of_ble_eq_true rfl) dX4_runHour_38 ⟨Nat.le_of_ble_eq_true rfl, Nat.le_of_ble_eq_true rfl⟩) w hA [0, 1] rfl (fun H locs w => ?_)
    refine lv_bipush (v := 24) hx hb dX4_runHour_41 (by decide) ?_
    refine k_ciR (k_runS X w (met_J9_floorDiv_7cf53 l D cI cJ cO (rate (tick z) k) 24 (by decide) H.size) gX4_runHour_J9_floorDiv_7cf53 rfl rfl rfl 2 hdJ9_floorDiv_7cf53 ⟨Nat.le_of_ble_eq_true rfl, Nat.le_of_ble_eq_true rfl⟩ [] rfl rfl rfl hl.1 rfl (Nat.le_of_ble_eq_true rfl) dX4_runHour_43 ⟨Nat.le_of_ble_eq_true rfl, Nat.le_of_ble_eq_true rfl⟩) w hA [] rfl (fun H locs w => ?_)
    refine lv_iadd hx hb dX4_runHour_46 ?_
    refine k_put X w 0 rfl rfl 8 (by decide) rfl iX4_runHour_X4 (List.mem_of_getElem? (i := 3) rfl) tyX4_ok nmX4 rfl rfl (Nat.le_of_ble_eq_true rfl) (ws2 := [oW a wa (upd (tick z) 7 ((z 7) + (fdv (rate (tick z) k) 24))), aI cI wa 6 19 (tick z)]) rfl dX4_runHour_47 (fun H locs w => ?_)
    refine lv_aload_n hx hb dX4_runHour_50 rfl (lv_at hl 0 rfl) ?_
    refine lv_dup hx hb dX4_runHour_51 rfl ?_
    refine k_get X w 0 rfl rfl 3 (by decide) rfl iX4_runHour_X4 (List.mem_of_getElem? (i := 5) rfl) (v := .int (z 1)) (congrArg (fun t => some (Value.int t)) ((upd_no (by decide)).trans ((tick_o _ 1 (by decide) (by decide)).trans rfl))) dX4_runHour_52 ?_
    refine lv_iconst (v := 1) hx hb dX4_runHour_55 (by decide) ?_
    refine lv_isub hx hb dX4_runHour_56 ?_
    refine k_put X w 0 rfl rfl 3 (by decide) rfl iX4_runHour_X4 (List.mem_of_getElem? (i := 5) rfl) tyX4_ok nmX4 rfl rfl (Nat.le_of_ble_eq_true rfl) (ws2 := [oW a wa (upd (upd (tick z) 7 ((z 7) + (fdv (rate (tick z) k) 24))) 1 ((z 1) - 1)), aI cI wa 6 19 (tick z)]) rfl dX4_runHour_57 (fun H locs w => ?_)
    refine lv_aload_n hx hb dX4_runHour_60 rfl (lv_at hl 0 rfl) ?_
    refine lv_dup hx hb dX4_runHour_61 rfl ?_
    refine k_get X w 0 rfl rfl 10 (by decide) rfl iX4_runHour_X4 (List.mem_of_getElem? (i := 6) rfl) (v := .int (z 9)) (congrArg (fun t => some (Value.int t)) ((upd_no (by decide)).trans ((upd_no (by decide)).trans ((tick_o _ 9 (by decide) (by decide)).trans rfl)))) dX4_runHour_62 ?_
    refine lv_iconst (v := 1) hx hb dX4_runHour_65 (by decide) ?_
    refine lv_iadd hx hb dX4_runHour_66 ?_
    refine k_put X w 0 rfl rfl 10 (by decide) rfl iX4_runHour_X4 (List.mem_of_getElem? (i := 6) rfl) tyX4_ok nmX4 rfl rfl (Nat.le_of_ble_eq_true rfl) (ws2 := [oW a wa (upd (upd (upd (tick z) 7 ((z 7) + (fdv (rate (tick z) k) 24))) 1 ((z 1) - 1)) 9 ((z 9) + 1)), aI cI wa 6 19 (tick z)]) rfl dX4_runHour_67 (fun H locs w => ?_)
    refine lv_aload_n hx hb dX4_runHour_70 rfl (lv_at hl 0 rfl) ?_
    refine k_get X w 0 rfl rfl 10 (by decide) rfl iX4_runHour_X4 (List.mem_of_getElem? (i := 6) rfl) (v := .int ((z 9) + 1)) (congrArg (fun t => some (Value.int t)) (upd_is _ _ _)) dX4_runHour_71 ?_
    refine lv_bipush (v := 24) hx hb dX4_runHour_74 (by decide) ?_
    refine lv_irem hx hb dX4_runHour_76 (by decide) ?_
    refine lv_if_ne (tgt := 95) hx hb dX4_runHour_77 (by decide) (fun c2 => ?_) (fun c2 => ?_)
    · have w := w.to (show [oW a wa (upd (upd (upd (tick z) 7 ((z 7) + (fdv (rate (tick z) k) 24))) 1 ((z 1) - 1)) 9 ((z 9) + 1)), aI cI wa 6 19 (tick z)] = [oW a wa (upd (upd (upd (tick z) 7 ((z 7) + (fdv (rate (tick z) k) 24))) 1 ((z 1) - 1)) 9 ((z 9) + 1)), aI cI wa 6 19 (upd (upd (upd (tick z) 7 ((z 7) + (fdv (rate (tick z) k) 24))) 1 ((z 1) - 1)) 9 ((z 9) + 1))] by rw [show aI cI wa 6 19 (tick z) = aI cI wa 6 19 (upd (upd (upd (tick z) 7 ((z 7) + (fdv (rate (tick z) k) 24))) 1 ((z 1) - 1)) 9 ((z 9) + 1)) from aI_c (fun k h1 h2 => (((upd_no (by omega)).trans ((upd_no (by omega)).trans ((upd_no (by omega)).trans rfl)))).symm)])
      have ez : upd (upd (upd (tick z) 7 ((z 7) + (fdv (rate (tick z) k) 24))) 1 ((z 1) - 1)) 9 ((z 9) + 1) = hourF z k := by simp only [hourF, goneF, rem, mn_le, c1, c2, if_true, if_false, Bool.false_eq_true, reduceIte]
      rw [ez] at w
      exact fin _ _ _ _ w dX4_runHour_95
    · refine lv_aload_n hx hb dX4_runHour_80 rfl (lv_at hl 0 rfl) ?_
      refine lv_bipush (v := 100) hx hb dX4_runHour_81 (by decide) ?_
      refine lv_aload_n hx hb dX4_runHour_83 rfl (lv_at hl 0 rfl) ?_
      refine k_get X w 0 rfl rfl 5 (by decide) rfl iX4_runHour_X4 (List.mem_of_getElem? (i := 7) rfl) (v := .int (z 5)) (congrArg (fun t => some (Value.int t)) ((upd_no (by decide)).trans ((upd_no (by decide)).trans ((upd_no (by decide)).trans ((tick_o _ 5 (by decide) (by decide)).trans rfl))))) dX4_runHour_84 ?_
      refine lv_iconst (v := 1) hx hb dX4_runHour_87 (by decide) ?_
      refine lv_iadd hx hb dX4_runHour_88 ?_
      refine k_min X hl.1 (List.mem_of_getElem? (i := 8) rfl) (List.mem_of_getElem? (i := 9) rfl) (List.mem_of_getElem? (i := 10) rfl) (List.mem_of_getElem? (i := 11) rfl) (Nat.le_of_ble_eq_true rfl) (Nat.le_of_ble_eq_true rfl) (Nat.le_of_ble_eq_true rfl) (Nat.le_of_ble_eq_true rfl) dX4_runHour_89 ?_
      refine k_put X w 0 rfl rfl 5 (by decide) rfl iX4_runHour_X4 (List.mem_of_getElem? (i := 7) rfl) tyX4_ok nmX4 rfl rfl (Nat.le_of_ble_eq_true rfl) (ws2 := [oW a wa (upd (upd (upd (upd (tick z) 7 ((z 7) + (fdv (rate (tick z) k) 24))) 1 ((z 1) - 1)) 9 ((z 9) + 1)) 5 (if ((z 5) + 1) < 100 then (z 5) + 1 else 100)), aI cI wa 6 19 (tick z)]) rfl dX4_runHour_92 (fun H locs w => ?_)
      have w := w.to (show [oW a wa (upd (upd (upd (upd (tick z) 7 ((z 7) + (fdv (rate (tick z) k) 24))) 1 ((z 1) - 1)) 9 ((z 9) + 1)) 5 (if ((z 5) + 1) < 100 then (z 5) + 1 else 100)), aI cI wa 6 19 (tick z)] = [oW a wa (upd (upd (upd (upd (tick z) 7 ((z 7) + (fdv (rate (tick z) k) 24))) 1 ((z 1) - 1)) 9 ((z 9) + 1)) 5 (if ((z 5) + 1) < 100 then (z 5) + 1 else 100)), aI cI wa 6 19 (upd (upd (upd (upd (tick z) 7 ((z 7) + (fdv (rate (tick z) k) 24))) 1 ((z 1) - 1)) 9 ((z 9) + 1)) 5 (if ((z 5) + 1) < 100 then (z 5) + 1 else 100))] by rw [show aI cI wa 6 19 (tick z) = aI cI wa 6 19 (upd (upd (upd (upd (tick z) 7 ((z 7) + (fdv (rate (tick z) k) 24))) 1 ((z 1) - 1)) 9 ((z 9) + 1)) 5 (if ((z 5) + 1) < 100 then (z 5) + 1 else 100)) from aI_c (fun k h1 h2 => (((upd_no (by omega)).trans ((upd_no (by omega)).trans ((upd_no (by omega)).trans ((upd_no (by omega)).trans rfl))))).symm)])
      have ez : upd (upd (upd (upd (tick z) 7 ((z 7) + (fdv (rate (tick z) k) 24))) 1 ((z 1) - 1)) 9 ((z 9) + 1)) 5 (if ((z 5) + 1) < 100 then (z 5) + 1 else 100) = hourF z k := by simp only [hourF, goneF, rem, mn_le, c1, c2, if_true, if_false, Bool.false_eq_true, reduceIte]
      rw [ez] at w
      exact fin _ _ _ _ w dX4_runHour_95
  · have c1 := bI_f c1
    refine lv_aload_n hx hb dX4_runHour_17 rfl (lv_at hl 0 rfl) ?_
    refine lv_dup hx hb dX4_runHour_18 rfl ?_
    refine k_get X w 0 rfl rfl 9 (by decide) rfl iX4_runHour_X4 (List.mem_of_getElem? (i := 2) rfl) (v := .int (z 8)) (congrArg (fun t => some (Value.int t)) ((tick_o _ 8 (by decide) (by decide)).trans rfl)) dX4_runHour_19 ?_
    refine lv_iconst (v := 1) hx hb dX4_runHour_22 (by decide) ?_
    refine lv_iadd hx hb dX4_runHour_23 ?_
    refine k_put X w 0 rfl rfl 9 (by decide) rfl iX4_runHour_X4 (List.mem_of_getElem? (i := 2) rfl) tyX4_ok nmX4 rfl rfl (Nat.le_of_ble_eq_true rfl) (ws2 := [oW a wa (upd (tick z) 8 ((z 8) + 1)), aI cI wa 6 19 (tick z)]) rfl dX4_runHour_24 (fun H locs w => ?_)
    have w := w.to (show [oW a wa (upd (tick z) 8 ((z 8) + 1)), aI cI wa 6 19 (tick z)] = [oW a wa (upd (tick z) 8 ((z 8) + 1)), aI cI wa 6 19 (upd (tick z) 8 ((z 8) + 1))] by rw [show aI cI wa 6 19 (tick z) = aI cI wa 6 19 (upd (tick z) 8 ((z 8) + 1)) from aI_c (fun k h1 h2 => (((upd_no (by omega)).trans rfl)).symm)])
    have ez : upd (tick z) 8 ((z 8) + 1) = hourF z k := by simp only [hourF, goneF, rem, mn_le, c1, if_true, if_false, Bool.false_eq_true, reduceIte]
    rw [ez] at w
    exact fin _ _ _ _ w dX4_runHour_27
theorem hdX4_run : yX4_run.cls = RX4 ∧ yX4_run.cls ≠ "java/lang/invoke/MethodHandle" ∧ yX4_run.cls ≠ "java/lang/invoke/VarHandle" ∧ (parseMethodDescriptor yX4_run.desc).map (fun d => d.parameters.length) = some 1 := ⟨rfl, by decide, by decide, by decide +kernel⟩
theorem iX4_run_X4 : ∀ w ∈ wsX40, w ∈ wsX4_run := fun _ h => List.mem_cons_of_mem _ (List.mem_append_right _ h)
set_option maxHeartbeats 4000000 in
set_option maxRecDepth 100000 in
theorem met_X4_run (l : Launch) (D : va_G) (cI cJ cO : ClassId) (a : Nat) (wa : Nat) (z : Nat → Int32) (k : Nat) (N : Nat) (hz : z 6 = nI k) (hk : k < 6) (hN : N < 2 ^ 31) : CI l D (TY cI cJ cO) yX4_run wsX4_run ({ frames := 4, cells := 0, slots := 0, locals := 86 }) [.ref a, .int (nI N)] [oW a wa z, aI cI wa 6 19 z] (hoursF N z k 9 - z 9) [oW a wa (hoursF N z k), aI cI wa 6 19 (hoursF N z k)] := by
  refine CI.of (plainFor_of_name (by decide)) rfl (Nat.le_of_ble_eq_true rfl) (rfl) (fun p e s m below meth c A ls Q X hA w hl fin => ?_)
  obtain ⟨hx, hb, hml, hown, hts⟩ := id X.1
  have hl : lv_has ls 4 [(0, .ref a), (1, .int (nI N))] := hl
  refine lv_aload_n hx hb dX4_run_0 rfl (lv_at hl 0 rfl) ?_
  refine k_get X w 0 rfl rfl 10 (by decide) rfl iX4_run_X4 (List.mem_of_getElem? (i := 1) rfl) (v := .int (z 9)) rfl dX4_run_1 ?_
  refine lv_istore_n (lv' := [(2, .int (z 9)), (0, .ref a), (1, .int (nI N))]) hx hb dX4_run_4 rfl hl (by decide) rfl (fun ls hl => ?_)
  refine lv_iconst (v := 0) hx hb dX4_run_5 (by decide) ?_
  refine lv_istore_n (lv' := [(3, .int 0), (2, .int (z 9)), (0, .ref a), (1, .int (nI N))]) hx hb dX4_run_6 rfl hl (by decide) rfl (fun ls hl => ?_)
  have lp7 : ∀ (n : Nat) (i : Nat) (zz : Nat → Int32), i + n = N → zz 6 = nI k → hoursF n zz k = hoursF N z k → ∀ (H : Heap) (locs : List Loc) (ls : Array Slot), wd D A s.heap H locs ([oW a wa zz, aI cI wa 6 19 zz]) → lv_has ls 4 [(3, .int (nI i)), (2, .int (z 9)), (0, .ref a), (1, .int (nI N))] → W p l e ({ frames := 4, cells := 0, slots := 0, locals := 86 }) s m [.ref a, .int (nI N)].toArray below meth c H locs 0 0 Q (F0 m 7 ls []) := by
    intro n
    induction n with
    | zero =>
      intro i zz hi hzz he H locs ls w hl
      replace hi : i = N := hi
      refine lv_iload_n hx hb dX4_run_7 rfl (lv_at hl 0 rfl) ?_
      refine lv_iload_n hx hb dX4_run_8 rfl (lv_at hl 3 rfl) ?_
      refine lv_icmp_ge (tgt := 22) hx hb dX4_run_9 (by decide) (fun c1 => ?_) (fun c1 => absurd (nI_le (by omega) (by omega)) c1)
      refine lv_aload_n hx hb dX4_run_22 rfl (lv_at hl 2 rfl) ?_
      refine k_get X w 0 rfl rfl 10 (by decide) rfl iX4_run_X4 (List.mem_of_getElem? (i := 1) rfl) (v := .int (zz 9)) rfl dX4_run_23 ?_
      refine lv_iload_n hx hb dX4_run_26 rfl (lv_at hl 1 rfl) ?_
      refine lv_isub hx hb dX4_run_27 ?_
      have ez : zz = hoursF N z k := by exact he
      rw [ez] at w
      exact fin _ _ _ _ _ w (by rw [← he]; rfl) dX4_run_28
    | succ n ih =>
      intro i zz hi hzz he H locs ls w hl
      refine lv_iload_n hx hb dX4_run_7 rfl (lv_at hl 0 rfl) ?_
      refine lv_iload_n hx hb dX4_run_8 rfl (lv_at hl 3 rfl) ?_
      refine lv_icmp_ge (tgt := 22) hx hb dX4_run_9 (by decide) (fun c2 => absurd c2 (nI_ge (by omega) (by omega))) (fun c2 => ?_)
      refine lv_aload_n hx hb dX4_run_12 rfl (lv_at hl 2 rfl) ?_
      refine k_cv (wr := []) (ws2 := [oW a wa (hourF zz k), aI cI wa 6 19 (hourF zz k)]) (k_runV X w (met_X4_runHour l D cI cJ cO a wa zz k hzz hk H.size) gX4_run_X4_runHour rfl rfl rfl 0 hdX4_runHour ⟨Nat.le_of_ble_eq_true rfl, Nat.le_of_ble_eq_true rfl⟩ [0, 1] rfl rfl 0 4 rfl rfl rfl rfl hl.1 rfl (Nat.le_of_ble_eq_true rfl) dX4_run_13 ⟨Nat.le_of_ble_eq_true rfl, Nat.le_of_ble_eq_true rfl⟩) w hA [0, 1] [] rfl rfl rfl (by decide) [0, 1] rfl rfl (fun H locs w => ?_)
      refine lv_iinc (v := nI (i + 1)) (lv' := [(3, .int (nI (i + 1))), (2, .int (z 9)), (0, .ref a), (1, .int (nI N))]) hx hb dX4_run_16 hl (k := 0) rfl (nI_1 _) (by decide) rfl (fun ls hl => ?_)
      refine lv_goto (tgt := 7) hx hb dX4_run_19 (by decide) ?_
      exact ih (i + 1) (hourF zz k) (by omega) ((hourF_6 _ _).trans hzz) he _ _ _ w (lv_sub hl [0, 1, 2, 3] rfl)
  exact lp7 N 0 z (Nat.zero_add _) hz rfl _ _ _ w (lv_sub hl [0, 1, 2, 3] rfl)
theorem hdX4_copyFrom : yX4_copyFrom.cls = RX4 ∧ yX4_copyFrom.cls ≠ "java/lang/invoke/MethodHandle" ∧ yX4_copyFrom.cls ≠ "java/lang/invoke/VarHandle" ∧ (parseMethodDescriptor yX4_copyFrom.desc).map (fun d => d.parameters.length) = some 1 := ⟨rfl, by decide, by decide, by decide +kernel⟩
theorem iX4_copyFrom_X4 : ∀ w ∈ wsX40, w ∈ wsX4_copyFrom := fun _ h => List.mem_cons_of_mem _ (List.mem_append_right _ h)
set_option maxHeartbeats 4000000 in
set_option maxRecDepth 100000 in
theorem met_X4_copyFrom (l : Launch) (D : va_G) (cI cJ cO : ClassId) (a : Nat) (wa : Nat) (z : Nat → Int32) (b : Nat) (wb : Nat) (v : Nat → Int32)  : CV l D (TY cI cJ cO) yX4_copyFrom wsX4_copyFrom ({ frames := 1, cells := 0, slots := 0, locals := 60 }) [.ref a, .ref b] [oW a wa z, aI cI wa 6 19 z, oW b wb v, aI cI wb 6 19 v] [oW a wa v, aI cI wa 6 19 v, oW b wb v, aI cI wb 6 19 v] := by
  refine CV.of (plainFor_of_name (by decide)) rfl (Nat.le_of_ble_eq_true rfl) (fun p e s m below meth c A ls Q X hA w hl fin => ?_)
  obtain ⟨hx, hb, hml, hown, hts⟩ := id X.1
  have hl : lv_has ls 2 [(0, .ref a), (1, .ref b)] := hl
  refine lv_aload_n hx hb dX4_copyFrom_0 rfl (lv_at hl 1 rfl) ?_
  refine k_get X w 2 rfl rfl 0 (by decide) rfl iX4_copyFrom_X4 (List.mem_of_getElem? (i := 1) rfl) (v := .ref wb) rfl dX4_copyFrom_1 ?_
  refine lv_iconst (v := 0) hx hb dX4_copyFrom_4 (by decide) ?_
  refine lv_aload_n hx hb dX4_copyFrom_5 rfl (lv_at hl 0 rfl) ?_
  refine k_get X w 0 rfl rfl 0 (by decide) rfl iX4_copyFrom_X4 (List.mem_of_getElem? (i := 1) rfl) (v := .ref wa) rfl dX4_copyFrom_6 ?_
  refine lv_iconst (v := 0) hx hb dX4_copyFrom_9 (by decide) ?_
  refine lv_bipush (v := 6) hx hb dX4_copyFrom_10 (by decide) ?_
  refine k_copy X hl.1 (List.mem_of_getElem? (i := 2) rfl) (List.mem_of_getElem? (i := 3) rfl) (List.mem_of_getElem? (i := 4) rfl) (List.mem_of_getElem? (i := 5) rfl) w 3 1 0 rfl rfl rfl rfl (by decide) (Nat.le_of_ble_eq_true rfl) (Nat.le_of_ble_eq_true rfl) (ws2 := [oW a wa z, aI cI wa 6 19 v, oW b wb v, aI cI wb 6 19 v]) rfl dX4_copyFrom_12 (fun H locs w => ?_)
  refine lv_aload_n hx hb dX4_copyFrom_15 rfl (lv_at hl 0 rfl) ?_
  refine lv_aload_n hx hb dX4_copyFrom_16 rfl (lv_at hl 1 rfl) ?_
  refine k_get X w 2 rfl rfl 1 (by decide) rfl iX4_copyFrom_X4 (List.mem_of_getElem? (i := 6) rfl) (v := .int (v 2)) rfl dX4_copyFrom_17 ?_
  refine k_put X w 0 rfl rfl 1 (by decide) rfl iX4_copyFrom_X4 (List.mem_of_getElem? (i := 6) rfl) tyX4_ok nmX4 rfl rfl (Nat.le_of_ble_eq_true rfl) (ws2 := [oW a wa (upd z 2 (v 2)), aI cI wa 6 19 v, oW b wb v, aI cI wb 6 19 v]) rfl dX4_copyFrom_20 (fun H locs w => ?_)
  refine lv_aload_n hx hb dX4_copyFrom_23 rfl (lv_at hl 0 rfl) ?_
  refine lv_aload_n hx hb dX4_copyFrom_24 rfl (lv_at hl 1 rfl) ?_
  refine k_get X w 2 rfl rfl 2 (by decide) rfl iX4_copyFrom_X4 (List.mem_of_getElem? (i := 7) rfl) (v := .int (v 3)) rfl dX4_copyFrom_25 ?_
  refine k_put X w 0 rfl rfl 2 (by decide) rfl iX4_copyFrom_X4 (List.mem_of_getElem? (i := 7) rfl) tyX4_ok nmX4 rfl rfl (Nat.le_of_ble_eq_true rfl) (ws2 := [oW a wa (upd (upd z 2 (v 2)) 3 (v 3)), aI cI wa 6 19 v, oW b wb v, aI cI wb 6 19 v]) rfl dX4_copyFrom_28 (fun H locs w => ?_)
  refine lv_aload_n hx hb dX4_copyFrom_31 rfl (lv_at hl 0 rfl) ?_
  refine lv_aload_n hx hb dX4_copyFrom_32 rfl (lv_at hl 1 rfl) ?_
  refine k_get X w 2 rfl rfl 3 (by decide) rfl iX4_copyFrom_X4 (List.mem_of_getElem? (i := 8) rfl) (v := .int (v 1)) rfl dX4_copyFrom_33 ?_
  refine k_put X w 0 rfl rfl 3 (by decide) rfl iX4_copyFrom_X4 (List.mem_of_getElem? (i := 8) rfl) tyX4_ok nmX4 rfl rfl (Nat.le_of_ble_eq_true rfl) (ws2 := [oW a wa (upd (upd (upd z 2 (v 2)) 3 (v 3)) 1 (v 1)), aI cI wa 6 19 v, oW b wb v, aI cI wb 6 19 v]) rfl dX4_copyFrom_36 (fun H locs w => ?_)
  refine lv_aload_n hx hb dX4_copyFrom_39 rfl (lv_at hl 0 rfl) ?_
  refine lv_aload_n hx hb dX4_copyFrom_40 rfl (lv_at hl 1 rfl) ?_
  refine k_get X w 2 rfl rfl 4 (by decide) rfl iX4_copyFrom_X4 (List.mem_of_getElem? (i := 9) rfl) (v := .int (v 4)) rfl dX4_copyFrom_41 ?_
  refine k_put X w 0 rfl rfl 4 (by decide) rfl iX4_copyFrom_X4 (List.mem_of_getElem? (i := 9) rfl) tyX4_ok nmX4 rfl rfl (Nat.le_of_ble_eq_true rfl) (ws2 := [oW a wa (upd (upd (upd (upd z 2 (v 2)) 3 (v 3)) 1 (v 1)) 4 (v 4)), aI cI wa 6 19 v, oW b wb v, aI cI wb 6 19 v]) rfl dX4_copyFrom_44 (fun H locs w => ?_)
  refine lv_aload_n hx hb dX4_copyFrom_47 rfl (lv_at hl 0 rfl) ?_
  refine lv_aload_n hx hb dX4_copyFrom_48 rfl (lv_at hl 1 rfl) ?_
  refine k_get X w 2 rfl rfl 5 (by decide) rfl iX4_copyFrom_X4 (List.mem_of_getElem? (i := 10) rfl) (v := .int (v 5)) rfl dX4_copyFrom_49 ?_
  refine k_put X w 0 rfl rfl 5 (by decide) rfl iX4_copyFrom_X4 (List.mem_of_getElem? (i := 10) rfl) tyX4_ok nmX4 rfl rfl (Nat.le_of_ble_eq_true rfl) (ws2 := [oW a wa (upd (upd (upd (upd (upd z 2 (v 2)) 3 (v 3)) 1 (v 1)) 4 (v 4)) 5 (v 5)), aI cI wa 6 19 v, oW b wb v, aI cI wb 6 19 v]) rfl dX4_copyFrom_52 (fun H locs w => ?_)
  refine lv_aload_n hx hb dX4_copyFrom_55 rfl (lv_at hl 0 rfl) ?_
  refine lv_aload_n hx hb dX4_copyFrom_56 rfl (lv_at hl 1 rfl) ?_
  refine k_get X w 2 rfl rfl 6 (by decide) rfl iX4_copyFrom_X4 (List.mem_of_getElem? (i := 11) rfl) (v := .int (v 6)) rfl dX4_copyFrom_57 ?_
  refine k_put X w 0 rfl rfl 6 (by decide) rfl iX4_copyFrom_X4 (List.mem_of_getElem? (i := 11) rfl) tyX4_ok nmX4 rfl rfl (Nat.le_of_ble_eq_true rfl) (ws2 := [oW a wa (upd (upd (upd (upd (upd (upd z 2 (v 2)) 3 (v 3)) 1 (v 1)) 4 (v 4)) 5 (v 5)) 6 (v 6)), aI cI wa 6 19 v, oW b wb v, aI cI wb 6 19 v]) rfl dX4_copyFrom_60 (fun H locs w => ?_)
  refine lv_aload_n hx hb dX4_copyFrom_63 rfl (lv_at hl 0 rfl) ?_
  refine lv_aload_n hx hb dX4_copyFrom_64 rfl (lv_at hl 1 rfl) ?_
  refine k_get X w 2 rfl rfl 7 (by decide) rfl iX4_copyFrom_X4 (List.mem_of_getElem? (i := 12) rfl) (v := .int (v 0)) rfl dX4_copyFrom_65 ?_
  refine k_put X w 0 rfl rfl 7 (by decide) rfl iX4_copyFrom_X4 (List.mem_of_getElem? (i := 12) rfl) tyX4_ok nmX4 rfl rfl (Nat.le_of_ble_eq_true rfl) (ws2 := [oW a wa (upd (upd (upd (upd (upd (upd (upd z 2 (v 2)) 3 (v 3)) 1 (v 1)) 4 (v 4)) 5 (v 5)) 6 (v 6)) 0 (v 0)), aI cI wa 6 19 v, oW b wb v, aI cI wb 6 19 v]) rfl dX4_copyFrom_68 (fun H locs w => ?_)
  refine lv_aload_n hx hb dX4_copyFrom_71 rfl (lv_at hl 0 rfl) ?_
  refine lv_aload_n hx hb dX4_copyFrom_72 rfl (lv_at hl 1 rfl) ?_
  refine k_get X w 2 rfl rfl 8 (by decide) rfl iX4_copyFrom_X4 (List.mem_of_getElem? (i := 13) rfl) (v := .int (v 7)) rfl dX4_copyFrom_73 ?_
  refine k_put X w 0 rfl rfl 8 (by decide) rfl iX4_copyFrom_X4 (List.mem_of_getElem? (i := 13) rfl) tyX4_ok nmX4 rfl rfl (Nat.le_of_ble_eq_true rfl) (ws2 := [oW a wa (upd (upd (upd (upd (upd (upd (upd (upd z 2 (v 2)) 3 (v 3)) 1 (v 1)) 4 (v 4)) 5 (v 5)) 6 (v 6)) 0 (v 0)) 7 (v 7)), aI cI wa 6 19 v, oW b wb v, aI cI wb 6 19 v]) rfl dX4_copyFrom_76 (fun H locs w => ?_)
  refine lv_aload_n hx hb dX4_copyFrom_79 rfl (lv_at hl 0 rfl) ?_
  refine lv_aload_n hx hb dX4_copyFrom_80 rfl (lv_at hl 1 rfl) ?_
  refine k_get X w 2 rfl rfl 9 (by decide) rfl iX4_copyFrom_X4 (List.mem_of_getElem? (i := 14) rfl) (v := .int (v 8)) rfl dX4_copyFrom_81 ?_
  refine k_put X w 0 rfl rfl 9 (by decide) rfl iX4_copyFrom_X4 (List.mem_of_getElem? (i := 14) rfl) tyX4_ok nmX4 rfl rfl (Nat.le_of_ble_eq_true rfl) (ws2 := [oW a wa (upd (upd (upd (upd (upd (upd (upd (upd (upd z 2 (v 2)) 3 (v 3)) 1 (v 1)) 4 (v 4)) 5 (v 5)) 6 (v 6)) 0 (v 0)) 7 (v 7)) 8 (v 8)), aI cI wa 6 19 v, oW b wb v, aI cI wb 6 19 v]) rfl dX4_copyFrom_84 (fun H locs w => ?_)
  refine lv_aload_n hx hb dX4_copyFrom_87 rfl (lv_at hl 0 rfl) ?_
  refine lv_aload_n hx hb dX4_copyFrom_88 rfl (lv_at hl 1 rfl) ?_
  refine k_get X w 2 rfl rfl 10 (by decide) rfl iX4_copyFrom_X4 (List.mem_of_getElem? (i := 15) rfl) (v := .int (v 9)) rfl dX4_copyFrom_89 ?_
  refine k_put X w 0 rfl rfl 10 (by decide) rfl iX4_copyFrom_X4 (List.mem_of_getElem? (i := 15) rfl) tyX4_ok nmX4 rfl rfl (Nat.le_of_ble_eq_true rfl) (ws2 := [oW a wa (upd (upd (upd (upd (upd (upd (upd (upd (upd (upd z 2 (v 2)) 3 (v 3)) 1 (v 1)) 4 (v 4)) 5 (v 5)) 6 (v 6)) 0 (v 0)) 7 (v 7)) 8 (v 8)) 9 (v 9)), aI cI wa 6 19 v, oW b wb v, aI cI wb 6 19 v]) rfl dX4_copyFrom_92 (fun H locs w => ?_)
  have w := w.to (show [oW a wa (upd (upd (upd (upd (upd (upd (upd (upd (upd (upd z 2 (v 2)) 3 (v 3)) 1 (v 1)) 4 (v 4)) 5 (v 5)) 6 (v 6)) 0 (v 0)) 7 (v 7)) 8 (v 8)) 9 (v 9)), aI cI wa 6 19 v, oW b wb v, aI cI wb 6 19 v] = [oW a wa v, aI cI wa 6 19 v, oW b wb v, aI cI wb 6 19 v] from rfl)
  exact fin _ _ _ _ w dX4_copyFrom_95
