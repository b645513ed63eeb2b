theorem hdX0_beginPart : yX0_beginPart.cls = RX0 ∧ yX0_beginPart.cls ≠ "java/lang/invoke/MethodHandle" ∧ yX0_beginPart.cls ≠ "java/lang/invoke/VarHandle" ∧ (parseMethodDescriptor yX0_beginPart.desc).map (fun d => d.parameters.length) = some 0 := ⟨rfl, by decide, by decide, by decide +kernel⟩
theorem iX0_beginPart_X0 : ∀ w ∈ wsX00, w ∈ wsX0_beginPart := fun _ h => List.mem_cons_of_mem _ (List.mem_append_right _ h)
set_option maxHeartbeats 4000000 in
set_option maxRecDepth 100000 in
theorem met_X0_beginPart (l : Launch) (D : va_G) (cI cJ cO : ClassId) (b : Nat) (tc : Nat) (tk : Nat) (tn : Nat) (t : Nat → Int32)  : CV l D (TY cI cJ cO) yX0_beginPart wsX0_beginPart ({ frames := 0, cells := 0, slots := 0, locals := 0 }) [.ref b] [oT b tc tk tn t] [oT b tc tk tn (bgn t)] := by
  refine CV.of (plainFor_of_name (by decide)) rfl (Nat.le_of_ble_eq_true rfl) (fun p e s m below meth c A ls Q X hA w hl fin => ?_)
  obtain ⟨hx, hb, hml, hown, hts⟩ := id X.1
  have hl : lv_has ls 1 [(0, .ref b)] := hl
  refine lv_aload_n hx hb dX0_beginPart_0 rfl (lv_at hl 0 rfl) ?_
  refine lv_iconst (v := 0) hx hb dX0_beginPart_1 (by decide) ?_
  refine k_put X w 0 rfl rfl 5 (by decide) rfl iX0_beginPart_X0 (List.mem_of_getElem? (i := 1) rfl) tyX0_ok nmX0 rfl rfl (Nat.le_of_ble_eq_true rfl) (ws2 := [oT b tc tk tn (upd t 2 0)]) rfl dX0_beginPart_2 (fun H locs w => ?_)
  refine lv_aload_n hx hb dX0_beginPart_5 rfl (lv_at hl 0 rfl) ?_
  refine lv_iconst (v := 0) hx hb dX0_beginPart_6 (by decide) ?_
  refine k_put X w 0 rfl rfl 6 (by decide) rfl iX0_beginPart_X0 (List.mem_of_getElem? (i := 2) rfl) tyX0_ok nmX0 rfl rfl (Nat.le_of_ble_eq_true rfl) (ws2 := [oT b tc tk tn (upd (upd t 2 0) 3 0)]) rfl dX0_beginPart_7 (fun H locs w => ?_)
  refine lv_aload_n hx hb dX0_beginPart_10 rfl (lv_at hl 0 rfl) ?_
  refine lv_iconst (v := 0) hx hb dX0_beginPart_11 (by decide) ?_
  refine k_put X w 0 rfl rfl 7 (by decide) rfl iX0_beginPart_X0 (List.mem_of_getElem? (i := 3) rfl) tyX0_ok nmX0 rfl rfl (Nat.le_of_ble_eq_true rfl) (ws2 := [oT b tc tk tn (upd (upd (upd t 2 0) 3 0) 4 0)]) rfl dX0_beginPart_12 (fun H locs w => ?_)
  refine lv_aload_n hx hb dX0_beginPart_15 rfl (lv_at hl 0 rfl) ?_
  refine lv_iconst (v := 0) hx hb dX0_beginPart_16 (by decide) ?_
  refine k_put X w 0 rfl rfl 8 (by decide) rfl iX0_beginPart_X0 (List.mem_of_getElem? (i := 4) rfl) tyX0_ok nmX0 rfl rfl (Nat.le_of_ble_eq_true rfl) (ws2 := [oT b tc tk tn (upd (upd (upd (upd t 2 0) 3 0) 4 0) 5 0)]) rfl dX0_beginPart_17 (fun H locs w => ?_)
  have ez : upd (upd (upd (upd t 2 0) 3 0) 4 0) 5 0 = bgn t := by rfl
  rw [ez] at w
  exact fin _ _ _ _ w dX0_beginPart_20
theorem hdX0_isPartWhole : yX0_isPartWhole.cls = RX0 ∧ yX0_isPartWhole.cls ≠ "java/lang/invoke/MethodHandle" ∧ yX0_isPartWhole.cls ≠ "java/lang/invoke/VarHandle" ∧ (parseMethodDescriptor yX0_isPartWhole.desc).map (fun d => d.parameters.length) = some 0 := ⟨rfl, by decide, by decide, by decide +kernel⟩
theorem iX0_isPartWhole_X0 : ∀ w ∈ wsX00, w ∈ wsX0_isPartWhole := fun _ h => List.mem_cons_of_mem _ (List.mem_append_right _ h)
set_option maxHeartbeats 4000000 in
set_option maxRecDepth 100000 in
theorem met_X0_isPartWhole (l : Launch) (D : va_G) (cI cJ cO : ClassId) (b : Nat) (tc : Nat) (tk : Nat) (tn : Nat) (t : Nat → Int32)  : CI l D (TY cI cJ cO) yX0_isPartWhole wsX0_isPartWhole ({ frames := 0, cells := 0, slots := 0, locals := 0 }) [.ref b] [oT b tc tk tn t] (bI (whole t)) [oT b tc tk tn t] := by
  refine CI.of (plainFor_of_name (by decide)) rfl (Nat.le_of_ble_eq_true rfl) (bI_n _) (fun p e s m below meth c A ls Q X hA w hl fin => ?_)
  obtain ⟨hx, hb, hml, hown, hts⟩ := id X.1
  have hl : lv_has ls 1 [(0, .ref b)] := hl
  refine lv_aload_n hx hb dX0_isPartWhole_0 rfl (lv_at hl 0 rfl) ?_
  refine k_get X w 0 rfl rfl 5 (by decide) rfl iX0_isPartWhole_X0 (List.mem_of_getElem? (i := 1) rfl) (v := .int (t 2)) rfl dX0_isPartWhole_1 ?_
  refine lv_bipush (v := 100) hx hb dX0_isPartWhole_4 (by decide) ?_
  refine lv_icmp_eq (tgt := 16) hx hb dX0_isPartWhole_6 (by decide) (fun c1 => ?_) (fun c1 => ?_)
  · refine lv_iconst (v := 1) hx hb dX0_isPartWhole_16 (by decide) ?_
    refine lv_goto (tgt := 21) hx hb dX0_isPartWhole_17 (by decide) ?_
    exact fin _ _ _ _ _ w (by simp [whole, bI, c1]) dX0_isPartWhole_21
  · refine lv_aload_n hx hb dX0_isPartWhole_9 rfl (lv_at hl 0 rfl) ?_
    refine k_get X w 0 rfl rfl 7 (by decide) rfl iX0_isPartWhole_X0 (List.mem_of_getElem? (i := 2) rfl) (v := .int (t 4)) rfl dX0_isPartWhole_10 ?_
    refine lv_if_le (tgt := 20) hx hb dX0_isPartWhole_13 (by decide) (fun c2 => ?_) (fun c2 => ?_)
    · refine lv_iconst (v := 0) hx hb dX0_isPartWhole_20 (by decide) ?_
      exact fin _ _ _ _ _ w (by simp [whole, bI, c1, c2]) dX0_isPartWhole_21
    · refine lv_iconst (v := 1) hx hb dX0_isPartWhole_16 (by decide) ?_
      refine lv_goto (tgt := 21) hx hb dX0_isPartWhole_17 (by decide) ?_
      exact fin _ _ _ _ _ w (by simp [whole, bI, c1, c2]) dX0_isPartWhole_21
theorem hdX0_leastNumber : yX0_leastNumber.cls = RX0 ∧ yX0_leastNumber.cls ≠ "java/lang/invoke/MethodHandle" ∧ yX0_leastNumber.cls ≠ "java/lang/invoke/VarHandle" ∧ (parseMethodDescriptor yX0_leastNumber.desc).map (fun d => d.parameters.length) = some 0 := ⟨rfl, by decide, by decide, by decide +kernel⟩
theorem iX0_leastNumber_X0 : ∀ w ∈ wsX00, w ∈ wsX0_leastNumber := fun _ h => List.mem_cons_of_mem _ (List.mem_append_right _ h)
set_option maxHeartbeats 4000000 in
set_option maxRecDepth 100000 in
theorem met_X0_leastNumber (l : Launch) (D : va_G) (cI cJ cO : ClassId) (b : Nat) (tc : Nat) (tk : Nat) (tn : Nat) (t : Nat → Int32)  : CI l D (TY cI cJ cO) yX0_leastNumber wsX0_leastNumber ({ frames := 0, cells := 0, slots := 0, locals := 0 }) [.ref b] [oT b tc tk tn t] (lst t) [oT b tc tk tn t] := by
  refine CI.of (plainFor_of_name (by decide)) rfl (Nat.le_of_ble_eq_true rfl) (rfl) (fun p e s m below meth c A ls Q X hA w hl fin => ?_)
  obtain ⟨hx, hb, hml, hown, hts⟩ := id X.1
  have hl : lv_has ls 1 [(0, .ref b)] := hl
  refine lv_aload_n hx hb dX0_leastNumber_0 rfl (lv_at hl 0 rfl) ?_
  refine k_get X w 0 rfl rfl 5 (by decide) rfl iX0_leastNumber_X0 (List.mem_of_getElem? (i := 1) rfl) (v := .int (t 2)) rfl dX0_leastNumber_1 ?_
  refine lv_bipush (v := 119) hx hb dX0_leastNumber_4 (by decide) ?_
  refine lv_icmp_eq (tgt := 25) hx hb dX0_leastNumber_6 (by decide) (fun c1 => ?_) (fun c1 => ?_)
  · refine lv_iconst (v := 1) hx hb dX0_leastNumber_25 (by decide) ?_
    refine lv_goto (tgt := 30) hx hb dX0_leastNumber_26 (by decide) ?_
    exact fin _ _ _ _ _ w (by simp [lst, c1]) dX0_leastNumber_30
  · refine lv_aload_n hx hb dX0_leastNumber_9 rfl (lv_at hl 0 rfl) ?_
    refine k_get X w 0 rfl rfl 5 (by decide) rfl iX0_leastNumber_X0 (List.mem_of_getElem? (i := 1) rfl) (v := .int (t 2)) rfl dX0_leastNumber_10 ?_
    refine lv_bipush (v := 43) hx hb dX0_leastNumber_13 (by decide) ?_
    refine lv_icmp_eq (tgt := 25) hx hb dX0_leastNumber_15 (by decide) (fun c2 => ?_) (fun c2 => ?_)
    · refine lv_iconst (v := 1) hx hb dX0_leastNumber_25 (by decide) ?_
      refine lv_goto (tgt := 30) hx hb dX0_leastNumber_26 (by decide) ?_
      exact fin _ _ _ _ _ w (by simp [lst, c1, c2]) dX0_leastNumber_30
    · refine lv_aload_n hx hb dX0_leastNumber_18 rfl (lv_at hl 0 rfl) ?_
      refine k_get X w 0 rfl rfl 6 (by decide) rfl iX0_leastNumber_X0 (List.mem_of_getElem? (i := 2) rfl) (v := .int (t 3)) rfl dX0_leastNumber_19 ?_
      refine lv_if_eq (tgt := 29) hx hb dX0_leastNumber_22 (by decide) (fun c3 => ?_) (fun c3 => ?_)
      · refine lv_iconst (v := 0) hx hb dX0_leastNumber_29 (by decide) ?_
        exact fin _ _ _ _ _ w (by simp [lst, c1, c2, c3]) dX0_leastNumber_30
      · refine lv_iconst (v := 1) hx hb dX0_leastNumber_25 (by decide) ?_
        refine lv_goto (tgt := 30) hx hb dX0_leastNumber_26 (by decide) ?_
        exact fin _ _ _ _ _ w (by simp [lst, c1, c2, c3]) dX0_leastNumber_30
theorem hdX0_mostNumber : yX0_mostNumber.cls = RX0 ∧ yX0_mostNumber.cls ≠ "java/lang/invoke/MethodHandle" ∧ yX0_mostNumber.cls ≠ "java/lang/invoke/VarHandle" ∧ (parseMethodDescriptor yX0_mostNumber.desc).map (fun d => d.parameters.length) = some 0 := ⟨rfl, by decide, by decide, by decide +kernel⟩
theorem iX0_mostNumber_X0 : ∀ w ∈ wsX00, w ∈ wsX0_mostNumber := fun _ h => List.mem_cons_of_mem _ (List.mem_append_right _ h)
set_option maxHeartbeats 4000000 in
set_option maxRecDepth 100000 in
theorem met_X0_mostNumber (l : Launch) (D : va_G) (cI cJ cO : ClassId) (b : Nat) (tc : Nat) (tk : Nat) (tn : Nat) (t : Nat → Int32)  : CI l D (TY cI cJ cO) yX0_mostNumber wsX0_mostNumber ({ frames := 0, cells := 0, slots := 0, locals := 0 }) [.ref b] [oT b tc tk tn t] (mst t) [oT b tc tk tn t] := by
  refine CI.of (plainFor_of_name (by decide)) rfl (Nat.le_of_ble_eq_true rfl) (rfl) (fun p e s m below meth c A ls Q X hA w hl fin => ?_)
  obtain ⟨hx, hb, hml, hown, hts⟩ := id X.1
  have hl : lv_has ls 1 [(0, .ref b)] := hl
  refine lv_aload_n hx hb dX0_mostNumber_0 rfl (lv_at hl 0 rfl) ?_
  refine k_get X w 0 rfl rfl 5 (by decide) rfl iX0_mostNumber_X0 (List.mem_of_getElem? (i := 1) rfl) (v := .int (t 2)) rfl dX0_mostNumber_1 ?_
  by_cases c1 : t 2 = 43
  · refine lv_lookup (off := 60) (tgt := 64) hx hb dX0_mostNumber_4 rfl (by rw [c1]; decide) (by decide) ?_
    refine lv_bipush (v := 99) hx hb dX0_mostNumber_64 (by decide) ?_
    exact fin _ _ _ _ _ w (by simp [mst, c1]) dX0_mostNumber_66
  by_cases c2 : t 2 = 103
  · refine lv_lookup (off := 57) (tgt := 61) hx hb dX0_mostNumber_4 rfl (by rw [c2]; decide) (by decide) ?_
    refine lv_bipush (v := 99) hx hb dX0_mostNumber_61 (by decide) ?_
    exact fin _ _ _ _ _ w (by simp [mst, c1, c2]) dX0_mostNumber_63
  by_cases c3 : t 2 = 112
  · refine lv_lookup (off := 55) (tgt := 59) hx hb dX0_mostNumber_4 rfl (by rw [c3]; decide) (by decide) ?_
    refine lv_iconst (v := 5) hx hb dX0_mostNumber_59 (by decide) ?_
    exact fin _ _ _ _ _ w (by simp [mst, c1, c2, c3]) dX0_mostNumber_60
  by_cases c4 : t 2 = 114
  · refine lv_lookup (off := 55) (tgt := 59) hx hb dX0_mostNumber_4 rfl (by rw [c4]; decide) (by decide) ?_
    refine lv_iconst (v := 5) hx hb dX0_mostNumber_59 (by decide) ?_
    exact fin _ _ _ _ _ w (by simp [mst, c1, c2, c3, c4]) dX0_mostNumber_60
  by_cases c5 : t 2 = 119
  · refine lv_lookup (off := 52) (tgt := 56) hx hb dX0_mostNumber_4 rfl (by rw [c5]; decide) (by decide) ?_
    refine lv_bipush (v := 48) hx hb dX0_mostNumber_56 (by decide) ?_
    exact fin _ _ _ _ _ w (by simp [mst, c1, c2, c3, c4, c5]) dX0_mostNumber_58
  refine lv_lookup (off := 63) (tgt := 67) hx hb dX0_mostNumber_4 rfl ((lv_osw c1 (by decide)).trans ((lv_osw c2 (by decide)).trans ((lv_osw c3 (by decide)).trans ((lv_osw c4 (by decide)).trans ((lv_osw c5 (by decide)).trans rfl))))) (by decide) ?_
  refine lv_iconst (v := (-1)) hx hb dX0_mostNumber_67 (by decide) ?_
  exact fin _ _ _ _ _ w (by simp [mst, c1, c2, c3, c4, c5]) dX0_mostNumber_68
theorem hdX0_takesKind : yX0_takesKind.cls = RX0 ∧ yX0_takesKind.cls ≠ "java/lang/invoke/MethodHandle" ∧ yX0_takesKind.cls ≠ "java/lang/invoke/VarHandle" ∧ (parseMethodDescriptor yX0_takesKind.desc).map (fun d => d.parameters.length) = some 1 := ⟨rfl, by decide, by decide, by decide +kernel⟩
theorem iX0_takesKind_X0 : ∀ w ∈ wsX00, w ∈ wsX0_takesKind := fun _ h => List.mem_cons_of_mem _ (List.mem_append_right _ h)
set_option maxHeartbeats 4000000 in
set_option maxRecDepth 100000 in
theorem met_X0_takesKind (l : Launch) (D : va_G) (cI cJ cO : ClassId) (b : Nat) (tc : Nat) (tk : Nat) (tn : Nat) (t : Nat → Int32) (ch : Int32)  : CI l D (TY cI cJ cO) yX0_takesKind wsX0_takesKind ({ frames := 0, cells := 0, slots := 0, locals := 0 }) [.ref b, .int ch] [oT b tc tk tn t] (bI (isK ch)) [oT b tc tk tn (kF t ch)] := by
  refine CI.of (plainFor_of_name (by decide)) rfl (Nat.le_of_ble_eq_true rfl) (bI_n _) (fun p e s m below meth c A ls Q X hA w hl fin => ?_)
  obtain ⟨hx, hb, hml, hown, hts⟩ := id X.1
  have hl : lv_has ls 2 [(0, .ref b), (1, .int ch)] := hl
  refine lv_iload_n hx hb dX0_takesKind_0 rfl (lv_at hl 1 rfl) ?_
  by_cases c1 : ch = 43
  · refine lv_lookup (off := 59) (tgt := 60) hx hb dX0_takesKind_1 rfl (by rw [c1]; decide) (by decide) ?_
    refine lv_aload_n hx hb dX0_takesKind_60 rfl (lv_at hl 0 rfl) ?_
    refine lv_iload_n hx hb dX0_takesKind_61 rfl (lv_at hl 1 rfl) ?_
    refine k_put X w 0 rfl rfl 5 (by decide) rfl iX0_takesKind_X0 (List.mem_of_getElem? (i := 1) rfl) tyX0_ok nmX0 rfl rfl (Nat.le_of_ble_eq_true rfl) (ws2 := [oT b tc tk tn (upd t 2 ch)]) rfl dX0_takesKind_62 (fun H locs w => ?_)
    refine lv_iconst (v := 1) hx hb dX0_takesKind_65 (by decide) ?_
    have ez : upd t 2 ch = kF t ch := by simp [kF, isK, c1]
    rw [ez] at w
    exact fin _ _ _ _ _ w (by simp [isK, bI, c1]) dX0_takesKind_66
  by_cases c2 : ch = 100
  · refine lv_lookup (off := 59) (tgt := 60) hx hb dX0_takesKind_1 rfl (by rw [c2]; decide) (by decide) ?_
    refine lv_aload_n hx hb dX0_takesKind_60 rfl (lv_at hl 0 rfl) ?_
    refine lv_iload_n hx hb dX0_takesKind_61 rfl (lv_at hl 1 rfl) ?_
    refine k_put X w 0 rfl rfl 5 (by decide) rfl iX0_takesKind_X0 (List.mem_of_getElem? (i := 1) rfl) tyX0_ok nmX0 rfl rfl (Nat.le_of_ble_eq_true rfl) (ws2 := [oT b tc tk tn (upd t 2 ch)]) rfl dX0_takesKind_62 (fun H locs w => ?_)
    refine lv_iconst (v := 1) hx hb dX0_takesKind_65 (by decide) ?_
    have ez : upd t 2 ch = kF t ch := by simp [kF, isK, c1, c2]
    rw [ez] at w
    exact fin _ _ _ _ _ w (by simp [isK, bI, c1, c2]) dX0_takesKind_66
  by_cases c3 : ch = 103
  · refine lv_lookup (off := 59) (tgt := 60) hx hb dX0_takesKind_1 rfl (by rw [c3]; decide) (by decide) ?_
    refine lv_aload_n hx hb dX0_takesKind_60 rfl (lv_at hl 0 rfl) ?_
    refine lv_iload_n hx hb dX0_takesKind_61 rfl (lv_at hl 1 rfl) ?_
    refine k_put X w 0 rfl rfl 5 (by decide) rfl iX0_takesKind_X0 (List.mem_of_getElem? (i := 1) rfl) tyX0_ok nmX0 rfl rfl (Nat.le_of_ble_eq_true rfl) (ws2 := [oT b tc tk tn (upd t 2 ch)]) rfl dX0_takesKind_62 (fun H locs w => ?_)
    refine lv_iconst (v := 1) hx hb dX0_takesKind_65 (by decide) ?_
    have ez : upd t 2 ch = kF t ch := by simp [kF, isK, c1, c2, c3]
    rw [ez] at w
    exact fin _ _ _ _ _ w (by simp [isK, bI, c1, c2, c3]) dX0_takesKind_66
  by_cases c4 : ch = 112
  · refine lv_lookup (off := 59) (tgt := 60) hx hb dX0_takesKind_1 rfl (by rw [c4]; decide) (by decide) ?_
    refine lv_aload_n hx hb dX0_takesKind_60 rfl (lv_at hl 0 rfl) ?_
    refine lv_iload_n hx hb dX0_takesKind_61 rfl (lv_at hl 1 rfl) ?_
    refine k_put X w 0 rfl rfl 5 (by decide) rfl iX0_takesKind_X0 (List.mem_of_getElem? (i := 1) rfl) tyX0_ok nmX0 rfl rfl (Nat.le_of_ble_eq_true rfl) (ws2 := [oT b tc tk tn (upd t 2 ch)]) rfl dX0_takesKind_62 (fun H locs w => ?_)
    refine lv_iconst (v := 1) hx hb dX0_takesKind_65 (by decide) ?_
    have ez : upd t 2 ch = kF t ch := by simp [kF, isK, c1, c2, c3, c4]
    rw [ez] at w
    exact fin _ _ _ _ _ w (by simp [isK, bI, c1, c2, c3, c4]) dX0_takesKind_66
  by_cases c5 : ch = 114
  · refine lv_lookup (off := 59) (tgt := 60) hx hb dX0_takesKind_1 rfl (by rw [c5]; decide) (by decide) ?_
    refine lv_aload_n hx hb dX0_takesKind_60 rfl (lv_at hl 0 rfl) ?_
    refine lv_iload_n hx hb dX0_takesKind_61 rfl (lv_at hl 1 rfl) ?_
    refine k_put X w 0 rfl rfl 5 (by decide) rfl iX0_takesKind_X0 (List.mem_of_getElem? (i := 1) rfl) tyX0_ok nmX0 rfl rfl (Nat.le_of_ble_eq_true rfl) (ws2 := [oT b tc tk tn (upd t 2 ch)]) rfl dX0_takesKind_62 (fun H locs w => ?_)
    refine lv_iconst (v := 1) hx hb dX0_takesKind_65 (by decide) ?_
    have ez : upd t 2 ch = kF t ch := by simp [kF, isK, c1, c2, c3, c4, c5]
    rw [ez] at w
    exact fin _ _ _ _ _ w (by simp [isK, bI, c1, c2, c3, c4, c5]) dX0_takesKind_66
  by_cases c6 : ch = 119
  · refine lv_lookup (off := 59) (tgt := 60) hx hb dX0_takesKind_1 rfl (by rw [c6]; decide) (by decide) ?_
    refine lv_aload_n hx hb dX0_takesKind_60 rfl (lv_at hl 0 rfl) ?_
    refine lv_iload_n hx hb dX0_takesKind_61 rfl (lv_at hl 1 rfl) ?_
    refine k_put X w 0 rfl rfl 5 (by decide) rfl iX0_takesKind_X0 (List.mem_of_getElem? (i := 1) rfl) tyX0_ok nmX0 rfl rfl (Nat.le_of_ble_eq_true rfl) (ws2 := [oT b tc tk tn (upd t 2 ch)]) rfl dX0_takesKind_62 (fun H locs w => ?_)
    refine lv_iconst (v := 1) hx hb dX0_takesKind_65 (by decide) ?_
    have ez : upd t 2 ch = kF t ch := by simp [kF, isK, c1, c2, c3, c4, c5, c6]
    rw [ez] at w
    exact fin _ _ _ _ _ w (by simp [isK, bI, c1, c2, c3, c4, c5, c6]) dX0_takesKind_66
  refine lv_lookup (off := 66) (tgt := 67) hx hb dX0_takesKind_1 rfl ((lv_osw c1 (by decide)).trans ((lv_osw c2 (by decide)).trans ((lv_osw c3 (by decide)).trans ((lv_osw c4 (by decide)).trans ((lv_osw c5 (by decide)).trans ((lv_osw c6 (by decide)).trans rfl)))))) (by decide) ?_
  refine lv_iconst (v := 0) hx hb dX0_takesKind_67 (by decide) ?_
  have ez : t = kF t ch := by simp [kF, isK, c1, c2, c3, c4, c5, c6]
  rw [ez] at w
  exact fin _ _ _ _ _ w (by simp [isK, bI, c1, c2, c3, c4, c5, c6]) dX0_takesKind_68
theorem hdX0_takesMinus : yX0_takesMinus.cls = RX0 ∧ yX0_takesMinus.cls ≠ "java/lang/invoke/MethodHandle" ∧ yX0_takesMinus.cls ≠ "java/lang/invoke/VarHandle" ∧ (parseMethodDescriptor yX0_takesMinus.desc).map (fun d => d.parameters.length) = some 0 := ⟨rfl, by decide, by decide, by decide +kernel⟩
theorem iX0_takesMinus_X0 : ∀ w ∈ wsX00, w ∈ wsX0_takesMinus := fun _ h => List.mem_cons_of_mem _ (List.mem_append_right _ h)
set_option maxHeartbeats 4000000 in
set_option maxRecDepth 100000 in
theorem met_X0_takesMinus (l : Launch) (D : va_G) (cI cJ cO : ClassId) (b : Nat) (tc : Nat) (tk : Nat) (tn : Nat) (t : Nat → Int32)  : CI l D (TY cI cJ cO) yX0_takesMinus wsX0_takesMinus ({ frames := 0, cells := 0, slots := 0, locals := 0 }) [.ref b] [oT b tc tk tn t] (bI (mB t)) [oT b tc tk tn (mF t)] := by
  refine CI.of (plainFor_of_name (by decide)) rfl (Nat.le_of_ble_eq_true rfl) (bI_n _) (fun p e s m below meth c A ls Q X hA w hl fin => ?_)
  obtain ⟨hx, hb, hml, hown, hts⟩ := id X.1
  have hl : lv_has ls 1 [(0, .ref b)] := hl
  refine lv_aload_n hx hb dX0_takesMinus_0 rfl (lv_at hl 0 rfl) ?_
  refine k_get X w 0 rfl rfl 5 (by decide) rfl iX0_takesMinus_X0 (List.mem_of_getElem? (i := 1) rfl) (v := .int (t 2)) rfl dX0_takesMinus_1 ?_
  refine lv_bipush (v := 103) hx hb dX0_takesMinus_4 (by decide) ?_
  refine lv_icmp_ne (tgt := 23) hx hb dX0_takesMinus_6 (by decide) (fun c1 => ?_) (fun c1 => ?_)
  · refine lv_iconst (v := 0) hx hb dX0_takesMinus_23 (by decide) ?_
    have ez : t = mF t := by simp [mF, mB, c1]
    rw [ez] at w
    exact fin _ _ _ _ _ w (by simp [mB, bI, c1]) dX0_takesMinus_24
  · refine lv_aload_n hx hb dX0_takesMinus_9 rfl (lv_at hl 0 rfl) ?_
    refine k_get X w 0 rfl rfl 6 (by decide) rfl iX0_takesMinus_X0 (List.mem_of_getElem? (i := 2) rfl) (v := .int (t 3)) rfl dX0_takesMinus_10 ?_
    refine lv_if_ne (tgt := 23) hx hb dX0_takesMinus_13 (by decide) (fun c2 => ?_) (fun c2 => ?_)
    · refine lv_iconst (v := 0) hx hb dX0_takesMinus_23 (by decide) ?_
      have ez : t = mF t := by simp [mF, mB, c1, c2]
      rw [ez] at w
      exact fin _ _ _ _ _ w (by simp [mB, bI, c1, c2]) dX0_takesMinus_24
    · refine lv_aload_n hx hb dX0_takesMinus_16 rfl (lv_at hl 0 rfl) ?_
      refine k_get X w 0 rfl rfl 7 (by decide) rfl iX0_takesMinus_X0 (List.mem_of_getElem? (i := 3) rfl) (v := .int (t 4)) rfl dX0_takesMinus_17 ?_
      refine lv_if_le (tgt := 25) hx hb dX0_takesMinus_20 (by decide) (fun c3 => ?_) (fun c3 => ?_)
      · refine lv_aload_n hx hb dX0_takesMinus_25 rfl (lv_at hl 0 rfl) ?_
        refine lv_iconst (v := 1) hx hb dX0_takesMinus_26 (by decide) ?_
        refine k_put X w 0 rfl rfl 6 (by decide) rfl iX0_takesMinus_X0 (List.mem_of_getElem? (i := 2) rfl) tyX0_ok nmX0 rfl rfl (Nat.le_of_ble_eq_true rfl) (ws2 := [oT b tc tk tn (upd t 3 1)]) rfl dX0_takesMinus_27 (fun H locs w => ?_)
        refine lv_iconst (v := 1) hx hb dX0_takesMinus_30 (by decide) ?_
        have ez : upd t 3 1 = mF t := by simp [mF, mB, c1, c2, c3]
        rw [ez] at w
        exact fin _ _ _ _ _ w (by simp [mB, bI, c1, c2, c3]) dX0_takesMinus_31
      · refine lv_iconst (v := 0) hx hb dX0_takesMinus_23 (by decide) ?_
        have ez : t = mF t := by simp [mF, mB, c1, c2, c3]
        rw [ez] at w
        exact fin _ _ _ _ _ w (by simp [mB, bI, c1, c2, c3]) dX0_takesMinus_24
theorem hdX0_takesDigit : yX0_takesDigit.cls = RX0 ∧ yX0_takesDigit.cls ≠ "java/lang/invoke/MethodHandle" ∧ yX0_takesDigit.cls ≠ "java/lang/invoke/VarHandle" ∧ (parseMethodDescriptor yX0_takesDigit.desc).map (fun d => d.parameters.length) = some 1 := ⟨rfl, by decide, by decide, by decide +kernel⟩
theorem iX0_takesDigit_X0 : ∀ w ∈ wsX00, w ∈ wsX0_takesDigit := fun _ h => List.mem_cons_of_mem _ (List.mem_append_right _ h)
set_option maxHeartbeats 4000000 in
set_option maxRecDepth 100000 in
theorem met_X0_takesDigit (l : Launch) (D : va_G) (cI cJ cO : ClassId) (b : Nat) (tc : Nat) (tk : Nat) (tn : Nat) (t : Nat → Int32) (d : Int32)  : CI l D (TY cI cJ cO) yX0_takesDigit wsX0_takesDigit ({ frames := 1, cells := 0, slots := 0, locals := 20 }) [.ref b, .int d] [oT b tc tk tn t] (bI (dB t d)) [oT b tc tk tn (dF t d)] := by
  refine CI.of (plainFor_of_name (by decide)) rfl (Nat.le_of_ble_eq_true rfl) (bI_n _) (fun p e s m below meth c A ls Q X hA w hl fin => ?_)
  obtain ⟨hx, hb, hml, hown, hts⟩ := id X.1
  have hl : lv_has ls 4 [(0, .ref b), (1, .int d)] := hl
  refine lv_aload_n hx hb dX0_takesDigit_0 rfl (lv_at hl 0 rfl) ?_
  refine k_get X w 0 rfl rfl 7 (by decide) rfl iX0_takesDigit_X0 (List.mem_of_getElem? (i := 1) rfl) (v := .int (t 4)) rfl dX0_takesDigit_1 ?_
  refine lv_if_le (tgt := 18) hx hb dX0_takesDigit_4 (by decide) (fun c1 => ?_) (fun c1 => ?_)
  · refine lv_iconst (v := 0) hx hb dX0_takesDigit_18 (by decide) ?_
    refine lv_istore_n (lv' := [(2, .int 0), (0, .ref b), (1, .int d)]) hx hb dX0_takesDigit_19 rfl hl (by decide) rfl (fun ls hl => ?_)
    refine lv_bipush (v := 10) hx hb dX0_takesDigit_20 (by decide) ?_
    refine lv_aload_n hx hb dX0_takesDigit_22 rfl (lv_at hl 1 rfl) ?_
    refine k_get X w 0 rfl rfl 8 (by decide) rfl iX0_takesDigit_X0 (List.mem_of_getElem? (i := 2) rfl) (v := .int (t 5)) rfl dX0_takesDigit_23 ?_
    refine lv_imul hx hb dX0_takesDigit_26 ?_
    refine lv_iload_n hx hb dX0_takesDigit_27 rfl (lv_at hl 2 rfl) ?_
    refine lv_iadd hx hb dX0_takesDigit_28 ?_
    refine lv_istore_n (lv' := [(3, .int ((10 * (t 5)) + d)), (2, .int 0), (0, .ref b), (1, .int d)]) hx hb dX0_takesDigit_29 rfl hl (by decide) rfl (fun ls hl => ?_)
    refine lv_iload_n hx hb dX0_takesDigit_30 rfl (lv_at hl 3 rfl) ?_
    refine lv_if_lt (tgt := 60) hx hb dX0_takesDigit_31 (by decide) (fun c2 => ?_) (fun c2 => ?_)
    · refine lv_iconst (v := 0) hx hb dX0_takesDigit_60 (by decide) ?_
      have ez : t = dF t d := by simp [dF, dB, c1, c2]
      rw [ez] at w
      exact fin _ _ _ _ _ w (by simp [dB, bI, c1, c2]) dX0_takesDigit_61
    · refine lv_iload_n hx hb dX0_takesDigit_34 rfl (lv_at hl 3 rfl) ?_
      refine lv_bipush (v := 9) hx hb dX0_takesDigit_35 (by decide) ?_
      refine lv_icmp_gt (tgt := 60) hx hb dX0_takesDigit_37 (by decide) (fun c3 => ?_) (fun c3 => ?_)
      · refine lv_iconst (v := 0) hx hb dX0_takesDigit_60 (by decide) ?_
        have ez : t = dF t d := by simp [dF, dB, c1, c2, c3]
        rw [ez] at w
        exact fin _ _ _ _ _ w (by simp [dB, bI, c1, c2, c3]) dX0_takesDigit_61
      · refine lv_iload_n hx hb dX0_takesDigit_40 rfl (lv_at hl 1 rfl) ?_
        refine lv_if_ne (tgt := 60) hx hb dX0_takesDigit_41 (by decide) (fun c4 => absurd c4 (by decide)) (fun c4 => ?_)
        refine lv_iload_n hx hb dX0_takesDigit_44 rfl (lv_at hl 0 rfl) ?_
        refine lv_aload_n hx hb dX0_takesDigit_45 rfl (lv_at hl 2 rfl) ?_
        refine k_ciR (k_runV X w (met_X0_leastNumber l D cI cJ cO b tc tk tn t  s.heap.size) gX0_takesDigit_X0_leastNumber rfl rfl rfl 0 hdX0_leastNumber ⟨Nat.le_of_ble_eq_true rfl, Nat.le_of_ble_eq_true rfl⟩ [0] rfl rfl 0 0 rfl rfl rfl rfl hl.1 rfl (Nat.le_of_ble_eq_true rfl) dX0_takesDigit_46 ⟨Nat.le_of_ble_eq_true rfl, Nat.le_of_ble_eq_true rfl⟩) w hA [0] rfl (fun H locs w => ?_)
        refine lv_icmp_lt (tgt := 60) hx hb dX0_takesDigit_49 (by decide) (fun c5 => ?_) (fun c5 => ?_)
        · refine lv_iconst (v := 0) hx hb dX0_takesDigit_60 (by decide) ?_
          have ez : t = dF t d := by simp [dF, dB, c1, c2, c3, c4, c5]
          rw [ez] at w
          exact fin _ _ _ _ _ w (by simp [dB, bI, c1, c2, c3, c4, c5]) dX0_takesDigit_61
        · refine lv_iload_n hx hb dX0_takesDigit_52 rfl (lv_at hl 0 rfl) ?_
          refine lv_aload_n hx hb dX0_takesDigit_53 rfl (lv_at hl 2 rfl) ?_
          refine k_ciR (k_runV X w (met_X0_mostNumber l D cI cJ cO b tc tk tn t  H.size) gX0_takesDigit_X0_mostNumber rfl rfl rfl 0 hdX0_mostNumber ⟨Nat.le_of_ble_eq_true rfl, Nat.le_of_ble_eq_true rfl⟩ [0] rfl rfl 0 0 rfl rfl rfl rfl hl.1 rfl (Nat.le_of_ble_eq_true rfl) dX0_takesDigit_54 ⟨Nat.le_of_ble_eq_true rfl, Nat.le_of_ble_eq_true rfl⟩) w hA [0] rfl (fun H locs w => ?_)
          refine lv_icmp_le (tgt := 62) hx hb dX0_takesDigit_57 (by decide) (fun c6 => ?_) (fun c6 => ?_)
          · refine lv_aload_n hx hb dX0_takesDigit_62 rfl (lv_at hl 2 rfl) ?_
            refine lv_dup hx hb dX0_takesDigit_63 rfl ?_
            refine k_get X w 0 rfl rfl 7 (by decide) rfl iX0_takesDigit_X0 (List.mem_of_getElem? (i := 1) rfl) (v := .int (t 4)) rfl dX0_takesDigit_64 ?_
            refine lv_iconst (v := 1) hx hb dX0_takesDigit_67 (by decide) ?_
            refine lv_iadd hx hb dX0_takesDigit_68 ?_
            refine k_put X w 0 rfl rfl 7 (by decide) rfl iX0_takesDigit_X0 (List.mem_of_getElem? (i := 1) rfl) tyX0_ok nmX0 rfl rfl (Nat.le_of_ble_eq_true rfl) (ws2 := [oT b tc tk tn (upd t 4 ((t 4) + 1))]) rfl dX0_takesDigit_69 (fun H locs w => ?_)
            refine lv_aload_n hx hb dX0_takesDigit_72 rfl (lv_at hl 2 rfl) ?_
            refine lv_iload_n hx hb dX0_takesDigit_73 rfl (lv_at hl 0 rfl) ?_
            refine k_put X w 0 rfl rfl 8 (by decide) rfl iX0_takesDigit_X0 (List.mem_of_getElem? (i := 2) rfl) tyX0_ok nmX0 rfl rfl (Nat.le_of_ble_eq_true rfl) (ws2 := [oT b tc tk tn (upd (upd t 4 ((t 4) + 1)) 5 ((10 * (t 5)) + d))]) rfl dX0_takesDigit_74 (fun H locs w => ?_)
            refine lv_iconst (v := 1) hx hb dX0_takesDigit_77 (by decide) ?_
            have ez : upd (upd t 4 ((t 4) + 1)) 5 ((10 * (t 5)) + d) = dF t d := by simp [dF, dB, c1, c2, c3, c4, c5, c6]
            rw [ez] at w
            exact fin _ _ _ _ _ w (by simp [dB, bI, c1, c2, c3, c4, c5, c6]) dX0_takesDigit_78
          · refine lv_iconst (v := 0) hx hb dX0_takesDigit_60 (by decide) ?_
            have ez : t = dF t d := by simp [dF, dB, c1, c2, c3, c4, c5, c6]
            rw [ez] at w
            exact fin _ _ _ _ _ w (by simp [dB, bI, c1, c2, c3, c4, c5, c6]) dX0_takesDigit_61
  · refine lv_aload_n hx hb dX0_takesDigit_7 rfl (lv_at hl 0 rfl) ?_
    refine k_get X w 0 rfl rfl 8 (by decide) rfl iX0_takesDigit_X0 (List.mem_of_getElem? (i := 2) rfl) (v := .int (t 5)) rfl dX0_takesDigit_8 ?_
    refine lv_if_ne (tgt := 18) hx hb dX0_takesDigit_11 (by decide) (fun c7 => ?_) (fun c7 => ?_)
    · refine lv_iconst (v := 0) hx hb dX0_takesDigit_18 (by decide) ?_
      refine lv_istore_n (lv' := [(2, .int 0), (0, .ref b), (1, .int d)]) hx hb dX0_takesDigit_19 rfl hl (by decide) rfl (fun ls hl => ?_)
      refine lv_bipush (v := 10) hx hb dX0_takesDigit_20 (by decide) ?_
      refine lv_aload_n hx hb dX0_takesDigit_22 rfl (lv_at hl 1 rfl) ?_
      refine k_get X w 0 rfl rfl 8 (by decide) rfl iX0_takesDigit_X0 (List.mem_of_getElem? (i := 2) rfl) (v := .int (t 5)) rfl dX0_takesDigit_23 ?_
      refine lv_imul hx hb dX0_takesDigit_26 ?_
      refine lv_iload_n hx hb dX0_takesDigit_27 rfl (lv_at hl 2 rfl) ?_
      refine lv_iadd hx hb dX0_takesDigit_28 ?_
      refine lv_istore_n (lv' := [(3, .int ((10 * (t 5)) + d)), (2, .int 0), (0, .ref b), (1, .int d)]) hx hb dX0_takesDigit_29 rfl hl (by decide) rfl (fun ls hl => ?_)
      refine lv_iload_n hx hb dX0_takesDigit_30 rfl (lv_at hl 3 rfl) ?_
      refine lv_if_lt (tgt := 60) hx hb dX0_takesDigit_31 (by decide) (fun c8 => ?_) (fun c8 => ?_)
      · refine lv_iconst (v := 0) hx hb dX0_takesDigit_60 (by decide) ?_
        have ez : t = dF t d := by simp [dF, dB, c1, c7, c8]
        rw [ez] at w
        exact fin _ _ _ _ _ w (by simp [dB, bI, c1, c7, c8]) dX0_takesDigit_61
      · refine lv_iload_n hx hb dX0_takesDigit_34 rfl (lv_at hl 3 rfl) ?_
        refine lv_bipush (v := 9) hx hb dX0_takesDigit_35 (by decide) ?_
        refine lv_icmp_gt (tgt := 60) hx hb dX0_takesDigit_37 (by decide) (fun c9 => ?_) (fun c9 => ?_)
        · refine lv_iconst (v := 0) hx hb dX0_takesDigit_60 (by decide) ?_
          have ez : t = dF t d := by simp [dF, dB, c1, c7, c8, c9]
          rw [ez] at w
          exact fin _ _ _ _ _ w (by simp [dB, bI, c1, c7, c8, c9]) dX0_takesDigit_61
        · refine lv_iload_n hx hb dX0_takesDigit_40 rfl (lv_at hl 1 rfl) ?_
          refine lv_if_ne (tgt := 60) hx hb dX0_takesDigit_41 (by decide) (fun c10 => absurd c10 (by decide)) (fun c10 => ?_)
          refine lv_iload_n hx hb dX0_takesDigit_44 rfl (lv_at hl 0 rfl) ?_
          refine lv_aload_n hx hb dX0_takesDigit_45 rfl (lv_at hl 2 rfl) ?_
          refine k_ciR (k_runV X w (met_X0_leastNumber l D cI cJ cO b tc tk tn t  s.heap.size) gX0_takesDigit_X0_leastNumber rfl rfl rfl 0 hdX0_leastNumber ⟨Nat.le_of_ble_eq_true rfl, Nat.le_of_ble_eq_true rfl⟩ [0] rfl rfl 0 0 rfl rfl rfl rfl hl.1 rfl (Nat.le_of_ble_eq_true rfl) dX0_takesDigit_46 ⟨Nat.le_of_ble_eq_true rfl, Nat.le_of_ble_eq_true rfl⟩) w hA [0] rfl (fun H locs w => ?_)
          refine lv_icmp_lt (tgt := 60) hx hb dX0_takesDigit_49 (by decide) (fun c11 => ?_) (fun c11 => ?_)
          · refine lv_iconst (v := 0) hx hb dX0_takesDigit_60 (by decide) ?_
            have ez : t = dF t d := by simp [dF, dB, c1, c7, c8, c9, c10, c11]
            rw [ez] at w
            exact fin _ _ _ _ _ w (by simp [dB, bI, c1, c7, c8, c9, c10, c11]) dX0_takesDigit_61
          · refine lv_iload_n hx hb dX0_takesDigit_52 rfl (lv_at hl 0 rfl) ?_
            refine lv_aload_n hx hb dX0_takesDigit_53 rfl (lv_at hl 2 rfl) ?_
            refine k_ciR (k_runV X w (met_X0_mostNumber l D cI cJ cO b tc tk tn t  H.size) gX0_takesDigit_X0_mostNumber rfl rfl rfl 0 hdX0_mostNumber ⟨Nat.le_of_ble_eq_true rfl, Nat.le_of_ble_eq_true rfl⟩ [0] rfl rfl 0 0 rfl rfl rfl rfl hl.1 rfl (Nat.le_of_ble_eq_true rfl) dX0_takesDigit_54 ⟨Nat.le_of_ble_eq_true rfl, Nat.le_of_ble_eq_true rfl⟩) w hA [0] rfl (fun H locs w => ?_)
            refine lv_icmp_le (tgt := 62) hx hb dX0_takesDigit_57 (by decide) (fun c12 => ?_) (fun c12 => ?_)
            · refine lv_aload_n hx hb dX0_takesDigit_62 rfl (lv_at hl 2 rfl) ?_
              refine lv_dup hx hb dX0_takesDigit_63 rfl ?_
              refine k_get X w 0 rfl rfl 7 (by decide) rfl iX0_takesDigit_X0 (List.mem_of_getElem? (i := 1) rfl) (v := .int (t 4)) rfl dX0_takesDigit_64 ?_
              refine lv_iconst (v := 1) hx hb dX0_takesDigit_67 (by decide) ?_
              refine lv_iadd hx hb dX0_takesDigit_68 ?_
              refine k_put X w 0 rfl rfl 7 (by decide) rfl iX0_takesDigit_X0 (List.mem_of_getElem? (i := 1) rfl) tyX0_ok nmX0 rfl rfl (Nat.le_of_ble_eq_true rfl) (ws2 := [oT b tc tk tn (upd t 4 ((t 4) + 1))]) rfl dX0_takesDigit_69 (fun H locs w => ?_)
              refine lv_aload_n hx hb dX0_takesDigit_72 rfl (lv_at hl 2 rfl) ?_
              refine lv_iload_n hx hb dX0_takesDigit_73 rfl (lv_at hl 0 rfl) ?_
              refine k_put X w 0 rfl rfl 8 (by decide) rfl iX0_takesDigit_X0 (List.mem_of_getElem? (i := 2) rfl) tyX0_ok nmX0 rfl rfl (Nat.le_of_ble_eq_true rfl) (ws2 := [oT b tc tk tn (upd (upd t 4 ((t 4) + 1)) 5 ((10 * (t 5)) + d))]) rfl dX0_takesDigit_74 (fun H locs w => ?_)
              refine lv_iconst (v := 1) hx hb dX0_takesDigit_77 (by decide) ?_
              have ez : upd (upd t 4 ((t 4) + 1)) 5 ((10 * (t 5)) + d) = dF t d := by simp [dF, dB, c1, c7, c8, c9, c10, c11, c12]
              rw [ez] at w
              exact fin _ _ _ _ _ w (by simp [dB, bI, c1, c7, c8, c9, c10, c11, c12]) dX0_takesDigit_78
            · refine lv_iconst (v := 0) hx hb dX0_takesDigit_60 (by decide) ?_
              have ez : t = dF t d := by simp [dF, dB, c1, c7, c8, c9, c10, c11, c12]
              rw [ez] at w
              exact fin _ _ _ _ _ w (by simp [dB, bI, c1, c7, c8, c9, c10, c11, c12]) dX0_takesDigit_61
    · refine lv_iconst (v := 1) hx hb dX0_takesDigit_14 (by decide) ?_
      refine lv_goto (tgt := 19) hx hb dX0_takesDigit_15 (by decide) ?_
      refine lv_istore_n (lv' := [(2, .int 1), (0, .ref b), (1, .int d)]) hx hb dX0_takesDigit_19 rfl hl (by decide) rfl (fun ls hl => ?_)
      refine lv_bipush (v := 10) hx hb dX0_takesDigit_20 (by decide) ?_
      refine lv_aload_n hx hb dX0_takesDigit_22 rfl (lv_at hl 1 rfl) ?_
      refine k_get X w 0 rfl rfl 8 (by decide) rfl iX0_takesDigit_X0 (List.mem_of_getElem? (i := 2) rfl) (v := .int (t 5)) rfl dX0_takesDigit_23 ?_
      refine lv_imul hx hb dX0_takesDigit_26 ?_
      refine lv_iload_n hx hb dX0_takesDigit_27 rfl (lv_at hl 2 rfl) ?_
      refine lv_iadd hx hb dX0_takesDigit_28 ?_
      refine lv_istore_n (lv' := [(3, .int ((10 * (t 5)) + d)), (2, .int 1), (0, .ref b), (1, .int d)]) hx hb dX0_takesDigit_29 rfl hl (by decide) rfl (fun ls hl => ?_)
      refine lv_iload_n hx hb dX0_takesDigit_30 rfl (lv_at hl 3 rfl) ?_
      refine lv_if_lt (tgt := 60) hx hb dX0_takesDigit_31 (by decide) (fun c13 => ?_) (fun c13 => ?_)
      · refine lv_iconst (v := 0) hx hb dX0_takesDigit_60 (by decide) ?_
        have ez : t = dF t d := by simp [dF, dB, c1, c7, c13]
        rw [ez] at w
        exact fin _ _ _ _ _ w (by simp [dB, bI, c1, c7, c13]) dX0_takesDigit_61
      · refine lv_iload_n hx hb dX0_takesDigit_34 rfl (lv_at hl 3 rfl) ?_
        refine lv_bipush (v := 9) hx hb dX0_takesDigit_35 (by decide) ?_
        refine lv_icmp_gt (tgt := 60) hx hb dX0_takesDigit_37 (by decide) (fun c14 => ?_) (fun c14 => ?_)
        · refine lv_iconst (v := 0) hx hb dX0_takesDigit_60 (by decide) ?_
          have ez : t = dF t d := by simp [dF, dB, c1, c7, c13, c14]
          rw [ez] at w
          exact fin _ _ _ _ _ w (by simp [dB, bI, c1, c7, c13, c14]) dX0_takesDigit_61
        · refine lv_iload_n hx hb dX0_takesDigit_40 rfl (lv_at hl 1 rfl) ?_
          refine lv_if_ne (tgt := 60) hx hb dX0_takesDigit_41 (by decide) (fun c15 => ?_) (fun c15 => absurd c15 (by decide))
          refine lv_iconst (v := 0) hx hb dX0_takesDigit_60 (by decide) ?_
          have ez : t = dF t d := by simp [dF, dB, c1, c7, c13, c14, c15]
          rw [ez] at w
          exact fin _ _ _ _ _ w (by simp [dB, bI, c1, c7, c13, c14, c15]) dX0_takesDigit_61
theorem hdX0_endPart : yX0_endPart.cls = RX0 ∧ yX0_endPart.cls ≠ "java/lang/invoke/MethodHandle" ∧ yX0_endPart.cls ≠ "java/lang/invoke/VarHandle" ∧ (parseMethodDescriptor yX0_endPart.desc).map (fun d => d.parameters.length) = some 0 := ⟨rfl, by decide, by decide, by decide +kernel⟩
theorem iX0_endPart_X0 : ∀ w ∈ wsX00, w ∈ wsX0_endPart := fun _ h => List.mem_cons_of_mem _ (List.mem_append_right _ h)
set_option maxHeartbeats 4000000 in
set_option maxRecDepth 100000 in
theorem met_X0_endPart (l : Launch) (D : va_G) (cI cJ cO : ClassId) (b : Nat) (tc : Nat) (tk : Nat) (tn : Nat) (t : Nat → Int32) (q : Nat) (hq : t 1 = nI q) (hq6 : q < 60) : CV l D (TY cI cJ cO) yX0_endPart wsX0_endPart ({ frames := 1, cells := 0, slots := 0, locals := 20 }) [.ref b] [oT b tc tk tn t, aI cI tk 60 100 t, aI cI tn 60 200 t] [oT b tc tk tn (endF t), aI cI tk 60 100 (endF t), aI cI tn 60 200 (endF t)] := by
  refine CV.of (plainFor_of_name (by decide)) rfl (Nat.le_of_ble_eq_true rfl) (fun p e s m below meth c A ls Q X hA w hl fin => ?_)
  obtain ⟨hx, hb, hml, hown, hts⟩ := id X.1
  have hl : lv_has ls 1 [(0, .ref b)] := hl
  refine lv_aload_n hx hb dX0_endPart_0 rfl (lv_at hl 0 rfl) ?_
  refine k_get X w 0 rfl rfl 4 (by decide) rfl iX0_endPart_X0 (List.mem_of_getElem? (i := 1) rfl) (v := .int (nI q)) (congrArg (fun t => some (Value.int t)) hq) dX0_endPart_1 ?_
  refine lv_bipush (v := 60) hx hb dX0_endPart_4 (by decide) ?_
  refine lv_icmp_ge (tgt := 60) hx hb dX0_endPart_6 (by decide) (fun c1 => absurd c1 (nI_ge (by omega) (by decide))) (fun c1 => ?_)
  refine lv_aload_n hx hb dX0_endPart_9 rfl (lv_at hl 0 rfl) ?_
  refine k_get X w 0 rfl rfl 2 (by decide) rfl iX0_endPart_X0 (List.mem_of_getElem? (i := 2) rfl) (v := .ref tk) rfl dX0_endPart_10 ?_
  refine lv_aload_n hx hb dX0_endPart_13 rfl (lv_at hl 0 rfl) ?_
  refine k_get X w 0 rfl rfl 4 (by decide) rfl iX0_endPart_X0 (List.mem_of_getElem? (i := 1) rfl) (v := .int (nI q)) (congrArg (fun t => some (Value.int t)) hq) dX0_endPart_14 ?_
  refine lv_aload_n hx hb dX0_endPart_17 rfl (lv_at hl 0 rfl) ?_
  refine k_get X w 0 rfl rfl 5 (by decide) rfl iX0_endPart_X0 (List.mem_of_getElem? (i := 3) rfl) (v := .int (t 2)) rfl dX0_endPart_18 ?_
  refine k_iast X w 1 0 rfl rfl q (kj := 100 + q) rfl (by omega) (by decide) rfl (ws2 := [oT b tc tk tn t, aI cI tk 60 100 (upd t (100 + q) (t 2)), aI cI tn 60 200 t]) rfl dX0_endPart_21 (fun H locs w => ?_)
  refine lv_aload_n hx hb dX0_endPart_22 rfl (lv_at hl 0 rfl) ?_
  refine k_get X w 0 rfl rfl 3 (by decide) rfl iX0_endPart_X0 (List.mem_of_getElem? (i := 4) rfl) (v := .ref tn) rfl dX0_endPart_23 ?_
  refine lv_aload_n hx hb dX0_endPart_26 rfl (lv_at hl 0 rfl) ?_
  refine k_get X w 0 rfl rfl 4 (by decide) rfl iX0_endPart_X0 (List.mem_of_getElem? (i := 1) rfl) (v := .int (nI q)) (congrArg (fun t => some (Value.int t)) hq) dX0_endPart_27 ?_
  refine lv_aload_n hx hb dX0_endPart_30 rfl (lv_at hl 0 rfl) ?_
  refine k_get X w 0 rfl rfl 6 (by decide) rfl iX0_endPart_X0 (List.mem_of_getElem? (i := 5) rfl) (v := .int (t 3)) rfl dX0_endPart_31 ?_
  refine lv_if_eq (tgt := 45) hx hb dX0_endPart_34 (by decide) (fun c2 => ?_) (fun c2 => ?_)
  · refine lv_aload_n hx hb dX0_endPart_45 rfl (lv_at hl 0 rfl) ?_
    refine k_get X w 0 rfl rfl 8 (by decide) rfl iX0_endPart_X0 (List.mem_of_getElem? (i := 6) rfl) (v := .int (t 5)) rfl dX0_endPart_46 ?_
    have w := w.to (show [oT b tc tk tn t, aI cI tk 60 100 (upd t (100 + q) (t 2)), aI cI tn 60 200 t] = [oT b tc tk tn t, aI cI tk 60 100 (upd t (100 + q) (t 2)), aI cI tn 60 200 (upd t (100 + q) (t 2))] by rw [show aI cI tn 60 200 t = aI cI tn 60 200 (upd t (100 + q) (t 2)) from aI_c (fun k h1 h2 => (((upd_no (by omega)).trans rfl)).symm)])
    refine k_iast X w 2 0 rfl rfl q (kj := 200 + q) rfl (by omega) (by decide) rfl (ws2 := [oT b tc tk tn t, aI cI tk 60 100 (upd t (100 + q) (t 2)), aI cI tn 60 200 (upd (upd t (100 + q) (t 2)) (200 + q) (t 5))]) rfl dX0_endPart_49 (fun H locs w => ?_)
    refine lv_aload_n hx hb dX0_endPart_50 rfl (lv_at hl 0 rfl) ?_
    refine lv_dup hx hb dX0_endPart_51 rfl ?_
    refine k_get X w 0 rfl rfl 4 (by decide) rfl iX0_endPart_X0 (List.mem_of_getElem? (i := 1) rfl) (v := .int (nI q)) (congrArg (fun t => some (Value.int t)) hq) dX0_endPart_52 ?_
    refine lv_iconst (v := 1) hx hb dX0_endPart_55 (by decide) ?_
    refine lv_iadd hx hb dX0_endPart_56 ?_
    have w := w.to (show [oT b tc tk tn t, aI cI tk 60 100 (upd t (100 + q) (t 2)), aI cI tn 60 200 (upd (upd t (100 + q) (t 2)) (200 + q) (t 5))] = [oT b tc tk tn (upd (upd t (100 + q) (t 2)) (200 + q) (t 5)), aI cI tk 60 100 (upd t (100 + q) (t 2)), aI cI tn 60 200 (upd (upd t (100 + q) (t 2)) (200 + q) (t 5))] by rw [show oT b tc tk tn t = oT b tc tk tn (upd (upd t (100 + q) (t 2)) (200 + q) (t 5)) from oT_c (fun k h1 h2 => (((upd_no (by omega)).trans ((upd_no (by omega)).trans rfl))).symm)])
    refine k_put X w 0 rfl rfl 4 (by decide) rfl iX0_endPart_X0 (List.mem_of_getElem? (i := 1) rfl) tyX0_ok nmX0 rfl rfl (Nat.le_of_ble_eq_true rfl) (ws2 := [oT b tc tk tn (upd (upd (upd t (100 + q) (t 2)) (200 + q) (t 5)) 1 ((nI q) + 1)), aI cI tk 60 100 (upd t (100 + q) (t 2)), aI cI tn 60 200 (upd (upd t (100 + q) (t 2)) (200 + q) (t 5))]) rfl dX0_endPart_57 (fun H locs w => ?_)
    refine lv_aload_n hx hb dX0_endPart_60 rfl (lv_at hl 0 rfl) ?_
    refine k_cv (wr := [aI cI tk 60 100 (upd t (100 + q) (t 2)), aI cI tn 60 200 (upd (upd t (100 + q) (t 2)) (200 + q) (t 5))]) (ws2 := [oT b tc tk tn (bgn (upd (upd (upd t (100 + q) (t 2)) (200 + q) (t 5)) 1 ((nI q) + 1))), aI cI tk 60 100 (upd t (100 + q) (t 2)), aI cI tn 60 200 (upd (upd t (100 + q) (t 2)) (200 + q) (t 5))]) (k_runV X w (met_X0_beginPart l D cI cJ cO b tc tk tn (upd (upd (upd t (100 + q) (t 2)) (200 + q) (t 5)) 1 ((nI q) + 1))  H.size) gX0_endPart_X0_beginPart rfl rfl rfl 0 hdX0_beginPart ⟨Nat.le_of_ble_eq_true rfl, Nat.le_of_ble_eq_true rfl⟩ [0] rfl rfl 0 0 rfl rfl rfl rfl hl.1 rfl (Nat.le_of_ble_eq_true rfl) dX0_endPart_61 ⟨Nat.le_of_ble_eq_true rfl, Nat.le_of_ble_eq_true rfl⟩) w hA [0] [1, 2] rfl rfl rfl (by decide) [2, 0, 1] rfl rfl (fun H locs w => ?_)
    have w := w.to (show [oT b tc tk tn (bgn (upd (upd (upd t (100 + q) (t 2)) (200 + q) (t 5)) 1 ((nI q) + 1))), aI cI tk 60 100 (upd t (100 + q) (t 2)), aI cI tn 60 200 (upd (upd t (100 + q) (t 2)) (200 + q) (t 5))] = [oT b tc tk tn (bgn (upd (upd (upd t (100 + q) (t 2)) (200 + q) (t 5)) 1 ((nI q) + 1))), aI cI tk 60 100 (bgn (upd (upd (upd t (100 + q) (t 2)) (200 + q) (t 5)) 1 ((nI q) + 1))), aI cI tn 60 200 (bgn (upd (upd (upd t (100 + q) (t 2)) (200 + q) (t 5)) 1 ((nI q) + 1)))] by rw [show aI cI tk 60 100 (upd t (100 + q) (t 2)) = aI cI tk 60 100 (bgn (upd (upd (upd t (100 + q) (t 2)) (200 + q) (t 5)) 1 ((nI q) + 1))) from aI_c (fun k h1 h2 => (((bgn_h _ _ (by omega) (by omega)).trans ((upd_no (by omega)).trans ((upd_no (by omega)).trans rfl)))).symm), show aI cI tn 60 200 (upd (upd t (100 + q) (t 2)) (200 + q) (t 5)) = aI cI tn 60 200 (bgn (upd (upd (upd t (100 + q) (t 2)) (200 + q) (t 5)) 1 ((nI q) + 1))) from aI_c (fun k h1 h2 => (((bgn_h _ _ (by omega) (by omega)).trans ((upd_no (by omega)).trans rfl))).symm)])
    have ez : bgn (upd (upd (upd t (100 + q) (t 2)) (200 + q) (t 5)) 1 ((nI q) + 1)) = endF t := by simp only [endF, pq_eq hq hq6, c1, c2, if_true, if_false]
    rw [ez] at w
    exact fin _ _ _ _ w dX0_endPart_64
  · refine lv_aload_n hx hb dX0_endPart_37 rfl (lv_at hl 0 rfl) ?_
    refine k_get X w 0 rfl rfl 8 (by decide) rfl iX0_endPart_X0 (List.mem_of_getElem? (i := 6) rfl) (v := .int (t 5)) rfl dX0_endPart_38 ?_
    refine lv_ineg hx hb dX0_endPart_41 ?_
    refine lv_goto (tgt := 49) hx hb dX0_endPart_42 (by decide) ?_
    have w := w.to (show [oT b tc tk tn t, aI cI tk 60 100 (upd t (100 + q) (t 2)), aI cI tn 60 200 t] = [oT b tc tk tn t, aI cI tk 60 100 (upd t (100 + q) (t 2)), aI cI tn 60 200 (upd t (100 + q) (t 2))] by rw [show aI cI tn 60 200 t = aI cI tn 60 200 (upd t (100 + q) (t 2)) from aI_c (fun k h1 h2 => (((upd_no (by omega)).trans rfl)).symm)])
    refine k_iast X w 2 0 rfl rfl q (kj := 200 + q) rfl (by omega) (by decide) rfl (ws2 := [oT b tc tk tn t, aI cI tk 60 100 (upd t (100 + q) (t 2)), aI cI tn 60 200 (upd (upd t (100 + q) (t 2)) (200 + q) (-(t 5)))]) rfl dX0_endPart_49 (fun H locs w => ?_)
    refine lv_aload_n hx hb dX0_endPart_50 rfl (lv_at hl 0 rfl) ?_
    refine lv_dup hx hb dX0_endPart_51 rfl ?_
    refine k_get X w 0 rfl rfl 4 (by decide) rfl iX0_endPart_X0 (List.mem_of_getElem? (i := 1) rfl) (v := .int (nI q)) (congrArg (fun t => some (Value.int t)) hq) dX0_endPart_52 ?_
    refine lv_iconst (v := 1) hx hb dX0_endPart_55 (by decide) ?_
    refine lv_iadd hx hb dX0_endPart_56 ?_
    have w := w.to (show [oT b tc tk tn t, aI cI tk 60 100 (upd t (100 + q) (t 2)), aI cI tn 60 200 (upd (upd t (100 + q) (t 2)) (200 + q) (-(t 5)))] = [oT b tc tk tn (upd (upd t (100 + q) (t 2)) (200 + q) (-(t 5))), aI cI tk 60 100 (upd t (100 + q) (t 2)), aI cI tn 60 200 (upd (upd t (100 + q) (t 2)) (200 + q) (-(t 5)))] by rw [show oT b tc tk tn t = oT b tc tk tn (upd (upd t (100 + q) (t 2)) (200 + q) (-(t 5))) from oT_c (fun k h1 h2 => (((upd_no (by omega)).trans ((upd_no (by omega)).trans rfl))).symm)])
    refine k_put X w 0 rfl rfl 4 (by decide) rfl iX0_endPart_X0 (List.mem_of_getElem? (i := 1) rfl) tyX0_ok nmX0 rfl rfl (Nat.le_of_ble_eq_true rfl) (ws2 := [oT b tc tk tn (upd (upd (upd t (100 + q) (t 2)) (200 + q) (-(t 5))) 1 ((nI q) + 1)), aI cI tk 60 100 (upd t (100 + q) (t 2)), aI cI tn 60 200 (upd (upd t (100 + q) (t 2)) (200 + q) (-(t 5)))]) rfl dX0_endPart_57 (fun H locs w => ?_)
    refine lv_aload_n hx hb dX0_endPart_60 rfl (lv_at hl 0 rfl) ?_
    refine k_cv (wr := [aI cI tk 60 100 (upd t (100 + q) (t 2)), aI cI tn 60 200 (upd (upd t (100 + q) (t 2)) (200 + q) (-(t 5)))]) (ws2 := [oT b tc tk tn (bgn (upd (upd (upd t (100 + q) (t 2)) (200 + q) (-(t 5))) 1 ((nI q) + 1))), aI cI tk 60 100 (upd t (100 + q) (t 2)), aI cI tn 60 200 (upd (upd t (100 + q) (t 2)) (200 + q) (-(t 5)))]) (k_runV X w (met_X0_beginPart l D cI cJ cO b tc tk tn (upd (upd (upd t (100 + q) (t 2)) (200 + q) (-(t 5))) 1 ((nI q) + 1))  H.size) gX0_endPart_X0_beginPart rfl rfl rfl 0 hdX0_beginPart ⟨Nat.le_of_ble_eq_true rfl, Nat.le_of_ble_eq_true rfl⟩ [0] rfl rfl 0 0 rfl rfl rfl rfl hl.1 rfl (Nat.le_of_ble_eq_true rfl) dX0_endPart_61 ⟨Nat.le_of_ble_eq_true rfl, Nat.le_of_ble_eq_true rfl⟩) w hA [0] [1, 2] rfl rfl rfl (by decide) [2, 0, 1] rfl rfl (fun H locs w => ?_)
    have w := w.to (show [oT b tc tk tn (bgn (upd (upd (upd t (100 + q) (t 2)) (200 + q) (-(t 5))) 1 ((nI q) + 1))), aI cI tk 60 100 (upd t (100 + q) (t 2)), aI cI tn 60 200 (upd (upd t (100 + q) (t 2)) (200 + q) (-(t 5)))] = [oT b tc tk tn (bgn (upd (upd (upd t (100 + q) (t 2)) (200 + q) (-(t 5))) 1 ((nI q) + 1))), aI cI tk 60 100 (bgn (upd (upd (upd t (100 + q) (t 2)) (200 + q) (-(t 5))) 1 ((nI q) + 1))), aI cI tn 60 200 (bgn (upd (upd (upd t (100 + q) (t 2)) (200 + q) (-(t 5))) 1 ((nI q) + 1)))] by rw [show aI cI tk 60 100 (upd t (100 + q) (t 2)) = aI cI tk 60 100 (bgn (upd (upd (upd t (100 + q) (t 2)) (200 + q) (-(t 5))) 1 ((nI q) + 1))) from aI_c (fun k h1 h2 => (((bgn_h _ _ (by omega) (by omega)).trans ((upd_no (by omega)).trans ((upd_no (by omega)).trans rfl)))).symm), show aI cI tn 60 200 (upd (upd t (100 + q) (t 2)) (200 + q) (-(t 5))) = aI cI tn 60 200 (bgn (upd (upd (upd t (100 + q) (t 2)) (200 + q) (-(t 5))) 1 ((nI q) + 1))) from aI_c (fun k h1 h2 => (((bgn_h _ _ (by omega) (by omega)).trans ((upd_no (by omega)).trans rfl))).symm)])
    have ez : bgn (upd (upd (upd t (100 + q) (t 2)) (200 + q) (-(t 5))) 1 ((nI q) + 1)) = endF t := by simp only [endF, pq_eq hq hq6, c1, c2, if_true, if_false]
    rw [ez] at w
    exact fin _ _ _ _ w dX0_endPart_64
theorem hdX0_takesSemicolon : yX0_takesSemicolon.cls = RX0 ∧ yX0_takesSemicolon.cls ≠ "java/lang/invoke/MethodHandle" ∧ yX0_takesSemicolon.cls ≠ "java/lang/invoke/VarHandle" ∧ (parseMethodDescriptor yX0_takesSemicolon.desc).map (fun d => d.parameters.length) = some 0 := ⟨rfl, by decide, by decide, by decide +kernel⟩
set_option maxHeartbeats 4000000 in
set_option maxRecDepth 100000 in
theorem met_X0_takesSemicolon (l : Launch) (D : va_G) (cI cJ cO : ClassId) (b : Nat) (tc : Nat) (tk : Nat) (tn : Nat) (t : Nat → Int32) (q : Nat) (hq : t 1 = nI q) (hq6 : q < 60) : CI l D (TY cI cJ cO) yX0_takesSemicolon wsX0_takesSemicolon ({ frames := 2, cells := 0, slots := 0, locals := 40 }) [.ref b] [oT b tc tk tn t, aI cI tk 60 100 t, aI cI tn 60 200 t] (bI (whole t)) [oT b tc tk tn (sF t), aI cI tk 60 100 (sF t), aI cI tn 60 200 (sF t)] := by
  refine CI.of (plainFor_of_name (by decide)) rfl (Nat.le_of_ble_eq_true rfl) (bI_n _) (fun p e s m below meth c A ls Q X hA w hl fin => ?_)
  obtain ⟨hx, hb, hml, hown, hts⟩ := id X.1
  have hl : lv_has ls 1 [(0, .ref b)] := hl
  refine lv_aload_n hx hb dX0_takesSemicolon_0 rfl (lv_at hl 0 rfl) ?_
  refine k_ciR (k_runV X w (met_X0_isPartWhole l D cI cJ cO b tc tk tn t  s.heap.size) gX0_takesSemicolon_X0_isPartWhole rfl rfl rfl 0 hdX0_isPartWhole ⟨Nat.le_of_ble_eq_true rfl, Nat.le_of_ble_eq_true rfl⟩ [0] rfl rfl 0 0 rfl rfl rfl rfl hl.1 rfl (Nat.le_of_ble_eq_true rfl) dX0_takesSemicolon_1 ⟨Nat.le_of_ble_eq_true rfl, Nat.le_of_ble_eq_true rfl⟩) w hA [0] rfl (fun H locs w => ?_)
  refine lv_if_ne (tgt := 9) hx hb dX0_takesSemicolon_4 (by decide) (fun c1 => ?_) (fun c1 => ?_)
  · have c1 := bI_t c1
    refine lv_aload_n hx hb dX0_takesSemicolon_9 rfl (lv_at hl 0 rfl) ?_
    refine k_cv (wr := []) (ws2 := [oT b tc tk tn (endF t), aI cI tk 60 100 (endF t), aI cI tn 60 200 (endF t)]) (k_runV X w (met_X0_endPart l D cI cJ cO b tc tk tn t q hq hq6 H.size) gX0_takesSemicolon_X0_endPart rfl rfl rfl 0 hdX0_endPart ⟨Nat.le_of_ble_eq_true rfl, Nat.le_of_ble_eq_true rfl⟩ [0, 1, 2] rfl rfl 0 0 rfl rfl rfl rfl hl.1 rfl (Nat.le_of_ble_eq_true rfl) dX0_takesSemicolon_10 ⟨Nat.le_of_ble_eq_true rfl, Nat.le_of_ble_eq_true rfl⟩) w hA [0, 1, 2] [] rfl rfl rfl (by decide) [0, 1, 2] rfl rfl (fun H locs w => ?_)
    refine lv_iconst (v := 1) hx hb dX0_takesSemicolon_13 (by decide) ?_
    have ez : endF t = sF t := by simp only [sF, c1, if_true, if_false, Bool.true_eq_false, Bool.false_eq_true, reduceIte]
    rw [ez] at w
    exact fin _ _ _ _ _ w (by simp [bI, c1]) dX0_takesSemicolon_14
  · have c1 := bI_f c1
    refine lv_iconst (v := 0) hx hb dX0_takesSemicolon_7 (by decide) ?_
    have ez : t = sF t := by simp only [sF, c1, if_true, if_false, Bool.true_eq_false, Bool.false_eq_true, reduceIte]
    rw [ez] at w
    exact fin _ _ _ _ _ w (by simp [bI, c1]) dX0_takesSemicolon_8
theorem hdX0_takes : yX0_takes.cls = RX0 ∧ yX0_takes.cls ≠ "java/lang/invoke/MethodHandle" ∧ yX0_takes.cls ≠ "java/lang/invoke/VarHandle" ∧ (parseMethodDescriptor yX0_takes.desc).map (fun d => d.parameters.length) = some 1 := ⟨rfl, by decide, by decide, by decide +kernel⟩
theorem iX0_takes_X0 : ∀ w ∈ wsX00, w ∈ wsX0_takes := fun _ h => List.mem_cons_of_mem _ (List.mem_append_right _ h)
set_option maxHeartbeats 4000000 in
set_option maxRecDepth 100000 in
theorem met_X0_takes (l : Launch) (D : va_G) (cI cJ cO : ClassId) (b : Nat) (tc : Nat) (tk : Nat) (tn : Nat) (t : Nat → Int32) (q : Nat) (ch : Int32) (hq : t 1 = nI q) (hq6 : q < 60) : CI l D (TY cI cJ cO) yX0_takes wsX0_takes ({ frames := 3, cells := 0, slots := 0, locals := 60 }) [.ref b, .int ch] [oT b tc tk tn t, aI cI tk 60 100 t, aI cI tn 60 200 t] (bI (tkB t ch)) [oT b tc tk tn (tkF t ch), aI cI tk 60 100 (tkF t ch), aI cI tn 60 200 (tkF t ch)] := by
  refine CI.of (plainFor_of_name (by decide)) rfl (Nat.le_of_ble_eq_true rfl) (bI_n _) (fun p e s m below meth c A ls Q X hA w hl fin => ?_)
  obtain ⟨hx, hb, hml, hown, hts⟩ := id X.1
  have hl : lv_has ls 2 [(0, .ref b), (1, .int ch)] := hl
  refine lv_aload_n hx hb dX0_takes_0 rfl (lv_at hl 0 rfl) ?_
  refine k_get X w 0 rfl rfl 5 (by decide) rfl iX0_takes_X0 (List.mem_of_getElem? (i := 1) rfl) (v := .int (t 2)) rfl dX0_takes_1 ?_
  refine lv_if_ne (tgt := 13) hx hb dX0_takes_4 (by decide) (fun c1 => ?_) (fun c1 => ?_)
  · refine lv_iload_n hx hb dX0_takes_13 rfl (lv_at hl 1 rfl) ?_
    refine lv_bipush (v := 59) hx hb dX0_takes_14 (by decide) ?_
    refine lv_icmp_ne (tgt := 24) hx hb dX0_takes_16 (by decide) (fun c2 => ?_) (fun c2 => ?_)
    · refine lv_iload_n hx hb dX0_takes_24 rfl (lv_at hl 1 rfl) ?_
      refine lv_bipush (v := 45) hx hb dX0_takes_25 (by decide) ?_
      refine lv_icmp_ne (tgt := 35) hx hb dX0_takes_27 (by decide) (fun c3 => ?_) (fun c3 => ?_)
      · refine lv_aload_n hx hb dX0_takes_35 rfl (lv_at hl 0 rfl) ?_
        refine lv_iload_n hx hb dX0_takes_36 rfl (lv_at hl 1 rfl) ?_
        refine lv_bipush (v := 48) hx hb dX0_takes_37 (by decide) ?_
        refine lv_isub hx hb dX0_takes_39 ?_
        refine k_ci (wr := [aI cI tk 60 100 t, aI cI tn 60 200 t]) (ws2 := [oT b tc tk tn (dF t (ch - 48)), aI cI tk 60 100 t, aI cI tn 60 200 t]) (k_runV X w (met_X0_takesDigit l D cI cJ cO b tc tk tn t (ch - 48)  s.heap.size) gX0_takes_X0_takesDigit rfl rfl rfl 1 hdX0_takesDigit ⟨Nat.le_of_ble_eq_true rfl, Nat.le_of_ble_eq_true rfl⟩ [0] rfl rfl 0 0 rfl rfl rfl rfl hl.1 rfl (Nat.le_of_ble_eq_true rfl) dX0_takes_40 ⟨Nat.le_of_ble_eq_true rfl, Nat.le_of_ble_eq_true rfl⟩) w hA [0] [1, 2] rfl rfl rfl (by decide) [2, 0, 1] rfl rfl (fun H locs w => ?_)
        have w := w.to (show [oT b tc tk tn (dF t (ch - 48)), aI cI tk 60 100 t, aI cI tn 60 200 t] = [oT b tc tk tn (dF t (ch - 48)), aI cI tk 60 100 (dF t (ch - 48)), aI cI tn 60 200 (dF t (ch - 48))] by rw [show aI cI tk 60 100 t = aI cI tk 60 100 (dF t (ch - 48)) from aI_c (fun k h1 h2 => (((dF_h _ _ _ (by omega) (by omega)).trans rfl)).symm), show aI cI tn 60 200 t = aI cI tn 60 200 (dF t (ch - 48)) from aI_c (fun k h1 h2 => (((dF_h _ _ _ (by omega) (by omega)).trans rfl)).symm)])
        have ez : dF t (ch - 48) = tkF t ch := by simp [tkF, c1, c2, c3]
        rw [ez] at w
        exact fin _ _ _ _ _ w (by simp [tkB, c1, c2, c3]) dX0_takes_43
      · refine lv_aload_n hx hb dX0_takes_30 rfl (lv_at hl 0 rfl) ?_
        refine k_ci (wr := [aI cI tk 60 100 t, aI cI tn 60 200 t]) (ws2 := [oT b tc tk tn (mF t), aI cI tk 60 100 t, aI cI tn 60 200 t]) (k_runV X w (met_X0_takesMinus l D cI cJ cO b tc tk tn t  s.heap.size) gX0_takes_X0_takesMinus rfl rfl rfl 0 hdX0_takesMinus ⟨Nat.le_of_ble_eq_true rfl, Nat.le_of_ble_eq_true rfl⟩ [0] rfl rfl 0 0 rfl rfl rfl rfl hl.1 rfl (Nat.le_of_ble_eq_true rfl) dX0_takes_31 ⟨Nat.le_of_ble_eq_true rfl, Nat.le_of_ble_eq_true rfl⟩) w hA [0] [1, 2] rfl rfl rfl (by decide) [2, 0, 1] rfl rfl (fun H locs w => ?_)
        have w := w.to (show [oT b tc tk tn (mF t), aI cI tk 60 100 t, aI cI tn 60 200 t] = [oT b tc tk tn (mF t), aI cI tk 60 100 (mF t), aI cI tn 60 200 (mF t)] by rw [show aI cI tk 60 100 t = aI cI tk 60 100 (mF t) from aI_c (fun k h1 h2 => (((mF_h _ _ (by omega) (by omega)).trans rfl)).symm), show aI cI tn 60 200 t = aI cI tn 60 200 (mF t) from aI_c (fun k h1 h2 => (((mF_h _ _ (by omega) (by omega)).trans rfl)).symm)])
        have ez : mF t = tkF t ch := by simp [tkF, c1, c2, c3]
        rw [ez] at w
        exact fin _ _ _ _ _ w (by simp [tkB, c1, c2, c3]) dX0_takes_34
    · refine lv_aload_n hx hb dX0_takes_19 rfl (lv_at hl 0 rfl) ?_
      refine k_ci (wr := []) (ws2 := [oT b tc tk tn (sF t), aI cI tk 60 100 (sF t), aI cI tn 60 200 (sF t)]) (k_runV X w (met_X0_takesSemicolon l D cI cJ cO b tc tk tn t q hq hq6 s.heap.size) gX0_takes_X0_takesSemicolon rfl rfl rfl 0 hdX0_takesSemicolon ⟨Nat.le_of_ble_eq_true rfl, Nat.le_of_ble_eq_true rfl⟩ [0, 1, 2] rfl rfl 0 0 rfl rfl rfl rfl hl.1 rfl (Nat.le_of_ble_eq_true rfl) dX0_takes_20 ⟨Nat.le_of_ble_eq_true rfl, Nat.le_of_ble_eq_true rfl⟩) w hA [0, 1, 2] [] rfl rfl rfl (by decide) [0, 1, 2] rfl rfl (fun H locs w => ?_)
      have ez : sF t = tkF t ch := by simp [tkF, c1, c2]
      rw [ez] at w
      exact fin _ _ _ _ _ w (by simp [tkB, c1, c2]) dX0_takes_23
  · refine lv_aload_n hx hb dX0_takes_7 rfl (lv_at hl 0 rfl) ?_
    refine lv_iload_n hx hb dX0_takes_8 rfl (lv_at hl 1 rfl) ?_
    refine k_ci (wr := [aI cI tk 60 100 t, aI cI tn 60 200 t]) (ws2 := [oT b tc tk tn (kF t ch), aI cI tk 60 100 t, aI cI tn 60 200 t]) (k_runV X w (met_X0_takesKind l D cI cJ cO b tc tk tn t ch  s.heap.size) gX0_takes_X0_takesKind rfl rfl rfl 1 hdX0_takesKind ⟨Nat.le_of_ble_eq_true rfl, Nat.le_of_ble_eq_true rfl⟩ [0] rfl rfl 0 0 rfl rfl rfl rfl hl.1 rfl (Nat.le_of_ble_eq_true rfl) dX0_takes_9 ⟨Nat.le_of_ble_eq_true rfl, Nat.le_of_ble_eq_true rfl⟩) w hA [0] [1, 2] rfl rfl rfl (by decide) [2, 0, 1] rfl rfl (fun H locs w => ?_)
    have w := w.to (show [oT b tc tk tn (kF t ch), aI cI tk 60 100 t, aI cI tn 60 200 t] = [oT b tc tk tn (kF t ch), aI cI tk 60 100 (kF t ch), aI cI tn 60 200 (kF t ch)] by rw [show aI cI tk 60 100 t = aI cI tk 60 100 (kF t ch) from aI_c (fun k h1 h2 => (((kF_h _ _ _ (by omega) (by omega)).trans rfl)).symm), show aI cI tn 60 200 t = aI cI tn 60 200 (kF t ch) from aI_c (fun k h1 h2 => (((kF_h _ _ _ (by omega) (by omega)).trans rfl)).symm)])
    have ez : kF t ch = tkF t ch := by simp [tkF, c1]
    rw [ez] at w
    exact fin _ _ _ _ _ w (by simp [tkB, c1]) dX0_takes_12
theorem hdX0_scan : yX0_scan.cls = RX0 ∧ yX0_scan.cls ≠ "java/lang/invoke/MethodHandle" ∧ yX0_scan.cls ≠ "java/lang/invoke/VarHandle" ∧ (parseMethodDescriptor yX0_scan.desc).map (fun d => d.parameters.length) = some 0 := ⟨rfl, by decide, by decide, by decide +kernel⟩
theorem iX0_scan_X0 : ∀ w ∈ wsX00, w ∈ wsX0_scan := fun _ h => List.mem_cons_of_mem _ (List.mem_append_right _ h)
set_option maxHeartbeats 4000000 in
set_option maxRecDepth 100000 in
theorem met_X0_scan (l : Launch) (D : va_G) (cI cJ cO : ClassId) (b : Nat) (tc : Nat) (tk : Nat) (tn : Nat) (t : Nat → Int32) (len : Nat) (hL : t 0 = nI len) (hL6 : len ≤ 60) : CI l D (TY cI cJ cO) yX0_scan wsX0_scan ({ frames := 4, cells := 0, slots := 0, locals := 81 }) [.ref b] [oT b tc tk tn t, aI cI tc 60 300 t, aI cI tk 60 100 t, aI cI tn 60 200 t] (scR len (bgn (upd t 1 0)) 0) [oT b tc tk tn (scF len (bgn (upd t 1 0)) 0), aI cI tc 60 300 (scF len (bgn (upd t 1 0)) 0), aI cI tk 60 100 (scF len (bgn (upd t 1 0)) 0), aI cI tn 60 200 (scF len (bgn (upd t 1 0)) 0)] := by
  refine CI.of (plainFor_of_name (by decide)) rfl (Nat.le_of_ble_eq_true rfl) (rfl) (fun p e s m below meth c A ls Q X hA w hl fin => ?_)
  obtain ⟨hx, hb, hml, hown, hts⟩ := id X.1
  have hl : lv_has ls 2 [(0, .ref b)] := hl
  refine lv_aload_n hx hb dX0_scan_0 rfl (lv_at hl 0 rfl) ?_
  refine lv_iconst (v := 0) hx hb dX0_scan_1 (by decide) ?_
  refine k_put X w 0 rfl rfl 4 (by decide) rfl iX0_scan_X0 (List.mem_of_getElem? (i := 1) rfl) tyX0_ok nmX0 rfl rfl (Nat.le_of_ble_eq_true rfl) (ws2 := [oT b tc tk tn (upd t 1 0), aI cI tc 60 300 t, aI cI tk 60 100 t, aI cI tn 60 200 t]) rfl dX0_scan_2 (fun H locs w => ?_)
  refine lv_aload_n hx hb dX0_scan_5 rfl (lv_at hl 0 rfl) ?_
  refine k_cv (wr := [aI cI tc 60 300 t, aI cI tk 60 100 t, aI cI tn 60 200 t]) (ws2 := [oT b tc tk tn (bgn (upd t 1 0)), aI cI tc 60 300 t, aI cI tk 60 100 t, aI cI tn 60 200 t]) (k_runV X w (met_X0_beginPart l D cI cJ cO b tc tk tn (upd t 1 0)  H.size) gX0_scan_X0_beginPart rfl rfl rfl 0 hdX0_beginPart ⟨Nat.le_of_ble_eq_true rfl, Nat.le_of_ble_eq_true rfl⟩ [0] rfl rfl 0 0 rfl rfl rfl rfl hl.1 rfl (Nat.le_of_ble_eq_true rfl) dX0_scan_6 ⟨Nat.le_of_ble_eq_true rfl, Nat.le_of_ble_eq_true rfl⟩) w hA [0] [1, 2, 3] rfl rfl rfl (by decide) [3, 0, 1, 2] rfl rfl (fun H locs w => ?_)
  have w := w.to (show [oT b tc tk tn (bgn (upd t 1 0)), aI cI tc 60 300 t, aI cI tk 60 100 t, aI cI tn 60 200 t] = [oT b tc tk tn (bgn (upd t 1 0)), aI cI tc 60 300 (bgn (upd t 1 0)), aI cI tk 60 100 (bgn (upd t 1 0)), aI cI tn 60 200 (bgn (upd t 1 0))] by rw [show aI cI tc 60 300 t = aI cI tc 60 300 (bgn (upd t 1 0)) from aI_c (fun k h1 h2 => (((bgn_h _ _ (by omega) (by omega)).trans ((upd_no (by omega)).trans rfl))).symm), show aI cI tk 60 100 t = aI cI tk 60 100 (bgn (upd t 1 0)) from aI_c (fun k h1 h2 => (((bgn_h _ _ (by omega) (by omega)).trans ((upd_no (by omega)).trans rfl))).symm), show aI cI tn 60 200 t = aI cI tn 60 200 (bgn (upd t 1 0)) from aI_c (fun k h1 h2 => (((bgn_h _ _ (by omega) (by omega)).trans ((upd_no (by omega)).trans rfl))).symm)])
  refine lv_iconst (v := 0) hx hb dX0_scan_9 (by decide) ?_
  refine lv_istore_n (lv' := [(1, .int 0), (0, .ref b)]) hx hb dX0_scan_10 rfl hl (by decide) rfl (fun ls hl => ?_)
  have lp11 : ∀ (n : Nat) (i : Nat) (tt : Nat → Int32), i + n = len → tt 0 = nI len → pinv tt i → scR n tt i = scR len (bgn (upd t 1 0)) 0 → scF n tt i = scF len (bgn (upd t 1 0)) 0 → ∀ (H : Heap) (locs : List Loc) (ls : Array Slot), wd D A s.heap H locs [oT b tc tk tn tt, aI cI tc 60 300 tt, aI cI tk 60 100 tt, aI cI tn 60 200 tt] → lv_has ls 2 [(1, .int (nI i)), (0, .ref b)] → W p l e ({ frames := 4, cells := 0, slots := 0, locals := 81 }) s m [.ref b].toArray below meth c H locs 0 0 Q (F0 m 11 ls []) := by
    intro n
    induction n with
    | zero =>
      intro i tt hi hL2 hp he hf H locs ls w hl
      refine lv_iload_n hx hb dX0_scan_11 rfl (lv_at hl 0 rfl) ?_
      refine lv_aload_n hx hb dX0_scan_12 rfl (lv_at hl 1 rfl) ?_
      refine k_get X w 0 rfl rfl 1 (by decide) rfl iX0_scan_X0 (List.mem_of_getElem? (i := 2) rfl) (v := .int (nI len)) (congrArg (fun t => some (Value.int t)) hL2) dX0_scan_13 ?_
      refine lv_icmp_ge (tgt := 40) hx hb dX0_scan_16 (by decide) (fun c1 => ?_) (fun c1 => absurd (nI_le (by omega) (by omega)) c1)
      refine lv_aload_n hx hb dX0_scan_40 rfl (lv_at hl 1 rfl) ?_
      refine k_get X w 0 rfl rfl 1 (by decide) rfl iX0_scan_X0 (List.mem_of_getElem? (i := 2) rfl) (v := .int (nI len)) (congrArg (fun t => some (Value.int t)) hL2) dX0_scan_41 ?_
      have ez : tt = scF len (bgn (upd t 1 0)) 0 := by exact hf
      rw [ez] at w
      exact fin _ _ _ _ _ w (by rw [← he, scR, show i = len by omega]) dX0_scan_44
    | succ n ih =>
      intro i tt hi hL2 hp he hf H locs ls w hl
      obtain ⟨q, hq, hq2, -⟩ := id hp
      refine lv_iload_n hx hb dX0_scan_11 rfl (lv_at hl 0 rfl) ?_
      refine lv_aload_n hx hb dX0_scan_12 rfl (lv_at hl 1 rfl) ?_
      refine k_get X w 0 rfl rfl 1 (by decide) rfl iX0_scan_X0 (List.mem_of_getElem? (i := 2) rfl) (v := .int (nI len)) (congrArg (fun t => some (Value.int t)) hL2) dX0_scan_13 ?_
      refine lv_icmp_ge (tgt := 40) hx hb dX0_scan_16 (by decide) (fun c2 => absurd c2 (nI_ge (by omega) (by omega))) (fun c2 => ?_)
      refine lv_aload_n hx hb dX0_scan_19 rfl (lv_at hl 1 rfl) ?_
      refine lv_aload_n hx hb dX0_scan_20 rfl (lv_at hl 1 rfl) ?_
      refine k_get X w 0 rfl rfl 0 (by decide) rfl iX0_scan_X0 (List.mem_of_getElem? (i := 3) rfl) (v := .ref tc) rfl dX0_scan_21 ?_
      refine lv_iload_n hx hb dX0_scan_24 rfl (lv_at hl 0 rfl) ?_
      refine k_iald X w 1 0 rfl rfl i (kj := 300 + i) rfl (by omega) (by decide) rfl (v := tt (300 + i)) rfl dX0_scan_25 ?_
      refine k_ci (wr := [aI cI tc 60 300 tt]) (ws2 := [oT b tc tk tn (tkF tt (tt (300 + i))), aI cI tc 60 300 tt, aI cI tk 60 100 (tkF tt (tt (300 + i))), aI cI tn 60 200 (tkF tt (tt (300 + i)))]) (k_runV X w (met_X0_takes l D cI cJ cO b tc tk tn tt q (tt (300 + i)) hq (by omega) H.size) gX0_scan_X0_takes rfl rfl rfl 1 hdX0_takes ⟨Nat.le_of_ble_eq_true rfl, Nat.le_of_ble_eq_true rfl⟩ [0, 2, 3] rfl rfl 0 0 rfl rfl rfl rfl hl.1 rfl (Nat.le_of_ble_eq_true rfl) dX0_scan_26 ⟨Nat.le_of_ble_eq_true rfl, Nat.le_of_ble_eq_true rfl⟩) w hA [0, 2, 3] [1] rfl rfl rfl (by decide) [1, 0, 2, 3] rfl rfl (fun H locs w => ?_)
      have w := w.to (show [oT b tc tk tn (tkF tt (tt (300 + i))), aI cI tc 60 300 tt, aI cI tk 60 100 (tkF tt (tt (300 + i))), aI cI tn 60 200 (tkF tt (tt (300 + i)))] = [oT b tc tk tn (tkF tt (tt (300 + i))), aI cI tc 60 300 (tkF tt (tt (300 + i))), aI cI tk 60 100 (tkF tt (tt (300 + i))), aI cI tn 60 200 (tkF tt (tt (300 + i)))] by rw [show aI cI tc 60 300 tt = aI cI tc 60 300 (tkF tt (tt (300 + i))) from aI_c (fun k h1 h2 => ((((fun k h1 h2 => tkF_q k (by omega) (pinv_lt hp (by omega))) _ (by omega) (by omega)).trans rfl)).symm)])
      refine lv_if_ne (tgt := 34) hx hb dX0_scan_29 (by decide) (fun c3 => ?_) (fun c3 => ?_)
      · have c3 := bI_t c3
        refine lv_iinc (v := nI (i + 1)) (lv' := [(1, .int (nI (i + 1))), (0, .ref b)]) hx hb dX0_scan_34 hl (k := 0) rfl (nI_1 _) (by decide) rfl (fun ls hl => ?_)
        refine lv_goto (tgt := 11) hx hb dX0_scan_37 (by decide) ?_
        exact ih (i + 1) (tkF tt (tt (300 + i))) (by omega) ((tkF_q 0 (by omega) (pinv_lt hp (by omega))).trans hL2) (tk_pinv hp (by omega) c3) ((scR_yes c3).symm.trans he) ((scF_yes c3).symm.trans hf) _ _ _ w (lv_sub hl [0, 1] rfl)
      · have c3 := bI_f c3
        refine lv_iload_n hx hb dX0_scan_32 rfl (lv_at hl 0 rfl) ?_
        have ez : tkF tt (tt (300 + i)) = scF len (bgn (upd t 1 0)) 0 := by rw [← hf, scF_no c3]
        rw [ez] at w
        exact fin _ _ _ _ _ w (by rw [← he, scR_no c3]) dX0_scan_33
  exact lp11 len 0 (bgn (upd t 1 0)) (Nat.zero_add _) hL pinv_0 rfl rfl _ _ _ w (lv_sub hl [0, 1] rfl)
