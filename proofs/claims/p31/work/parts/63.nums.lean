theorem hdL_low : yL_low.cls = RL ∧ yL_low.cls ≠ "java/lang/invoke/MethodHandle" ∧ yL_low.cls ≠ "java/lang/invoke/VarHandle" ∧ (parseMethodDescriptor yL_low.desc).map (fun d => d.parameters.length) = some 2 := ⟨rfl, by decide, by decide, by decide +kernel⟩
set_option maxHeartbeats 4000000 in
set_option maxRecDepth 100000 in
theorem met_L_low (l : Launch) (D : va_G) (cI cJ cO : ClassId) (v : Int32) (u : Int32) (hy : ¬ u = 0) : CI l D (TY cI cJ cO) yL_low wsL_low ({ frames := 0, cells := 0, slots := 0, locals := 0 }) [.int v, .int u] [] (rem (v &&& 2147483647) u) [] := by
  refine CI.of (plainFor_of_name (by decide)) rfl (Nat.le_of_ble_eq_true rfl) (rfl) (fun p e s m below meth c A ls Q X hA w hl fin => ?_)
  obtain ⟨hx, hb, hml, hown, hts⟩ := id X.1
  have hl : lv_has ls 2 [(0, .int v), (1, .int u)] := hl
  refine lv_iload_n hx hb dL_low_0 rfl (lv_at hl 0 rfl) ?_
  refine lv_ldc (v := 2147483647) hx hb hown (hts _ (List.mem_of_getElem? (i := 1) rfl)) dL_low_1 ?_
  refine lv_iand hx hb dL_low_3 ?_
  refine lv_iload_n hx hb dL_low_4 rfl (lv_at hl 1 rfl) ?_
  refine lv_irem hx hb dL_low_5 hy ?_
  exact fin _ _ _ _ _ w (by rfl) dL_low_6
theorem hdL_swing : yL_swing.cls = RL ∧ yL_swing.cls ≠ "java/lang/invoke/MethodHandle" ∧ yL_swing.cls ≠ "java/lang/invoke/VarHandle" ∧ (parseMethodDescriptor yL_swing.desc).map (fun d => d.parameters.length) = some 2 := ⟨rfl, by decide, by decide, by decide +kernel⟩
set_option maxHeartbeats 4000000 in
set_option maxRecDepth 100000 in
theorem met_L_swing (l : Launch) (D : va_G) (cI cJ cO : ClassId) (ga : Nat) (z : Nat → Int32) (x : Int32)  : CI l D (TY cI cJ cO) yL_swing wsL_swing ({ frames := 0, cells := 0, slots := 0, locals := 0 }) [.ref ga, .int x] [aI cI ga 22 0 (gz z)] (swing z x) [aI cI ga 22 0 (gz z)] := by
  refine CI.of (plainFor_of_name (by decide)) rfl (Nat.le_of_ble_eq_true rfl) (rfl) (fun p e s m below meth c A ls Q X hA w hl fin => ?_)
  obtain ⟨hx, hb, hml, hown, hts⟩ := id X.1
  have hl : lv_has ls 3 [(0, .ref ga), (1, .int x)] := hl
  refine lv_sipush (v := 176) hx hb dL_swing_0 (by decide) ?_
  refine lv_iconst (v := 3) hx hb dL_swing_3 (by decide) ?_
  refine lv_aload_n hx hb dL_swing_4 rfl (lv_at hl 0 rfl) ?_
  refine lv_iconst (v := 1) hx hb dL_swing_5 (by decide) ?_
  refine k_iald X w 0 0 rfl rfl 1 (kj := 1) rfl (by decide) (by decide) rfl (v := z 1) (gz_o _ 1 (by decide)) dL_swing_6 ?_
  refine lv_imul hx hb dL_swing_7 ?_
  refine lv_iadd hx hb dL_swing_8 ?_
  refine lv_aload_n hx hb dL_swing_9 rfl (lv_at hl 0 rfl) ?_
  refine lv_iconst (v := 5) hx hb dL_swing_10 (by decide) ?_
  refine k_iald X w 0 0 rfl rfl 5 (kj := 5) rfl (by decide) (by decide) rfl (v := z 5) (gz_o _ 5 (by decide)) dL_swing_11 ?_
  refine lv_isub hx hb dL_swing_12 ?_
  refine lv_iload_n hx hb dL_swing_13 rfl (lv_at hl 1 rfl) ?_
  refine lv_iconst (v := 2) hx hb dL_swing_14 (by decide) ?_
  refine lv_icmp_ge (tgt := 22) hx hb dL_swing_15 (by decide) (fun c1 => ?_) (fun c1 => ?_)
  · refine lv_bipush (v := 20) hx hb dL_swing_22 (by decide) ?_
    refine lv_isub hx hb dL_swing_24 ?_
    refine lv_istore_n (lv' := [(2, .int (((176 + (3 * (z 1))) - (z 5)) - 20)), (0, .ref ga), (1, .int x)]) hx hb dL_swing_25 rfl hl (by decide) rfl (fun ls hl => ?_)
    refine lv_iload_n hx hb dL_swing_26 rfl (lv_at hl 0 rfl) ?_
    refine lv_if_ge (tgt := 34) hx hb dL_swing_27 (by decide) (fun c2 => ?_) (fun c2 => ?_)
    · refine lv_iload_n hx hb dL_swing_34 rfl (lv_at hl 0 rfl) ?_
      exact fin _ _ _ _ _ w (by exact lsw_p (lsw_b c1) c2) dL_swing_35
    · refine lv_iconst (v := 0) hx hb dL_swing_30 (by decide) ?_
      refine lv_goto (tgt := 35) hx hb dL_swing_31 (by decide) ?_
      exact fin _ _ _ _ _ w (by exact lsw_n (lsw_b c1) c2) dL_swing_35
  · refine lv_iconst (v := 0) hx hb dL_swing_18 (by decide) ?_
    refine lv_goto (tgt := 24) hx hb dL_swing_19 (by decide) ?_
    refine lv_isub hx hb dL_swing_24 ?_
    refine lv_istore_n (lv' := [(2, .int (((176 + (3 * (z 1))) - (z 5)) - 0)), (0, .ref ga), (1, .int x)]) hx hb dL_swing_25 rfl hl (by decide) rfl (fun ls hl => ?_)
    refine lv_iload_n hx hb dL_swing_26 rfl (lv_at hl 0 rfl) ?_
    refine lv_if_ge (tgt := 34) hx hb dL_swing_27 (by decide) (fun c3 => ?_) (fun c3 => ?_)
    · refine lv_iload_n hx hb dL_swing_34 rfl (lv_at hl 0 rfl) ?_
      exact fin _ _ _ _ _ w (by exact lsw_p (lsw_a c1) c3) dL_swing_35
    · refine lv_iconst (v := 0) hx hb dL_swing_30 (by decide) ?_
      refine lv_goto (tgt := 35) hx hb dL_swing_31 (by decide) ?_
      exact fin _ _ _ _ _ w (by exact lsw_n (lsw_a c1) c3) dL_swing_35
theorem hdL_goes : yL_goes.cls = RL ∧ yL_goes.cls ≠ "java/lang/invoke/MethodHandle" ∧ yL_goes.cls ≠ "java/lang/invoke/VarHandle" ∧ (parseMethodDescriptor yL_goes.desc).map (fun d => d.parameters.length) = some 2 := ⟨rfl, by decide, by decide, by decide +kernel⟩
set_option maxHeartbeats 4000000 in
set_option maxRecDepth 100000 in
theorem met_L_goes (l : Launch) (D : va_G) (cI cJ cO : ClassId) (ga : Nat) (z : Nat → Int32) (x : Int32)  : CI l D (TY cI cJ cO) yL_goes wsL_goes ({ frames := 1, cells := 0, slots := 0, locals := 22 }) [.ref ga, .int x] [aI cI ga 22 0 (gz z)] (bI (goes z x)) [aI cI ga 22 0 (gz z)] := by
  refine CI.of (plainFor_of_name (by decide)) rfl (Nat.le_of_ble_eq_true rfl) (bI_n _) (fun p e s m below meth c A ls Q X hA w hl fin => ?_)
  obtain ⟨hx, hb, hml, hown, hts⟩ := id X.1
  have hl : lv_has ls 2 [(0, .ref ga), (1, .int x)] := hl
  refine lv_aload_n hx hb dL_goes_0 rfl (lv_at hl 0 rfl) ?_
  refine lv_iconst (v := 1) hx hb dL_goes_1 (by decide) ?_
  refine k_iald X w 0 0 rfl rfl 1 (kj := 1) rfl (by decide) (by decide) rfl (v := z 1) (gz_o _ 1 (by decide)) dL_goes_2 ?_
  refine lv_if_le (tgt := 20) hx hb dL_goes_3 (by decide) (fun c1 => ?_) (fun c1 => ?_)
  · refine lv_iconst (v := 0) hx hb dL_goes_20 (by decide) ?_
    exact fin _ _ _ _ _ w (by simp [goes, bI, c1]) dL_goes_21
  · refine lv_aload_n hx hb dL_goes_6 rfl (lv_at hl 0 rfl) ?_
    refine lv_iload_n hx hb dL_goes_7 rfl (lv_at hl 1 rfl) ?_
    refine k_ciR (k_runS X w (met_L_swing l D cI cJ cO ga z x  s.heap.size) gL_goes_L_swing rfl rfl rfl 2 hdL_swing ⟨Nat.le_of_ble_eq_true rfl, Nat.le_of_ble_eq_true rfl⟩ [0] rfl rfl rfl hl.1 rfl (Nat.le_of_ble_eq_true rfl) dL_goes_8 ⟨Nat.le_of_ble_eq_true rfl, Nat.le_of_ble_eq_true rfl⟩) w hA [0] rfl (fun H locs w => ?_)
    refine lv_bipush (v := 119) hx hb dL_goes_11 (by decide) ?_
    refine lv_icmp_le (tgt := 20) hx hb dL_goes_13 (by decide) (fun c2 => ?_) (fun c2 => ?_)
    · have c2 := le119.mp c2
      refine lv_iconst (v := 0) hx hb dL_goes_20 (by decide) ?_
      exact fin _ _ _ _ _ w (by simp [goes, bI, c1, c2]) dL_goes_21
    · have c2 : ¬ swing z x < 120 := fun h => c2 (le119.mpr h)
      refine lv_iconst (v := 1) hx hb dL_goes_16 (by decide) ?_
      refine lv_goto (tgt := 21) hx hb dL_goes_17 (by decide) ?_
      exact fin _ _ _ _ _ w (by simp [goes, bI, c1, c2]) dL_goes_21
theorem hdL_down : yL_down.cls = RL ∧ yL_down.cls ≠ "java/lang/invoke/MethodHandle" ∧ yL_down.cls ≠ "java/lang/invoke/VarHandle" ∧ (parseMethodDescriptor yL_down.desc).map (fun d => d.parameters.length) = some 2 := ⟨rfl, by decide, by decide, by decide +kernel⟩
set_option maxHeartbeats 4000000 in
set_option maxRecDepth 100000 in
theorem met_L_down (l : Launch) (D : va_G) (cI cJ cO : ClassId) (v : Int32) (u : Int32) (hy : ¬ u = 0) : CI l D (TY cI cJ cO) yL_down wsL_down ({ frames := 0, cells := 0, slots := 0, locals := 0 }) [.int v, .int u] [] (dwn v u) [] := by
  refine CI.of (plainFor_of_name (by decide)) rfl (Nat.le_of_ble_eq_true rfl) (rfl) (fun p e s m below meth c A ls Q X hA w hl fin => ?_)
  obtain ⟨hx, hb, hml, hown, hts⟩ := id X.1
  have hl : lv_has ls 3 [(0, .int v), (1, .int u)] := hl
  refine lv_ldc (v := 100000) hx hb hown (hts _ (List.mem_of_getElem? (i := 1) rfl)) dL_down_0 ?_
  refine lv_iload_n hx hb dL_down_2 rfl (lv_at hl 1 rfl) ?_
  refine lv_idiv hx hb dL_down_3 hy ?_
  refine lv_iconst (v := 1) hx hb dL_down_4 (by decide) ?_
  refine lv_iadd hx hb dL_down_5 ?_
  refine lv_istore_n (lv' := [(2, .int ((100000 / u) + 1)), (0, .int v), (1, .int u)]) hx hb dL_down_6 rfl hl (by decide) rfl (fun ls hl => ?_)
  refine lv_iload_n hx hb dL_down_7 rfl (lv_at hl 1 rfl) ?_
  refine lv_iload_n hx hb dL_down_8 rfl (lv_at hl 0 rfl) ?_
  refine lv_iload_n hx hb dL_down_9 rfl (lv_at hl 2 rfl) ?_
  refine lv_imul hx hb dL_down_10 ?_
  refine lv_iadd hx hb dL_down_11 ?_
  refine lv_iload_n hx hb dL_down_12 rfl (lv_at hl 2 rfl) ?_
  refine lv_idiv hx hb dL_down_13 hy ?_
  refine lv_iload_n hx hb dL_down_14 rfl (lv_at hl 0 rfl) ?_
  refine lv_isub hx hb dL_down_15 ?_
  exact fin _ _ _ _ _ w (by rfl) dL_down_16
theorem hdL_rate : yL_rate.cls = RL ∧ yL_rate.cls ≠ "java/lang/invoke/MethodHandle" ∧ yL_rate.cls ≠ "java/lang/invoke/VarHandle" ∧ (parseMethodDescriptor yL_rate.desc).map (fun d => d.parameters.length) = some 2 := ⟨rfl, by decide, by decide, by decide +kernel⟩
set_option maxHeartbeats 4000000 in
set_option maxRecDepth 100000 in
theorem met_L_rate (l : Launch) (D : va_G) (cI cJ cO : ClassId) (ga : Nat) (z : Nat → Int32) (k : Nat) (hob : okb z) (hk : k < 6) : CI l D (TY cI cJ cO) yL_rate wsL_rate ({ frames := 1, cells := 0, slots := 0, locals := 22 }) [.ref ga, .int (nI k)] [aI cI ga 22 0 (gz z)] (rate z k) [aI cI ga 22 0 (gz z)] := by
  refine CI.of (plainFor_of_name (by decide)) rfl (Nat.le_of_ble_eq_true rfl) (rfl) (fun p e s m below meth c A ls Q X hA w hl fin => ?_)
  obtain ⟨hx, hb, hml, hown, hts⟩ := id X.1
  have hl : lv_has ls 3 [(0, .ref ga), (1, .int (nI k))] := hl
  refine lv_aload_n hx hb dL_rate_0 rfl (lv_at hl 0 rfl) ?_
  refine lv_iconst (v := 2) hx hb dL_rate_1 (by decide) ?_
  refine k_iald X w 0 0 rfl rfl 2 (kj := 2) rfl (by decide) (by decide) rfl (v := z 2) (gz_o _ 2 (by decide)) dL_rate_2 ?_
  refine lv_iconst (v := 2) hx hb dL_rate_3 (by decide) ?_
  refine lv_aload_n hx hb dL_rate_4 rfl (lv_at hl 0 rfl) ?_
  refine lv_iconst (v := 4) hx hb dL_rate_5 (by decide) ?_
  refine k_iald X w 0 0 rfl rfl 4 (kj := 4) rfl (by decide) (by decide) rfl (v := z 4) (gz_o _ 4 (by decide)) dL_rate_6 ?_
  refine lv_imul hx hb dL_rate_7 ?_
  refine lv_iadd hx hb dL_rate_8 ?_
  refine lv_aload_n hx hb dL_rate_9 rfl (lv_at hl 0 rfl) ?_
  refine lv_bipush (v := 16) hx hb dL_rate_10 (by decide) ?_
  refine lv_iload_n hx hb dL_rate_12 rfl (lv_at hl 1 rfl) ?_
  refine lv_iadd hx hb dL_rate_13 ?_
  refine k_iald X w 0 0 rfl rfl (16 + k) (kj := 16 + k) (Nat.zero_add _) (by omega) (by decide) (nI_addp rfl rfl) (v := z (19 + k)) (gz_w _ _) dL_rate_14 ?_
  refine lv_sipush (v := 360) hx hb dL_rate_15 (by decide) ?_
  refine lv_aload_n hx hb dL_rate_18 rfl (lv_at hl 0 rfl) ?_
  refine lv_iload_n hx hb dL_rate_19 rfl (lv_at hl 1 rfl) ?_
  refine k_ciR (k_runS X w (met_L_swing l D cI cJ cO ga z (nI k)  s.heap.size) gL_rate_L_swing rfl rfl rfl 2 hdL_swing ⟨Nat.le_of_ble_eq_true rfl, Nat.le_of_ble_eq_true rfl⟩ [0] rfl rfl rfl hl.1 rfl (Nat.le_of_ble_eq_true rfl) dL_rate_20 ⟨Nat.le_of_ble_eq_true rfl, Nat.le_of_ble_eq_true rfl⟩) w hA [0] rfl (fun H locs w => ?_)
  refine lv_isub hx hb dL_rate_23 ?_
  refine lv_imul hx hb dL_rate_24 ?_
  refine lv_bipush (v := 100) hx hb dL_rate_25 (by decide) ?_
  refine k_ciR (k_runS X w (met_L_down l D cI cJ cO ((z (19 + k)) * (360 - (swing z (nI k)))) 100 (by decide) H.size) gL_rate_L_down rfl rfl rfl 2 hdL_down ⟨Nat.le_of_ble_eq_true rfl, Nat.le_of_ble_eq_true rfl⟩ [] rfl rfl rfl hl.1 rfl (Nat.le_of_ble_eq_true rfl) dL_rate_27 ⟨Nat.le_of_ble_eq_true rfl, Nat.le_of_ble_eq_true rfl⟩) w hA [] rfl (fun H locs w => ?_)
  refine lv_iadd hx hb dL_rate_30 ?_
  refine lv_istore_n (lv' := [(2, .int (((z 2) + (2 * (z 4))) + (dwn ((z (19 + k)) * (360 - (swing z (nI k)))) 100))), (0, .ref ga), (1, .int (nI k))]) hx hb dL_rate_31 rfl hl (by decide) rfl (fun ls hl => ?_)
  refine lv_aload_n hx hb dL_rate_32 rfl (lv_at hl 1 rfl) ?_
  refine lv_iconst (v := 4) hx hb dL_rate_33 (by decide) ?_
  refine k_iald X w 0 0 rfl rfl 4 (kj := 4) rfl (by decide) (by decide) rfl (v := z 4) (gz_o _ 4 (by decide)) dL_rate_34 ?_
  refine lv_bipush (v := 50) hx hb dL_rate_35 (by decide) ?_
  refine lv_icmp_le (tgt := 46) hx hb dL_rate_37 (by decide) (fun c1 => ?_) (fun c1 => ?_)
  · refine lv_aload_n hx hb dL_rate_46 rfl (lv_at hl 1 rfl) ?_
    refine lv_iload_n hx hb dL_rate_47 rfl (lv_at hl 2 rfl) ?_
    refine k_ciR (k_runS X w (met_L_swing l D cI cJ cO ga z (nI k)  H.size) gL_rate_L_swing rfl rfl rfl 2 hdL_swing ⟨Nat.le_of_ble_eq_true rfl, Nat.le_of_ble_eq_true rfl⟩ [0] rfl rfl rfl hl.1 rfl (Nat.le_of_ble_eq_true rfl) dL_rate_48 ⟨Nat.le_of_ble_eq_true rfl, Nat.le_of_ble_eq_true rfl⟩) w hA [0] rfl (fun H locs w => ?_)
    refine lv_sipush (v := 300) hx hb dL_rate_51 (by decide) ?_
    refine lv_icmp_le (tgt := 65) hx hb dL_rate_54 (by decide) (fun c2 => ?_) (fun c2 => ?_)
    · refine lv_iload_n hx hb dL_rate_65 rfl (lv_at hl 0 rfl) ?_
      exact fin _ _ _ _ _ w (by exact lrt_c (lrt_0 hob hk) c1 c2) dL_rate_66
    · refine lv_iload_n hx hb dL_rate_57 rfl (lv_at hl 0 rfl) ?_
      refine lv_sipush (v := 600) hx hb dL_rate_58 (by decide) ?_
      refine lv_iadd hx hb dL_rate_61 ?_
      refine lv_goto (tgt := 66) hx hb dL_rate_62 (by decide) ?_
      exact fin _ _ _ _ _ w (by exact lrt_b (lrt_0 hob hk) c1 c2) dL_rate_66
  · refine lv_iload_n hx hb dL_rate_40 rfl (lv_at hl 0 rfl) ?_
    refine lv_sipush (v := 300) hx hb dL_rate_41 (by decide) ?_
    refine lv_iadd hx hb dL_rate_44 ?_
    exact fin _ _ _ _ _ w (by exact lrt_a (lrt_0 hob hk) c1) dL_rate_45
theorem hdL_beat : yL_beat.cls = RL ∧ yL_beat.cls ≠ "java/lang/invoke/MethodHandle" ∧ yL_beat.cls ≠ "java/lang/invoke/VarHandle" ∧ (parseMethodDescriptor yL_beat.desc).map (fun d => d.parameters.length) = some 2 := ⟨rfl, by decide, by decide, by decide +kernel⟩
set_option maxHeartbeats 4000000 in
set_option maxRecDepth 100000 in
theorem met_L_beat (l : Launch) (D : va_G) (cI cJ cO : ClassId) (ga : Nat) (z : Nat → Int32) (x : Int32)  : CI l D (TY cI cJ cO) yL_beat wsL_beat ({ frames := 0, cells := 0, slots := 0, locals := 0 }) [.ref ga, .int x] [aI cI ga 22 0 (gz z)] (beat z x) [aI cI ga 22 0 (gz z)] := by
  refine CI.of (plainFor_of_name (by decide)) rfl (Nat.le_of_ble_eq_true rfl) (rfl) (fun p e s m below meth c A ls Q X hA w hl fin => ?_)
  obtain ⟨hx, hb, hml, hown, hts⟩ := id X.1
  have hl : lv_has ls 2 [(0, .ref ga), (1, .int x)] := hl
  refine lv_aload_n hx hb dL_beat_0 rfl (lv_at hl 0 rfl) ?_
  refine lv_iconst (v := 3) hx hb dL_beat_1 (by decide) ?_
  refine k_iald X w 0 0 rfl rfl 3 (kj := 3) rfl (by decide) (by decide) rfl (v := z 3) (gz_o _ 3 (by decide)) dL_beat_2 ?_
  refine lv_if_ge (tgt := 13) hx hb dL_beat_3 (by decide) (fun c1 => ?_) (fun c1 => ?_)
  · refine lv_aload_n hx hb dL_beat_13 rfl (lv_at hl 0 rfl) ?_
    refine lv_iconst (v := 3) hx hb dL_beat_14 (by decide) ?_
    refine k_iald X w 0 0 rfl rfl 3 (kj := 3) rfl (by decide) (by decide) rfl (v := z 3) (gz_o _ 3 (by decide)) dL_beat_15 ?_
    refine lv_aload_n hx hb dL_beat_16 rfl (lv_at hl 0 rfl) ?_
    refine lv_iconst (v := 5) hx hb dL_beat_17 (by decide) ?_
    refine k_iald X w 0 0 rfl rfl 5 (kj := 5) rfl (by decide) (by decide) rfl (v := z 5) (gz_o _ 5 (by decide)) dL_beat_18 ?_
    refine lv_bipush (v := 10) hx hb dL_beat_19 (by decide) ?_
    refine lv_idiv hx hb dL_beat_21 (by decide) ?_
    refine lv_iadd hx hb dL_beat_22 ?_
    refine lv_iload_n hx hb dL_beat_23 rfl (lv_at hl 1 rfl) ?_
    refine lv_iconst (v := 2) hx hb dL_beat_24 (by decide) ?_
    refine lv_icmp_ge (tgt := 32) hx hb dL_beat_25 (by decide) (fun c2 => ?_) (fun c2 => ?_)
    · refine lv_iconst (v := 2) hx hb dL_beat_32 (by decide) ?_
      refine lv_iadd hx hb dL_beat_33 ?_
      exact fin _ _ _ _ _ w (by exact lbt_b (lam_p c1) c2) dL_beat_34
    · refine lv_iconst (v := 0) hx hb dL_beat_28 (by decide) ?_
      refine lv_goto (tgt := 33) hx hb dL_beat_29 (by decide) ?_
      refine lv_iadd hx hb dL_beat_33 ?_
      exact fin _ _ _ _ _ w (by exact lbt_a (lam_p c1) c2) dL_beat_34
  · refine lv_aload_n hx hb dL_beat_6 rfl (lv_at hl 0 rfl) ?_
    refine lv_iconst (v := 3) hx hb dL_beat_7 (by decide) ?_
    refine k_iald X w 0 0 rfl rfl 3 (kj := 3) rfl (by decide) (by decide) rfl (v := z 3) (gz_o _ 3 (by decide)) dL_beat_8 ?_
    refine lv_ineg hx hb dL_beat_9 ?_
    refine lv_goto (tgt := 16) hx hb dL_beat_10 (by decide) ?_
    refine lv_aload_n hx hb dL_beat_16 rfl (lv_at hl 0 rfl) ?_
    refine lv_iconst (v := 5) hx hb dL_beat_17 (by decide) ?_
    refine k_iald X w 0 0 rfl rfl 5 (kj := 5) rfl (by decide) (by decide) rfl (v := z 5) (gz_o _ 5 (by decide)) dL_beat_18 ?_
    refine lv_bipush (v := 10) hx hb dL_beat_19 (by decide) ?_
    refine lv_idiv hx hb dL_beat_21 (by decide) ?_
    refine lv_iadd hx hb dL_beat_22 ?_
    refine lv_iload_n hx hb dL_beat_23 rfl (lv_at hl 1 rfl) ?_
    refine lv_iconst (v := 2) hx hb dL_beat_24 (by decide) ?_
    refine lv_icmp_ge (tgt := 32) hx hb dL_beat_25 (by decide) (fun c3 => ?_) (fun c3 => ?_)
    · refine lv_iconst (v := 2) hx hb dL_beat_32 (by decide) ?_
      refine lv_iadd hx hb dL_beat_33 ?_
      exact fin _ _ _ _ _ w (by exact lbt_b (lam_n c1) c3) dL_beat_34
    · refine lv_iconst (v := 0) hx hb dL_beat_28 (by decide) ?_
      refine lv_goto (tgt := 33) hx hb dL_beat_29 (by decide) ?_
      refine lv_iadd hx hb dL_beat_33 ?_
      exact fin _ _ _ _ _ w (by exact lbt_a (lam_n c1) c3) dL_beat_34
theorem hdL_why : yL_why.cls = RL ∧ yL_why.cls ≠ "java/lang/invoke/MethodHandle" ∧ yL_why.cls ≠ "java/lang/invoke/VarHandle" ∧ (parseMethodDescriptor yL_why.desc).map (fun d => d.parameters.length) = some 2 := ⟨rfl, by decide, by decide, by decide +kernel⟩
set_option maxHeartbeats 4000000 in
set_option maxRecDepth 100000 in
theorem met_L_why (l : Launch) (D : va_G) (cI cJ cO : ClassId) (ga : Nat) (z : Nat → Int32) (k : Nat) (n : Nat) (hob : okb z) (hn : z 10 = nI n) (hn4 : n ≤ 40) : CI l D (TY cI cJ cO) yL_why wsL_why ({ frames := 1, cells := 0, slots := 0, locals := 22 }) [.ref ga, .int (nI k)] [aI cI ga 22 0 (gz z)] (why z k) [aI cI ga 22 0 (gz z)] := by
  refine CI.of (plainFor_of_name (by decide)) rfl (Nat.le_of_ble_eq_true rfl) (rfl) (fun p e s m below meth c A ls Q X hA w hl fin => ?_)
  obtain ⟨hx, hb, hml, hown, hts⟩ := id X.1
  have hl : lv_has ls 2 [(0, .ref ga), (1, .int (nI k))] := hl
  refine lv_aload_n hx hb dL_why_0 rfl (lv_at hl 0 rfl) ?_
  refine lv_iconst (v := 1) hx hb dL_why_1 (by decide) ?_
  refine k_iald X w 0 0 rfl rfl 1 (kj := 1) rfl (by decide) (by decide) rfl (v := z 1) (gz_o _ 1 (by decide)) dL_why_2 ?_
  refine lv_if_ne (tgt := 8) hx hb dL_why_3 (by decide) (fun c1 => ?_) (fun c1 => ?_)
  · have c1 := left_pos hob c1
    refine lv_aload_n hx hb dL_why_8 rfl (lv_at hl 0 rfl) ?_
    refine lv_iload_n hx hb dL_why_9 rfl (lv_at hl 1 rfl) ?_
    refine k_ciR (k_runS X w (met_L_swing l D cI cJ cO ga z (nI k)  s.heap.size) gL_why_L_swing rfl rfl rfl 2 hdL_swing ⟨Nat.le_of_ble_eq_true rfl, Nat.le_of_ble_eq_true rfl⟩ [0] rfl rfl rfl hl.1 rfl (Nat.le_of_ble_eq_true rfl) dL_why_10 ⟨Nat.le_of_ble_eq_true rfl, Nat.le_of_ble_eq_true rfl⟩) w hA [0] rfl (fun H locs w => ?_)
    refine lv_bipush (v := 120) hx hb dL_why_13 (by decide) ?_
    refine lv_icmp_ge (tgt := 20) hx hb dL_why_15 (by decide) (fun c2 => ?_) (fun c2 => ?_)
    · refine lv_aload_n hx hb dL_why_20 rfl (lv_at hl 0 rfl) ?_
      refine lv_iload_n hx hb dL_why_21 rfl (lv_at hl 1 rfl) ?_
      refine k_ciR (k_runS X w (met_L_beat l D cI cJ cO ga z (nI k)  H.size) gL_why_L_beat rfl rfl rfl 2 hdL_beat ⟨Nat.le_of_ble_eq_true rfl, Nat.le_of_ble_eq_true rfl⟩ [0] rfl rfl rfl hl.1 rfl (Nat.le_of_ble_eq_true rfl) dL_why_22 ⟨Nat.le_of_ble_eq_true rfl, Nat.le_of_ble_eq_true rfl⟩) w hA [0] rfl (fun H locs w => ?_)
      refine lv_aload_n hx hb dL_why_25 rfl (lv_at hl 0 rfl) ?_
      refine lv_bipush (v := 12) hx hb dL_why_26 (by decide) ?_
      refine k_iald X w 0 0 rfl rfl 12 (kj := 12) rfl (by decide) (by decide) rfl (v := z 12) (gz_o _ 12 (by decide)) dL_why_28 ?_
      refine lv_icmp_le (tgt := 34) hx hb dL_why_29 (by decide) (fun c3 => ?_) (fun c3 => ?_)
      · refine lv_aload_n hx hb dL_why_34 rfl (lv_at hl 0 rfl) ?_
        refine lv_iconst (v := 4) hx hb dL_why_35 (by decide) ?_
        refine k_iald X w 0 0 rfl rfl 4 (kj := 4) rfl (by decide) (by decide) rfl (v := z 4) (gz_o _ 4 (by decide)) dL_why_36 ?_
        refine lv_aload_n hx hb dL_why_37 rfl (lv_at hl 0 rfl) ?_
        refine lv_bipush (v := 13) hx hb dL_why_38 (by decide) ?_
        refine k_iald X w 0 0 rfl rfl 13 (kj := 13) rfl (by decide) (by decide) rfl (v := z 13) (gz_o _ 13 (by decide)) dL_why_40 ?_
        refine lv_icmp_le (tgt := 48) hx hb dL_why_41 (by decide) (fun c4 => ?_) (fun c4 => ?_)
        · refine lv_aload_n hx hb dL_why_48 rfl (lv_at hl 0 rfl) ?_
          refine lv_bipush (v := 10) hx hb dL_why_49 (by decide) ?_
          refine k_iald X w 0 0 rfl rfl 10 (kj := 10) rfl (by decide) (by decide) rfl (v := z 10) (gz_o _ 10 (by decide)) dL_why_51 ?_
          refine lv_bipush (v := 40) hx hb dL_why_52 (by decide) ?_
          refine lv_icmp_ne (tgt := 61) hx hb dL_why_54 (by decide) (fun c5 => ?_) (fun c5 => ?_)
          · have c5 := (full_40 hn hn4).mpr c5
            refine lv_iconst (v := 0) hx hb dL_why_61 (by decide) ?_
            exact fin _ _ _ _ _ w (by simp only [why, c1, c2, c3, c4, c5, if_true, if_false, Bool.true_eq_false, reduceIte]) dL_why_62
          · have c5 := full_y c5
            refine lv_iconst (v := 5) hx hb dL_why_57 (by decide) ?_
            refine lv_goto (tgt := 62) hx hb dL_why_58 (by decide) ?_
            exact fin _ _ _ _ _ w (by simp only [why, c1, c2, c3, c4, c5, if_true, if_false, Bool.true_eq_false, reduceIte]) dL_why_62
        · refine lv_iconst (v := 4) hx hb dL_why_44 (by decide) ?_
          refine lv_goto (tgt := 62) hx hb dL_why_45 (by decide) ?_
          exact fin _ _ _ _ _ w (by simp only [why, c1, c2, c3, c4, if_true, if_false, Bool.true_eq_false, reduceIte]) dL_why_62
      · refine lv_iconst (v := 3) hx hb dL_why_32 (by decide) ?_
        exact fin _ _ _ _ _ w (by simp only [why, c1, c2, c3, if_true, if_false, Bool.true_eq_false, reduceIte]) dL_why_33
    · refine lv_iconst (v := 2) hx hb dL_why_18 (by decide) ?_
      exact fin _ _ _ _ _ w (by simp only [why, c1, c2, if_true, if_false, Bool.true_eq_false, reduceIte]) dL_why_19
  · have c1 := (left_0 hob).mp c1
    refine lv_iconst (v := 1) hx hb dL_why_6 (by decide) ?_
    exact fin _ _ _ _ _ w (by simp only [why, c1, if_true, if_false, Bool.true_eq_false, reduceIte]) dL_why_7
theorem hdL_hour : yL_hour.cls = RL ∧ yL_hour.cls ≠ "java/lang/invoke/MethodHandle" ∧ yL_hour.cls ≠ "java/lang/invoke/VarHandle" ∧ (parseMethodDescriptor yL_hour.desc).map (fun d => d.parameters.length) = some 1 := ⟨rfl, by decide, by decide, by decide +kernel⟩
set_option maxHeartbeats 4000000 in
set_option maxRecDepth 100000 in
theorem met_L_hour (l : Launch) (D : va_G) (cI cJ cO : ClassId) (ga : Nat) (z : Nat → Int32) (k : Nat) (hob : okb z) (hz : z 6 = nI k) (hk : k < 6) : CV l D (TY cI cJ cO) yL_hour wsL_hour ({ frames := 2, cells := 0, slots := 0, locals := 44 }) [.ref ga] [aI cI ga 22 0 (gz z)] [aI cI ga 22 0 (gz (hourF z k))] := by
  refine CV.of (plainFor_of_name (by decide)) rfl (Nat.le_of_ble_eq_true rfl) (fun p e s m below meth c A ls Q X hA w hl fin => ?_)
  obtain ⟨hx, hb, hml, hown, hts⟩ := id X.1
  have hl : lv_has ls 1 [(0, .ref ga)] := hl
  refine lv_aload_n hx hb dL_hour_0 rfl (lv_at hl 0 rfl) ?_
  refine lv_iconst (v := 0) hx hb dL_hour_1 (by decide) ?_
  refine lv_dup2_11 hx hb dL_hour_2 rfl rfl ?_
  refine k_iald X w 0 0 rfl rfl 0 (kj := 0) rfl (by decide) (by decide) rfl (v := z 0) (gz_o _ 0 (by decide)) dL_hour_3 ?_
  refine lv_iconst (v := 1) hx hb dL_hour_4 (by decide) ?_
  refine lv_iadd hx hb dL_hour_5 ?_
  refine k_iast X w 0 0 rfl rfl 0 (kj := 0) rfl (by decide) (by decide) rfl (ws2 := [aI cI ga 22 0 (upd (gz z) 0 ((z 0) + 1))]) rfl dL_hour_6 (fun H locs w => ?_)
  have w := w.to (show [aI cI ga 22 0 (upd (gz z) 0 ((z 0) + 1))] = [aI cI ga 22 0 (gz (upd z 0 ((z 0) + 1)))] by rw [show upd (gz z) 0 ((z 0) + 1) = gz (upd z 0 ((z 0) + 1)) from gz_u (by decide)])
  have w := w.to (show [aI cI ga 22 0 (gz (upd z 0 ((z 0) + 1)))] = [aI cI ga 22 0 (gz (tick z))] from rfl)
  refine lv_aload_n hx hb dL_hour_7 rfl (lv_at hl 0 rfl) ?_
  refine lv_aload_n hx hb dL_hour_8 rfl (lv_at hl 0 rfl) ?_
  refine lv_bipush (v := 6) hx hb dL_hour_9 (by decide) ?_
  refine k_iald X w 0 0 rfl rfl 6 (kj := 6) rfl (by decide) (by decide) rfl (v := nI k) (((gz_o _ 6 (by decide)).trans ((tick_o _ 6 (by decide) (by decide)).trans rfl)).trans hz) dL_hour_11 ?_
  refine k_ciR (k_runS X w (met_L_goes l D cI cJ cO ga (tick z) (nI k)  H.size) gL_hour_L_goes rfl rfl rfl 2 hdL_goes ⟨Nat.le_of_ble_eq_true rfl, Nat.le_of_ble_eq_true rfl⟩ [0] rfl rfl rfl hl.1 rfl (Nat.le_of_ble_eq_true rfl) dL_hour_12 ⟨Nat.le_of_ble_eq_true rfl, Nat.le_of_ble_eq_true rfl⟩) w hA [0] rfl (fun H locs w => ?_)
  refine lv_if_ne (tgt := 27) hx hb dL_hour_15 (by decide) (fun c1 => ?_) (fun c1 => ?_)
  · have c1 := bI_t c1
    refine lv_aload_n hx hb dL_hour_27 rfl (lv_at hl 0 rfl) ?_
    refine lv_bipush (v := 7) hx hb dL_hour_28 (by decide) ?_
    refine lv_dup2_11 hx hb dL_hour_30 rfl rfl ?_
    refine k_iald X w 0 0 rfl rfl 7 (kj := 7) rfl (by decide) (by decide) rfl (v := z 7) ((gz_o _ 7 (by decide)).trans ((tick_o _ 7 (by decide) (by decide)).trans rfl)) dL_hour_31 ?_
    refine lv_aload_n hx hb dL_hour_32 rfl (lv_at hl 0 rfl) ?_
    refine lv_aload_n hx hb dL_hour_33 rfl (lv_at hl 0 rfl) ?_
    refine lv_bipush (v := 6) hx hb dL_hour_34 (by decide) ?_
    refine k_iald X w 0 0 rfl rfl 6 (kj := 6) rfl (by decide) (by decide) rfl (v := nI k) (((gz_o _ 6 (by decide)).trans ((tick_o _ 6 (by decide) (by decide)).trans rfl)).trans hz) dL_hour_36 ?_
    refine k_ciR (k_runS X w (met_L_rate l D cI cJ cO ga (tick z) k (okb_u (by omega) hob) hk H.size) gL_hour_L_rate rfl rfl rfl 2 hdL_rate ⟨Nat.le_of_ble_eq_true rfl, Nat.le_of_ble_eq_true rfl⟩ [0] rfl rfl rfl hl.1 rfl (Nat.le_of_ble_eq_true rfl) dL_hour_37 ⟨Nat.le_of_ble_eq_true rfl, Nat.le_of_ble_eq_true rfl⟩) w hA [0] rfl (fun H locs w => ?_)
    refine lv_bipush (v := 24) hx hb dL_hour_40 (by decide) ?_
    refine k_ciR (k_runS X w (met_L_down l D cI cJ cO (rate (tick z) k) 24 (by decide) H.size) gL_hour_L_down rfl rfl rfl 2 hdL_down ⟨Nat.le_of_ble_eq_true rfl, Nat.le_of_ble_eq_true rfl⟩ [] rfl rfl rfl hl.1 rfl (Nat.le_of_ble_eq_true rfl) dL_hour_42 ⟨Nat.le_of_ble_eq_true rfl, Nat.le_of_ble_eq_true rfl⟩) w hA [] rfl (fun H locs w => ?_)
    refine lv_iadd hx hb dL_hour_45 ?_
    refine k_iast X w 0 0 rfl rfl 7 (kj := 7) rfl (by decide) (by decide) rfl (ws2 := [aI cI ga 22 0 (upd (gz (tick z)) 7 ((z 7) + (dwn (rate (tick z) k) 24)))]) rfl dL_hour_46 (fun H locs w => ?_)
    have w := w.to (show [aI cI ga 22 0 (upd (gz (tick z)) 7 ((z 7) + (dwn (rate (tick z) k) 24)))] = [aI cI ga 22 0 (gz (upd (tick z) 7 ((z 7) + (dwn (rate (tick z) k) 24))))] by rw [show upd (gz (tick z)) 7 ((z 7) + (dwn (rate (tick z) k) 24)) = gz (upd (tick z) 7 ((z 7) + (dwn (rate (tick z) k) 24))) from gz_u (by decide)])
    refine lv_aload_n hx hb dL_hour_47 rfl (lv_at hl 0 rfl) ?_
    refine lv_iconst (v := 1) hx hb dL_hour_48 (by decide) ?_
    refine lv_dup2_11 hx hb dL_hour_49 rfl rfl ?_
    refine k_iald X w 0 0 rfl rfl 1 (kj := 1) rfl (by decide) (by decide) rfl (v := z 1) ((gz_o _ 1 (by decide)).trans ((upd_no (by decide)).trans ((tick_o _ 1 (by decide) (by decide)).trans rfl))) dL_hour_50 ?_
    refine lv_iconst (v := 1) hx hb dL_hour_51 (by decide) ?_
    refine lv_isub hx hb dL_hour_52 ?_
    refine k_iast X w 0 0 rfl rfl 1 (kj := 1) rfl (by decide) (by decide) rfl (ws2 := [aI cI ga 22 0 (upd (gz (upd (tick z) 7 ((z 7) + (dwn (rate (tick z) k) 24)))) 1 ((z 1) - 1))]) rfl dL_hour_53 (fun H locs w => ?_)
    have w := w.to (show [aI cI ga 22 0 (upd (gz (upd (tick z) 7 ((z 7) + (dwn (rate (tick z) k) 24)))) 1 ((z 1) - 1))] = [aI cI ga 22 0 (gz (upd (upd (tick z) 7 ((z 7) + (dwn (rate (tick z) k) 24))) 1 ((z 1) - 1)))] by rw [show upd (gz (upd (tick z) 7 ((z 7) + (dwn (rate (tick z) k) 24)))) 1 ((z 1) - 1) = gz (upd (upd (tick z) 7 ((z 7) + (dwn (rate (tick z) k) 24))) 1 ((z 1) - 1)) from gz_u (by decide)])
    refine lv_aload_n hx hb dL_hour_54 rfl (lv_at hl 0 rfl) ?_
    refine lv_bipush (v := 9) hx hb dL_hour_55 (by decide) ?_
    refine lv_dup2_11 hx hb dL_hour_57 rfl rfl ?_
    refine k_iald X w 0 0 rfl rfl 9 (kj := 9) rfl (by decide) (by decide) rfl (v := z 9) ((gz_o _ 9 (by decide)).trans ((upd_no (by decide)).trans ((upd_no (by decide)).trans ((tick_o _ 9 (by decide) (by decide)).trans rfl)))) dL_hour_58 ?_
    refine lv_iconst (v := 1) hx hb dL_hour_59 (by decide) ?_
    refine lv_iadd hx hb dL_hour_60 ?_
    refine k_iast X w 0 0 rfl rfl 9 (kj := 9) rfl (by decide) (by decide) rfl (ws2 := [aI cI ga 22 0 (upd (gz (upd (upd (tick z) 7 ((z 7) + (dwn (rate (tick z) k) 24))) 1 ((z 1) - 1))) 9 ((z 9) + 1))]) rfl dL_hour_61 (fun H locs w => ?_)
    have w := w.to (show [aI cI ga 22 0 (upd (gz (upd (upd (tick z) 7 ((z 7) + (dwn (rate (tick z) k) 24))) 1 ((z 1) - 1))) 9 ((z 9) + 1))] = [aI cI ga 22 0 (gz (upd (upd (upd (tick z) 7 ((z 7) + (dwn (rate (tick z) k) 24))) 1 ((z 1) - 1)) 9 ((z 9) + 1)))] by rw [show upd (gz (upd (upd (tick z) 7 ((z 7) + (dwn (rate (tick z) k) 24))) 1 ((z 1) - 1))) 9 ((z 9) + 1) = gz (upd (upd (upd (tick z) 7 ((z 7) + (dwn (rate (tick z) k) 24))) 1 ((z 1) - 1)) 9 ((z 9) + 1)) from gz_u (by decide)])
    refine lv_aload_n hx hb dL_hour_62 rfl (lv_at hl 0 rfl) ?_
    refine lv_bipush (v := 9) hx hb dL_hour_63 (by decide) ?_
    refine k_iald X w 0 0 rfl rfl 9 (kj := 9) rfl (by decide) (by decide) rfl (v := (z 9) + 1) ((gz_o _ 9 (by decide)).trans (upd_is _ _ _)) dL_hour_65 ?_
    refine lv_bipush (v := 24) hx hb dL_hour_66 (by decide) ?_
    refine lv_irem hx hb dL_hour_68 (by decide) ?_
    refine lv_if_ne (tgt := 87) hx hb dL_hour_69 (by decide) (fun c2 => ?_) (fun c2 => ?_)
    · have ez : gz (upd (upd (upd (tick z) 7 ((z 7) + (dwn (rate (tick z) k) 24))) 1 ((z 1) - 1)) 9 ((z 9) + 1)) = gz (hourF z k) := by rw [goneF_is hob hk]; exact congrArg gz (lhr_a hob hk c1 c2)
      rw [ez] at w
      exact fin _ _ _ _ w dL_hour_87
    · refine lv_aload_n hx hb dL_hour_72 rfl (lv_at hl 0 rfl) ?_
      refine lv_iconst (v := 5) hx hb dL_hour_73 (by decide) ?_
      refine k_iald X w 0 0 rfl rfl 5 (kj := 5) rfl (by decide) (by decide) rfl (v := z 5) ((gz_o _ 5 (by decide)).trans ((upd_no (by decide)).trans ((upd_no (by decide)).trans ((upd_no (by decide)).trans ((tick_o _ 5 (by decide) (by decide)).trans rfl))))) dL_hour_74 ?_
      refine lv_bipush (v := 100) hx hb dL_hour_75 (by decide) ?_
      refine lv_icmp_ge (tgt := 87) hx hb dL_hour_77 (by decide) (fun c3 => ?_) (fun c3 => ?_)
      · have ez : gz (upd (upd (upd (tick z) 7 ((z 7) + (dwn (rate (tick z) k) 24))) 1 ((z 1) - 1)) 9 ((z 9) + 1)) = gz (hourF z k) := by rw [goneF_is hob hk]; exact congrArg gz (lhr_b hob hk c1 c2 (nlt_le.mpr c3))
        rw [ez] at w
        exact fin _ _ _ _ w dL_hour_87
      · refine lv_aload_n hx hb dL_hour_80 rfl (lv_at hl 0 rfl) ?_
        refine lv_iconst (v := 5) hx hb dL_hour_81 (by decide) ?_
        refine lv_dup2_11 hx hb dL_hour_82 rfl rfl ?_
        refine k_iald X w 0 0 rfl rfl 5 (kj := 5) rfl (by decide) (by decide) rfl (v := z 5) ((gz_o _ 5 (by decide)).trans ((upd_no (by decide)).trans ((upd_no (by decide)).trans ((upd_no (by decide)).trans ((tick_o _ 5 (by decide) (by decide)).trans rfl))))) dL_hour_83 ?_
        refine lv_iconst (v := 1) hx hb dL_hour_84 (by decide) ?_
        refine lv_iadd hx hb dL_hour_85 ?_
        refine k_iast X w 0 0 rfl rfl 5 (kj := 5) rfl (by decide) (by decide) rfl (ws2 := [aI cI ga 22 0 (upd (gz (upd (upd (upd (tick z) 7 ((z 7) + (dwn (rate (tick z) k) 24))) 1 ((z 1) - 1)) 9 ((z 9) + 1))) 5 ((z 5) + 1))]) rfl dL_hour_86 (fun H locs w => ?_)
        have w := w.to (show [aI cI ga 22 0 (upd (gz (upd (upd (upd (tick z) 7 ((z 7) + (dwn (rate (tick z) k) 24))) 1 ((z 1) - 1)) 9 ((z 9) + 1))) 5 ((z 5) + 1))] = [aI cI ga 22 0 (gz (upd (upd (upd (upd (tick z) 7 ((z 7) + (dwn (rate (tick z) k) 24))) 1 ((z 1) - 1)) 9 ((z 9) + 1)) 5 ((z 5) + 1)))] by rw [show upd (gz (upd (upd (upd (tick z) 7 ((z 7) + (dwn (rate (tick z) k) 24))) 1 ((z 1) - 1)) 9 ((z 9) + 1))) 5 ((z 5) + 1) = gz (upd (upd (upd (upd (tick z) 7 ((z 7) + (dwn (rate (tick z) k) 24))) 1 ((z 1) - 1)) 9 ((z 9) + 1)) 5 ((z 5) + 1)) from gz_u (by decide)])
        have ez : gz (upd (upd (upd (upd (tick z) 7 ((z 7) + (dwn (rate (tick z) k) 24))) 1 ((z 1) - 1)) 9 ((z 9) + 1)) 5 ((z 5) + 1)) = gz (hourF z k) := by rw [goneF_is hob hk]; exact congrArg gz (lhr_c hob hk c1 c2 (fa_of_nle c3))
        rw [ez] at w
        exact fin _ _ _ _ w dL_hour_87
  · have c1 := bI_f c1
    refine lv_aload_n hx hb dL_hour_18 rfl (lv_at hl 0 rfl) ?_
    refine lv_bipush (v := 8) hx hb dL_hour_19 (by decide) ?_
    refine lv_dup2_11 hx hb dL_hour_21 rfl rfl ?_
    refine k_iald X w 0 0 rfl rfl 8 (kj := 8) rfl (by decide) (by decide) rfl (v := z 8) ((gz_o _ 8 (by decide)).trans ((tick_o _ 8 (by decide) (by decide)).trans rfl)) dL_hour_22 ?_
    refine lv_iconst (v := 1) hx hb dL_hour_23 (by decide) ?_
    refine lv_iadd hx hb dL_hour_24 ?_
    refine k_iast X w 0 0 rfl rfl 8 (kj := 8) rfl (by decide) (by decide) rfl (ws2 := [aI cI ga 22 0 (upd (gz (tick z)) 8 ((z 8) + 1))]) rfl dL_hour_25 (fun H locs w => ?_)
    have w := w.to (show [aI cI ga 22 0 (upd (gz (tick z)) 8 ((z 8) + 1))] = [aI cI ga 22 0 (gz (upd (tick z) 8 ((z 8) + 1)))] by rw [show upd (gz (tick z)) 8 ((z 8) + 1) = gz (upd (tick z) 8 ((z 8) + 1)) from gz_u (by decide)])
    have ez : gz (upd (tick z) 8 ((z 8) + 1)) = gz (hourF z k) := by exact congrArg gz (lhr_n c1)
    rw [ez] at w
    exact fin _ _ _ _ w dL_hour_26
theorem hdL_hours : yL_hours.cls = RL ∧ yL_hours.cls ≠ "java/lang/invoke/MethodHandle" ∧ yL_hours.cls ≠ "java/lang/invoke/VarHandle" ∧ (parseMethodDescriptor yL_hours.desc).map (fun d => d.parameters.length) = some 2 := ⟨rfl, by decide, by decide, by decide +kernel⟩
set_option maxHeartbeats 4000000 in
set_option maxRecDepth 100000 in
theorem met_L_hours (l : Launch) (D : va_G) (cI cJ cO : ClassId) (ga : Nat) (z : Nat → Int32) (k : Nat) (N : Nat) (hob : okb z) (hz : z 6 = nI k) (hk : k < 6) (hN : N < 2 ^ 31) : CI l D (TY cI cJ cO) yL_hours wsL_hours ({ frames := 3, cells := 0, slots := 0, locals := 64 }) [.ref ga, .int (nI N)] [aI cI ga 22 0 (gz z)] (hoursF N z k 9 - z 9) [aI cI ga 22 0 (gz (hoursF N z k))] := by
  refine CI.of (plainFor_of_name (by decide)) rfl (Nat.le_of_ble_eq_true rfl) (rfl) (fun p e s m below meth c A ls Q X hA w hl fin => ?_)
  obtain ⟨hx, hb, hml, hown, hts⟩ := id X.1
  have hl : lv_has ls 4 [(0, .ref ga), (1, .int (nI N))] := hl
  refine lv_aload_n hx hb dL_hours_0 rfl (lv_at hl 0 rfl) ?_
  refine lv_bipush (v := 9) hx hb dL_hours_1 (by decide) ?_
  refine k_iald X w 0 0 rfl rfl 9 (kj := 9) rfl (by decide) (by decide) rfl (v := z 9) (gz_o _ 9 (by decide)) dL_hours_3 ?_
  refine lv_istore_n (lv' := [(2, .int (z 9)), (0, .ref ga), (1, .int (nI N))]) hx hb dL_hours_4 rfl hl (by decide) rfl (fun ls hl => ?_)
  refine lv_iconst (v := 0) hx hb dL_hours_5 (by decide) ?_
  refine lv_istore_n (lv' := [(3, .int 0), (2, .int (z 9)), (0, .ref ga), (1, .int (nI N))]) hx hb dL_hours_6 rfl hl (by decide) rfl (fun ls hl => ?_)
  have lp7 : ∀ (n : Nat) (i : Nat) (zz : Nat → Int32), i + n = N → zz 6 = nI k → okb zz → hoursF n zz k = hoursF N z k → ∀ (H : Heap) (locs : List Loc) (ls : Array Slot), wd D A s.heap H locs ([aI cI ga 22 0 (gz zz)]) → lv_has ls 4 [(3, .int (nI i)), (2, .int (z 9)), (0, .ref ga), (1, .int (nI N))] → W p l e ({ frames := 3, cells := 0, slots := 0, locals := 64 }) s m [.ref ga, .int (nI N)].toArray below meth c H locs 0 0 Q (F0 m 7 ls []) := by
    intro n
    induction n with
    | zero =>
      intro i zz hi hzz hbb he H locs ls w hl
      replace hi : i = N := hi
      refine lv_iload_n hx hb dL_hours_7 rfl (lv_at hl 0 rfl) ?_
      refine lv_iload_n hx hb dL_hours_8 rfl (lv_at hl 3 rfl) ?_
      refine lv_icmp_ge (tgt := 22) hx hb dL_hours_9 (by decide) (fun c1 => ?_) (fun c1 => absurd (nI_le (by omega) (by omega)) c1)
      refine lv_aload_n hx hb dL_hours_22 rfl (lv_at hl 2 rfl) ?_
      refine lv_bipush (v := 9) hx hb dL_hours_23 (by decide) ?_
      refine k_iald X w 0 0 rfl rfl 9 (kj := 9) rfl (by decide) (by decide) rfl (v := zz 9) (gz_o _ 9 (by decide)) dL_hours_25 ?_
      refine lv_iload_n hx hb dL_hours_26 rfl (lv_at hl 1 rfl) ?_
      refine lv_isub hx hb dL_hours_27 ?_
      have ez : gz zz = gz (hoursF N z k) := by exact congrArg gz he
      rw [ez] at w
      exact fin _ _ _ _ _ w (by rw [← he]; rfl) dL_hours_28
    | succ n ih =>
      intro i zz hi hzz hbb he H locs ls w hl
      refine lv_iload_n hx hb dL_hours_7 rfl (lv_at hl 0 rfl) ?_
      refine lv_iload_n hx hb dL_hours_8 rfl (lv_at hl 3 rfl) ?_
      refine lv_icmp_ge (tgt := 22) hx hb dL_hours_9 (by decide) (fun c2 => absurd c2 (nI_ge (by omega) (by omega))) (fun c2 => ?_)
      refine lv_aload_n hx hb dL_hours_12 rfl (lv_at hl 2 rfl) ?_
      refine k_cv (wr := []) (ws2 := [aI cI ga 22 0 (gz (hourF zz k))]) (k_runS X w (met_L_hour l D cI cJ cO ga zz k hbb hzz hk H.size) gL_hours_L_hour rfl rfl rfl 1 hdL_hour ⟨Nat.le_of_ble_eq_true rfl, Nat.le_of_ble_eq_true rfl⟩ [0] rfl rfl rfl hl.1 rfl (Nat.le_of_ble_eq_true rfl) dL_hours_13 ⟨Nat.le_of_ble_eq_true rfl, Nat.le_of_ble_eq_true rfl⟩) w hA [0] [] rfl rfl rfl (by decide) [0] rfl rfl (fun H locs w => ?_)
      refine lv_iinc (v := nI (i + 1)) (lv' := [(3, .int (nI (i + 1))), (2, .int (z 9)), (0, .ref ga), (1, .int (nI N))]) hx hb dL_hours_16 hl (k := 0) rfl (nI_1 _) (by decide) rfl (fun ls hl => ?_)
      refine lv_goto (tgt := 7) hx hb dL_hours_19 (by decide) ?_
      exact ih (i + 1) (hourF zz k) (by omega) ((hourF_6 _ _).trans hzz) (hourF_okb hbb) he _ _ _ w (lv_sub hl [0, 1, 2, 3] rfl)
  exact lp7 N 0 z (Nat.zero_add _) hz hob rfl _ _ _ w (lv_sub hl [0, 1, 2, 3] rfl)
theorem hdL_copy : yL_copy.cls = RL ∧ yL_copy.cls ≠ "java/lang/invoke/MethodHandle" ∧ yL_copy.cls ≠ "java/lang/invoke/VarHandle" ∧ (parseMethodDescriptor yL_copy.desc).map (fun d => d.parameters.length) = some 2 := ⟨rfl, by decide, by decide, by decide +kernel⟩
set_option maxHeartbeats 4000000 in
set_option maxRecDepth 100000 in
theorem met_L_copy (l : Launch) (D : va_G) (cI cJ cO : ClassId) (fa : Nat) (ta : Nat) (f : Nat → Int32) (v : Nat → Int32)  : CV l D (TY cI cJ cO) yL_copy wsL_copy ({ frames := 0, cells := 0, slots := 0, locals := 0 }) [.ref fa, .ref ta] [aI cI fa 22 0 f, aI cI ta 22 0 v] [aI cI fa 22 0 f, aI cI ta 22 0 f] := by
  refine CV.of (plainFor_of_name (by decide)) rfl (Nat.le_of_ble_eq_true rfl) (fun p e s m below meth c A ls Q X hA w hl fin => ?_)
  obtain ⟨hx, hb, hml, hown, hts⟩ := id X.1
  have hl : lv_has ls 3 [(0, .ref fa), (1, .ref ta)] := hl
  refine lv_iconst (v := 0) hx hb dL_copy_0 (by decide) ?_
  refine lv_istore_n (lv' := [(2, .int 0), (0, .ref fa), (1, .ref ta)]) hx hb dL_copy_1 rfl hl (by decide) rfl (fun ls hl => ?_)
  have w := w.to (show [aI cI fa 22 0 f, aI cI ta 22 0 v] = [aI cI fa 22 0 f, aI cI ta 22 0 (cpy v f 0 0)] by rw [show aI cI ta 22 0 v = aI cI ta 22 0 (cpy v f 0 0) from congrArg (aI cI ta 22 0) cpy_0.symm])
  have lp2 : ∀ (n : Nat) (i : Nat), i + n = 22 → ∀ (H : Heap) (locs : List Loc) (ls : Array Slot), wd D A s.heap H locs ([aI cI fa 22 0 f, aI cI ta 22 0 (cpy v f 0 i)]) → lv_has ls 3 [(2, .int (nI i)), (0, .ref fa), (1, .ref ta)] → W p l e ({ frames := 0, cells := 0, slots := 0, locals := 0 }) s m [.ref fa, .ref ta].toArray below meth c H locs 0 0 Q (F0 m 2 ls []) := by
    intro n
    induction n with
    | zero =>
      intro i hi H locs ls w hl
      refine lv_iload_n hx hb dL_copy_2 rfl (lv_at hl 0 rfl) ?_
      refine lv_aload_n hx hb dL_copy_3 rfl (lv_at hl 1 rfl) ?_
      refine k_alen X w 0 0 rfl rfl (v := 22) rfl dL_copy_4 ?_
      refine lv_icmp_ge (tgt := 20) hx hb dL_copy_5 (by decide) (fun c1 => ?_) (fun c1 => absurd (nI_le (a := 22) (b := i) (by omega) (by omega)) c1)
      have w := w.to (show [aI cI fa 22 0 f, aI cI ta 22 0 (cpy v f 0 i)] = [aI cI fa 22 0 f, aI cI ta 22 0 f] by rw [show aI cI ta 22 0 (cpy v f 0 i) = aI cI ta 22 0 f from copy_al (by omega)])
      exact fin _ _ _ _ w dL_copy_20
    | succ n ih =>
      intro i hi H locs ls w hl
      refine lv_iload_n hx hb dL_copy_2 rfl (lv_at hl 0 rfl) ?_
      refine lv_aload_n hx hb dL_copy_3 rfl (lv_at hl 1 rfl) ?_
      refine k_alen X w 0 0 rfl rfl (v := 22) rfl dL_copy_4 ?_
      refine lv_icmp_ge (tgt := 20) hx hb dL_copy_5 (by decide) (fun c2 => absurd c2 (nI_ge (a := i) (b := 22) (by omega) (by omega))) (fun c2 => ?_)
      refine lv_aload_n hx hb dL_copy_8 rfl (lv_at hl 2 rfl) ?_
      refine lv_iload_n hx hb dL_copy_9 rfl (lv_at hl 0 rfl) ?_
      refine lv_aload_n hx hb dL_copy_10 rfl (lv_at hl 1 rfl) ?_
      refine lv_iload_n hx hb dL_copy_11 rfl (lv_at hl 0 rfl) ?_
      refine k_iald X w 0 0 rfl rfl i (kj := i) (Nat.zero_add _) (by omega) (by decide) rfl (v := f i) rfl dL_copy_12 ?_
      refine k_iast X w 1 0 rfl rfl i (kj := i) (Nat.zero_add _) (by omega) (by decide) rfl (ws2 := [aI cI fa 22 0 f, aI cI ta 22 0 (upd (cpy v f 0 i) i (f i))]) rfl dL_copy_13 (fun H locs w => ?_)
      have w := w.to (show [aI cI fa 22 0 f, aI cI ta 22 0 (upd (cpy v f 0 i) i (f i))] = [aI cI fa 22 0 f, aI cI ta 22 0 (cpy v f 0 (i + 1))] by rw [show aI cI ta 22 0 (upd (cpy v f 0 i) i (f i)) = aI cI ta 22 0 (cpy v f 0 (i + 1)) from congrArg (aI cI ta 22 0) cpy_s0])
      refine lv_iinc (v := nI (i + 1)) (lv' := [(2, .int (nI (i + 1))), (0, .ref fa), (1, .ref ta)]) hx hb dL_copy_14 hl (k := 0) rfl (nI_1 _) (by decide) rfl (fun ls hl => ?_)
      refine lv_goto (tgt := 2) hx hb dL_copy_17 (by decide) ?_
      exact ih (i + 1) (by omega) _ _ _ w (lv_sub hl [0, 1, 2] rfl)
  exact lp2 22 0 (Nat.zero_add _) _ _ _ w (lv_sub hl [0, 1, 2] rfl)
theorem hdL_latest : yL_latest.cls = RL ∧ yL_latest.cls ≠ "java/lang/invoke/MethodHandle" ∧ yL_latest.cls ≠ "java/lang/invoke/VarHandle" ∧ (parseMethodDescriptor yL_latest.desc).map (fun d => d.parameters.length) = some 3 := ⟨rfl, by decide, by decide, by decide +kernel⟩
set_option maxHeartbeats 4000000 in
set_option maxRecDepth 100000 in
theorem met_L_latest (l : Launch) (D : va_G) (cI cJ cO : ClassId) (ga : Nat) (aa : Nat) (z : Nat → Int32) (x : Int32) (len : Nat) (hn : z 10 = nI len) (hn4 : len ≤ 40) (hpp : ∀ i, i < len → pA z i - pA z i / 100 * 100 = z (25 + (i * 5 + 1))) : CI l D (TY cI cJ cO) yL_latest wsL_latest ({ frames := 0, cells := 0, slots := 0, locals := 0 }) [.ref ga, .ref aa, .int x] [aI cI ga 22 0 (gz z), aI cI aa 40 0 (pA z)] (lat z x len) [aI cI ga 22 0 (gz z), aI cI aa 40 0 (pA z)] := by
  refine CI.of (plainFor_of_name (by decide)) rfl (Nat.le_of_ble_eq_true rfl) (rfl) (fun p e s m below meth c A ls Q X hA w hl fin => ?_)
  obtain ⟨hx, hb, hml, hown, hts⟩ := id X.1
  have hl : lv_has ls 4 [(0, .ref ga), (1, .ref aa), (2, .int x)] := hl
  refine lv_aload_n hx hb dL_latest_0 rfl (lv_at hl 0 rfl) ?_
  refine lv_bipush (v := 10) hx hb dL_latest_1 (by decide) ?_
  refine k_iald X w 0 0 rfl rfl 10 (kj := 10) rfl (by decide) (by decide) rfl (v := nI len) ((gz_o _ 10 (by decide)).trans hn) dL_latest_3 ?_
  refine lv_iconst (v := 1) hx hb dL_latest_4 (by decide) ?_
  refine lv_isub hx hb dL_latest_5 ?_
  refine lv_istore_n (lv' := [(3, .int ((nI len) - 1)), (0, .ref ga), (1, .ref aa), (2, .int x)]) hx hb dL_latest_6 rfl hl (by decide) rfl (fun ls hl => ?_)
  have lp7 : ∀ (n : Nat), n ≤ len → lat z x n = lat z x len → ∀ (H : Heap) (locs : List Loc) (ls : Array Slot), wd D A s.heap H locs ([aI cI ga 22 0 (gz z), aI cI aa 40 0 (pA z)]) → lv_has ls 4 [(3, .int (nI n - 1)), (0, .ref ga), (1, .ref aa), (2, .int x)] → W p l e ({ frames := 0, cells := 0, slots := 0, locals := 0 }) s m [.ref ga, .ref aa, .int x].toArray below meth c H locs 0 0 Q (F0 m 7 ls []) := by
    intro n
    induction n with
    | zero =>
      intro hi he H locs ls w hl
      refine lv_iload_n hx hb dL_latest_7 rfl (lv_at hl 0 rfl) ?_
      refine lv_if_lt (tgt := 29) hx hb dL_latest_8 (by decide) (fun c1 => ?_) (fun c1 => absurd (by decide) c1)
      refine lv_iconst (v := (-1)) hx hb dL_latest_29 (by decide) ?_
      exact fin _ _ _ _ _ w (by exact he) dL_latest_30
    | succ n ih =>
      intro hi he H locs ls w hl
      rw [nI_pred] at hl
      refine lv_iload_n hx hb dL_latest_7 rfl (lv_at hl 0 rfl) ?_
      refine lv_if_lt (tgt := 29) hx hb dL_latest_8 (by decide) (fun c2 => absurd c2 (nI_pos (by omega))) (fun c2 => ?_)
      refine lv_aload_n hx hb dL_latest_11 rfl (lv_at hl 2 rfl) ?_
      refine lv_iload_n hx hb dL_latest_12 rfl (lv_at hl 0 rfl) ?_
      refine k_iald X w 1 0 rfl rfl n (kj := n) (Nat.zero_add _) (by omega) (by decide) rfl (v := pA z n) rfl dL_latest_13 ?_
      refine lv_bipush (v := 100) hx hb dL_latest_14 (by decide) ?_
      refine lv_irem hx hb dL_latest_16 (by decide) ?_
      refine lv_iload_n hx hb dL_latest_17 rfl (lv_at hl 3 rfl) ?_
      refine lv_icmp_ne (tgt := 23) hx hb dL_latest_18 (by decide) (fun c3 => ?_) (fun c3 => ?_)
      · rw [hpp n (by omega)] at c3
        refine lv_iinc (v := nI n - 1) (lv' := [(3, .int (nI n - 1)), (0, .ref ga), (1, .ref aa), (2, .int x)]) hx hb dL_latest_23 hl (k := 0) rfl (dec1 _) (by decide) rfl (fun ls hl => ?_)
        refine lv_goto (tgt := 7) hx hb dL_latest_26 (by decide) ?_
        exact ih  (by omega) ((lat_no c3).symm.trans he) _ _ _ w (lv_sub hl [0, 1, 2, 3] rfl)
      · rw [hpp n (by omega)] at c3
        refine lv_iload_n hx hb dL_latest_21 rfl (lv_at hl 0 rfl) ?_
        exact fin _ _ _ _ _ w (by rw [← he, lat_yes c3]) dL_latest_22
  exact lp7 len  (Nat.le_refl _) rfl _ _ _ w (lv_sub hl [0, 1, 2, 3] rfl)
