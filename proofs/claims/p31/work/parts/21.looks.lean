theorem hdX5_poseNumber : yX5_poseNumber.cls = RX5 ∧ yX5_poseNumber.cls ≠ "java/lang/invoke/MethodHandle" ∧ yX5_poseNumber.cls ≠ "java/lang/invoke/VarHandle" ∧ (parseMethodDescriptor yX5_poseNumber.desc).map (fun d => d.parameters.length) = some 2 := ⟨rfl, by decide, by decide, by decide +kernel⟩
theorem iX5_poseNumber_X3 : ∀ w ∈ wsX30, w ∈ wsX5_poseNumber := fun _ h => List.mem_cons_of_mem _ (List.mem_append_left _ (List.mem_append_left _ (List.mem_append_right _ h)))
theorem iX5_poseNumber_X5 : ∀ w ∈ wsX50, w ∈ wsX5_poseNumber := fun _ h => List.mem_cons_of_mem _ (List.mem_append_left _ (List.mem_append_left _ (List.mem_append_left _ (List.mem_append_right _ h))))
set_option maxHeartbeats 4000000 in
set_option maxRecDepth 100000 in
theorem met_X5_poseNumber (l : Launch) (D : va_G) (cI cJ cO : ClassId) (xx : Nat) (ak : Nat) (b : Nat) (tr : Nat) (hf : Int32) (sv : Nat) (an : Nat) (w1n : Nat) (wan : Nat) (pan : Nat) (ran : Nat) (san : Nat) (z : Nat → Int32) (len : Nat) (k : Nat) (wh : Nat) (hk : k < 6) (hn : z 10 = nI len) (hn4 : len ≤ 40) (hw : wh < 8) : CI l D (TY cI cJ cO) yX5_poseNumber wsX5_poseNumber ({ frames := 3, cells := 0, slots := 0, locals := 66 }) [.ref xx, .int (nI k), .int (nI wh)] [oX xx an ak sv b tr hf, oS an w1n pan san z, aI cI san 4 12 z, oW w1n wan z, aI cI wan 6 19 z, oP pan ran z, aI cI ran 200 25 z] (pnum z len k wh) [oX xx an ak sv b tr hf, oS an w1n pan san z, aI cI san 4 12 z, oW w1n wan z, aI cI wan 6 19 z, oP pan ran z, aI cI ran 200 25 z] := by
  refine CI.of (plainFor_of_name (by decide)) rfl (Nat.le_of_ble_eq_true rfl) (rfl) (fun p e s m below meth c A ls Q X hA w hl fin => ?_)
  obtain ⟨hx, hb, hml, hown, hts⟩ := id X.1
  have hl : lv_has ls 4 [(0, .ref xx), (1, .int (nI k)), (2, .int (nI wh))] := hl
  rcases (show wh = 0 ∨ wh = 1 ∨ wh = 2 ∨ wh = 3 ∨ wh = 4 ∨ wh = 5 ∨ wh = 6 ∨ wh = 7 by omega) with rfl | rfl | rfl | rfl | rfl | rfl | rfl | rfl
  · refine lv_aload_n hx hb dX5_poseNumber_0 rfl (lv_at hl 0 rfl) ?_
    refine k_get X w 0 rfl rfl 0 (by decide) rfl iX5_poseNumber_X5 (List.mem_of_getElem? (i := 1) rfl) (v := .ref an) rfl dX5_poseNumber_1 ?_
    refine k_get X w 1 rfl rfl 1 (by decide) rfl iX5_poseNumber_X3 (List.mem_of_getElem? (i := 2) rfl) (v := .ref pan) rfl dX5_poseNumber_4 ?_
    refine lv_iload_n hx hb dX5_poseNumber_7 rfl (lv_at hl 1 rfl) ?_
    refine k_ciR (k_runV X w (met_X1_latestIn l D cI cJ cO pan ran z (nI k) len hn hn4 s.heap.size) gX5_poseNumber_X1_latestIn rfl rfl rfl 1 hdX1_latestIn ⟨Nat.le_of_ble_eq_true rfl, Nat.le_of_ble_eq_true rfl⟩ [5, 6] rfl rfl 5 1 rfl rfl rfl rfl hl.1 rfl (Nat.le_of_ble_eq_true rfl) dX5_poseNumber_8 ⟨Nat.le_of_ble_eq_true rfl, Nat.le_of_ble_eq_true rfl⟩) w hA [5, 6] rfl (fun H locs w => ?_)
    refine lv_istore_n (lv' := [(3, .int (lat z (nI k) len)), (0, .ref xx), (1, .int (nI k)), (2, .int (nI 0))]) hx hb dX5_poseNumber_11 rfl hl (by decide) rfl (fun ls hl => ?_)
    refine lv_iload_n hx hb dX5_poseNumber_12 rfl (lv_at hl 3 rfl) ?_
    refine lv_tableIn (off := 43) (tgt := 56) hx hb dX5_poseNumber_13 (by decide) (by decide) (by decide) (by decide) ?_
    refine lv_aload_n hx hb dX5_poseNumber_56 rfl (lv_at hl 1 rfl) ?_
    refine k_get X w 0 rfl rfl 0 (by decide) rfl iX5_poseNumber_X5 (List.mem_of_getElem? (i := 1) rfl) (v := .ref an) rfl dX5_poseNumber_57 ?_
    refine k_get X w 1 rfl rfl 0 (by decide) rfl iX5_poseNumber_X3 (List.mem_of_getElem? (i := 3) rfl) (v := .ref w1n) rfl dX5_poseNumber_60 ?_
    refine lv_iload_n hx hb dX5_poseNumber_63 rfl (lv_at hl 2 rfl) ?_
    refine k_ciR (k_runV X w (met_X4_weightOf l D cI cJ cO w1n wan z k (by first | assumption | omega) H.size) gX5_poseNumber_X4_weightOf rfl rfl rfl 1 hdX4_weightOf ⟨Nat.le_of_ble_eq_true rfl, Nat.le_of_ble_eq_true rfl⟩ [3, 4] rfl rfl 3 4 rfl rfl rfl rfl hl.1 rfl (Nat.le_of_ble_eq_true rfl) dX5_poseNumber_64 ⟨Nat.le_of_ble_eq_true rfl, Nat.le_of_ble_eq_true rfl⟩) w hA [3, 4] rfl (fun H locs w => ?_)
    refine lv_bipush (v := 100) hx hb dX5_poseNumber_67 (by decide) ?_
    refine lv_iadd hx hb dX5_poseNumber_69 ?_
    exact fin _ _ _ _ _ w (by rfl) dX5_poseNumber_70
  · refine lv_aload_n hx hb dX5_poseNumber_0 rfl (lv_at hl 0 rfl) ?_
    refine k_get X w 0 rfl rfl 0 (by decide) rfl iX5_poseNumber_X5 (List.mem_of_getElem? (i := 1) rfl) (v := .ref an) rfl dX5_poseNumber_1 ?_
    refine k_get X w 1 rfl rfl 1 (by decide) rfl iX5_poseNumber_X3 (List.mem_of_getElem? (i := 2) rfl) (v := .ref pan) rfl dX5_poseNumber_4 ?_
    refine lv_iload_n hx hb dX5_poseNumber_7 rfl (lv_at hl 1 rfl) ?_
    refine k_ciR (k_runV X w (met_X1_latestIn l D cI cJ cO pan ran z (nI k) len hn hn4 s.heap.size) gX5_poseNumber_X1_latestIn rfl rfl rfl 1 hdX1_latestIn ⟨Nat.le_of_ble_eq_true rfl, Nat.le_of_ble_eq_true rfl⟩ [5, 6] rfl rfl 5 1 rfl rfl rfl rfl hl.1 rfl (Nat.le_of_ble_eq_true rfl) dX5_poseNumber_8 ⟨Nat.le_of_ble_eq_true rfl, Nat.le_of_ble_eq_true rfl⟩) w hA [5, 6] rfl (fun H locs w => ?_)
    refine lv_istore_n (lv' := [(3, .int (lat z (nI k) len)), (0, .ref xx), (1, .int (nI k)), (2, .int (nI 1))]) hx hb dX5_poseNumber_11 rfl hl (by decide) rfl (fun ls hl => ?_)
    refine lv_iload_n hx hb dX5_poseNumber_12 rfl (lv_at hl 3 rfl) ?_
    refine lv_tableIn (off := 58) (tgt := 71) hx hb dX5_poseNumber_13 (by decide) (by decide) (by decide) (by decide) ?_
    refine lv_aload_n hx hb dX5_poseNumber_71 rfl (lv_at hl 1 rfl) ?_
    refine k_get X w 0 rfl rfl 0 (by decide) rfl iX5_poseNumber_X5 (List.mem_of_getElem? (i := 1) rfl) (v := .ref an) rfl dX5_poseNumber_72 ?_
    refine k_get X w 1 rfl rfl 0 (by decide) rfl iX5_poseNumber_X3 (List.mem_of_getElem? (i := 3) rfl) (v := .ref w1n) rfl dX5_poseNumber_75 ?_
    refine lv_iload_n hx hb dX5_poseNumber_78 rfl (lv_at hl 2 rfl) ?_
    refine k_ciR (k_runV X w (met_X4_swingIn l D cI cJ cO w1n wan z (nI k)  H.size) gX5_poseNumber_X4_swingIn rfl rfl rfl 1 hdX4_swingIn ⟨Nat.le_of_ble_eq_true rfl, Nat.le_of_ble_eq_true rfl⟩ [3, 4] rfl rfl 3 4 rfl rfl rfl rfl hl.1 rfl (Nat.le_of_ble_eq_true rfl) dX5_poseNumber_79 ⟨Nat.le_of_ble_eq_true rfl, Nat.le_of_ble_eq_true rfl⟩) w hA [3, 4] rfl (fun H locs w => ?_)
    exact fin _ _ _ _ _ w (by rfl) dX5_poseNumber_82
  · refine lv_aload_n hx hb dX5_poseNumber_0 rfl (lv_at hl 0 rfl) ?_
    refine k_get X w 0 rfl rfl 0 (by decide) rfl iX5_poseNumber_X5 (List.mem_of_getElem? (i := 1) rfl) (v := .ref an) rfl dX5_poseNumber_1 ?_
    refine k_get X w 1 rfl rfl 1 (by decide) rfl iX5_poseNumber_X3 (List.mem_of_getElem? (i := 2) rfl) (v := .ref pan) rfl dX5_poseNumber_4 ?_
    refine lv_iload_n hx hb dX5_poseNumber_7 rfl (lv_at hl 1 rfl) ?_
    refine k_ciR (k_runV X w (met_X1_latestIn l D cI cJ cO pan ran z (nI k) len hn hn4 s.heap.size) gX5_poseNumber_X1_latestIn rfl rfl rfl 1 hdX1_latestIn ⟨Nat.le_of_ble_eq_true rfl, Nat.le_of_ble_eq_true rfl⟩ [5, 6] rfl rfl 5 1 rfl rfl rfl rfl hl.1 rfl (Nat.le_of_ble_eq_true rfl) dX5_poseNumber_8 ⟨Nat.le_of_ble_eq_true rfl, Nat.le_of_ble_eq_true rfl⟩) w hA [5, 6] rfl (fun H locs w => ?_)
    refine lv_istore_n (lv' := [(3, .int (lat z (nI k) len)), (0, .ref xx), (1, .int (nI k)), (2, .int (nI 2))]) hx hb dX5_poseNumber_11 rfl hl (by decide) rfl (fun ls hl => ?_)
    refine lv_iload_n hx hb dX5_poseNumber_12 rfl (lv_at hl 3 rfl) ?_
    refine lv_tableIn (off := 70) (tgt := 83) hx hb dX5_poseNumber_13 (by decide) (by decide) (by decide) (by decide) ?_
    refine lv_aload_n hx hb dX5_poseNumber_83 rfl (lv_at hl 1 rfl) ?_
    refine k_get X w 0 rfl rfl 0 (by decide) rfl iX5_poseNumber_X5 (List.mem_of_getElem? (i := 1) rfl) (v := .ref an) rfl dX5_poseNumber_84 ?_
    refine k_get X w 1 rfl rfl 0 (by decide) rfl iX5_poseNumber_X3 (List.mem_of_getElem? (i := 3) rfl) (v := .ref w1n) rfl dX5_poseNumber_87 ?_
    refine lv_iload_n hx hb dX5_poseNumber_90 rfl (lv_at hl 2 rfl) ?_
    refine k_ciR (k_runV X w (met_X4_rateIn l D cI cJ cO w1n wan z k hk H.size) gX5_poseNumber_X4_rateIn rfl rfl rfl 1 hdX4_rateIn ⟨Nat.le_of_ble_eq_true rfl, Nat.le_of_ble_eq_true rfl⟩ [3, 4] rfl rfl 3 4 rfl rfl rfl rfl hl.1 rfl (Nat.le_of_ble_eq_true rfl) dX5_poseNumber_91 ⟨Nat.le_of_ble_eq_true rfl, Nat.le_of_ble_eq_true rfl⟩) w hA [3, 4] rfl (fun H locs w => ?_)
    refine lv_sipush (v := 10000) hx hb dX5_poseNumber_94 (by decide) ?_
    refine lv_iadd hx hb dX5_poseNumber_97 ?_
    exact fin _ _ _ _ _ w (by rfl) dX5_poseNumber_98
  · refine lv_aload_n hx hb dX5_poseNumber_0 rfl (lv_at hl 0 rfl) ?_
    refine k_get X w 0 rfl rfl 0 (by decide) rfl iX5_poseNumber_X5 (List.mem_of_getElem? (i := 1) rfl) (v := .ref an) rfl dX5_poseNumber_1 ?_
    refine k_get X w 1 rfl rfl 1 (by decide) rfl iX5_poseNumber_X3 (List.mem_of_getElem? (i := 2) rfl) (v := .ref pan) rfl dX5_poseNumber_4 ?_
    refine lv_iload_n hx hb dX5_poseNumber_7 rfl (lv_at hl 1 rfl) ?_
    refine k_ciR (k_runV X w (met_X1_latestIn l D cI cJ cO pan ran z (nI k) len hn hn4 s.heap.size) gX5_poseNumber_X1_latestIn rfl rfl rfl 1 hdX1_latestIn ⟨Nat.le_of_ble_eq_true rfl, Nat.le_of_ble_eq_true rfl⟩ [5, 6] rfl rfl 5 1 rfl rfl rfl rfl hl.1 rfl (Nat.le_of_ble_eq_true rfl) dX5_poseNumber_8 ⟨Nat.le_of_ble_eq_true rfl, Nat.le_of_ble_eq_true rfl⟩) w hA [5, 6] rfl (fun H locs w => ?_)
    refine lv_istore_n (lv' := [(3, .int (lat z (nI k) len)), (0, .ref xx), (1, .int (nI k)), (2, .int (nI 3))]) hx hb dX5_poseNumber_11 rfl hl (by decide) rfl (fun ls hl => ?_)
    refine lv_iload_n hx hb dX5_poseNumber_12 rfl (lv_at hl 3 rfl) ?_
    refine lv_tableIn (off := 86) (tgt := 99) hx hb dX5_poseNumber_13 (by decide) (by decide) (by decide) (by decide) ?_
    refine lv_aload_n hx hb dX5_poseNumber_99 rfl (lv_at hl 1 rfl) ?_
    refine k_get X w 0 rfl rfl 0 (by decide) rfl iX5_poseNumber_X5 (List.mem_of_getElem? (i := 1) rfl) (v := .ref an) rfl dX5_poseNumber_100 ?_
    refine k_get X w 1 rfl rfl 0 (by decide) rfl iX5_poseNumber_X3 (List.mem_of_getElem? (i := 3) rfl) (v := .ref w1n) rfl dX5_poseNumber_103 ?_
    refine lv_iload_n hx hb dX5_poseNumber_106 rfl (lv_at hl 2 rfl) ?_
    refine k_ciR (k_runV X w (met_X4_beatErrorIn l D cI cJ cO w1n wan z (nI k)  H.size) gX5_poseNumber_X4_beatErrorIn rfl rfl rfl 1 hdX4_beatErrorIn ⟨Nat.le_of_ble_eq_true rfl, Nat.le_of_ble_eq_true rfl⟩ [3, 4] rfl rfl 3 4 rfl rfl rfl rfl hl.1 rfl (Nat.le_of_ble_eq_true rfl) dX5_poseNumber_107 ⟨Nat.le_of_ble_eq_true rfl, Nat.le_of_ble_eq_true rfl⟩) w hA [3, 4] rfl (fun H locs w => ?_)
    exact fin _ _ _ _ _ w (by rfl) dX5_poseNumber_110
  · refine lv_aload_n hx hb dX5_poseNumber_0 rfl (lv_at hl 0 rfl) ?_
    refine k_get X w 0 rfl rfl 0 (by decide) rfl iX5_poseNumber_X5 (List.mem_of_getElem? (i := 1) rfl) (v := .ref an) rfl dX5_poseNumber_1 ?_
    refine k_get X w 1 rfl rfl 1 (by decide) rfl iX5_poseNumber_X3 (List.mem_of_getElem? (i := 2) rfl) (v := .ref pan) rfl dX5_poseNumber_4 ?_
    refine lv_iload_n hx hb dX5_poseNumber_7 rfl (lv_at hl 1 rfl) ?_
    refine k_ciR (k_runV X w (met_X1_latestIn l D cI cJ cO pan ran z (nI k) len hn hn4 s.heap.size) gX5_poseNumber_X1_latestIn rfl rfl rfl 1 hdX1_latestIn ⟨Nat.le_of_ble_eq_true rfl, Nat.le_of_ble_eq_true rfl⟩ [5, 6] rfl rfl 5 1 rfl rfl rfl rfl hl.1 rfl (Nat.le_of_ble_eq_true rfl) dX5_poseNumber_8 ⟨Nat.le_of_ble_eq_true rfl, Nat.le_of_ble_eq_true rfl⟩) w hA [5, 6] rfl (fun H locs w => ?_)
    refine lv_istore_n (lv' := [(3, .int (lat z (nI k) len)), (0, .ref xx), (1, .int (nI k)), (2, .int (nI 4))]) hx hb dX5_poseNumber_11 rfl hl (by decide) rfl (fun ls hl => ?_)
    refine lv_iload_n hx hb dX5_poseNumber_12 rfl (lv_at hl 3 rfl) ?_
    refine lv_tableIn (off := 98) (tgt := 111) hx hb dX5_poseNumber_13 (by decide) (by decide) (by decide) (by decide) ?_
    refine lv_aload_n hx hb dX5_poseNumber_111 rfl (lv_at hl 1 rfl) ?_
    refine k_get X w 0 rfl rfl 0 (by decide) rfl iX5_poseNumber_X5 (List.mem_of_getElem? (i := 1) rfl) (v := .ref an) rfl dX5_poseNumber_112 ?_
    refine lv_iload_n hx hb dX5_poseNumber_115 rfl (lv_at hl 2 rfl) ?_
    refine k_ciR (k_runV X w (met_X3_whyNoReading l D cI cJ cO an w1n wan pan ran san z k hk H.size) gX5_poseNumber_X3_whyNoReading rfl rfl rfl 1 hdX3_whyNoReading ⟨Nat.le_of_ble_eq_true rfl, Nat.le_of_ble_eq_true rfl⟩ [1, 2, 3, 4, 5, 6] rfl rfl 1 3 rfl rfl rfl rfl hl.1 rfl (Nat.le_of_ble_eq_true rfl) dX5_poseNumber_116 ⟨Nat.le_of_ble_eq_true rfl, Nat.le_of_ble_eq_true rfl⟩) w hA [1, 2, 3, 4, 5, 6] rfl (fun H locs w => ?_)
    exact fin _ _ _ _ _ w (by rfl) dX5_poseNumber_119
  · refine lv_aload_n hx hb dX5_poseNumber_0 rfl (lv_at hl 0 rfl) ?_
    refine k_get X w 0 rfl rfl 0 (by decide) rfl iX5_poseNumber_X5 (List.mem_of_getElem? (i := 1) rfl) (v := .ref an) rfl dX5_poseNumber_1 ?_
    refine k_get X w 1 rfl rfl 1 (by decide) rfl iX5_poseNumber_X3 (List.mem_of_getElem? (i := 2) rfl) (v := .ref pan) rfl dX5_poseNumber_4 ?_
    refine lv_iload_n hx hb dX5_poseNumber_7 rfl (lv_at hl 1 rfl) ?_
    refine k_ciR (k_runV X w (met_X1_latestIn l D cI cJ cO pan ran z (nI k) len hn hn4 s.heap.size) gX5_poseNumber_X1_latestIn rfl rfl rfl 1 hdX1_latestIn ⟨Nat.le_of_ble_eq_true rfl, Nat.le_of_ble_eq_true rfl⟩ [5, 6] rfl rfl 5 1 rfl rfl rfl rfl hl.1 rfl (Nat.le_of_ble_eq_true rfl) dX5_poseNumber_8 ⟨Nat.le_of_ble_eq_true rfl, Nat.le_of_ble_eq_true rfl⟩) w hA [5, 6] rfl (fun H locs w => ?_)
    refine lv_istore_n (lv' := [(3, .int (lat z (nI k) len)), (0, .ref xx), (1, .int (nI k)), (2, .int (nI 5))]) hx hb dX5_poseNumber_11 rfl hl (by decide) rfl (fun ls hl => ?_)
    refine lv_iload_n hx hb dX5_poseNumber_12 rfl (lv_at hl 3 rfl) ?_
    refine lv_tableIn (off := 107) (tgt := 120) hx hb dX5_poseNumber_13 (by decide) (by decide) (by decide) (by decide) ?_
    refine lv_iload_n hx hb dX5_poseNumber_120 rfl (lv_at hl 0 rfl) ?_
    refine lv_iconst (v := (-1)) hx hb dX5_poseNumber_121 (by decide) ?_
    refine lv_icmp_ne (tgt := 129) hx hb dX5_poseNumber_122 (by decide) (fun c1 => ?_) (fun c1 => ?_)
    · obtain ⟨ej, hj, hj2⟩ := lat_j c1
      rw [ej] at hl
      refine lv_aload_n hx hb dX5_poseNumber_129 rfl (lv_at hl 1 rfl) ?_
      refine k_get X w 0 rfl rfl 0 (by decide) rfl iX5_poseNumber_X5 (List.mem_of_getElem? (i := 1) rfl) (v := .ref an) rfl dX5_poseNumber_130 ?_
      refine k_get X w 1 rfl rfl 1 (by decide) rfl iX5_poseNumber_X3 (List.mem_of_getElem? (i := 2) rfl) (v := .ref pan) rfl dX5_poseNumber_133 ?_
      refine lv_iload_n hx hb dX5_poseNumber_136 rfl (lv_at hl 0 rfl) ?_
      refine lv_iconst (v := 0) hx hb dX5_poseNumber_137 (by decide) ?_
      refine k_ciR (k_runV X w (met_X1_number l D cI cJ cO pan ran z (latj z (nI k) len) 0 len hn hn4 hj (by decide) H.size) gX5_poseNumber_X1_number rfl rfl rfl 2 hdX1_number ⟨Nat.le_of_ble_eq_true rfl, Nat.le_of_ble_eq_true rfl⟩ [5, 6] rfl rfl 5 1 rfl rfl rfl rfl hl.1 rfl (Nat.le_of_ble_eq_true rfl) dX5_poseNumber_138 ⟨Nat.le_of_ble_eq_true rfl, Nat.le_of_ble_eq_true rfl⟩) w hA [5, 6] rfl (fun H locs w => ?_)
      exact fin _ _ _ _ _ w (by rw [pnum, if_neg c1]; rfl) dX5_poseNumber_141
    · refine lv_iconst (v := (-1)) hx hb dX5_poseNumber_125 (by decide) ?_
      refine lv_goto (tgt := 141) hx hb dX5_poseNumber_126 (by decide) ?_
      exact fin _ _ _ _ _ w (by rw [pnum, if_pos c1]) dX5_poseNumber_141
  · refine lv_aload_n hx hb dX5_poseNumber_0 rfl (lv_at hl 0 rfl) ?_
    refine k_get X w 0 rfl rfl 0 (by decide) rfl iX5_poseNumber_X5 (List.mem_of_getElem? (i := 1) rfl) (v := .ref an) rfl dX5_poseNumber_1 ?_
    refine k_get X w 1 rfl rfl 1 (by decide) rfl iX5_poseNumber_X3 (List.mem_of_getElem? (i := 2) rfl) (v := .ref pan) rfl dX5_poseNumber_4 ?_
    refine lv_iload_n hx hb dX5_poseNumber_7 rfl (lv_at hl 1 rfl) ?_
    refine k_ciR (k_runV X w (met_X1_latestIn l D cI cJ cO pan ran z (nI k) len hn hn4 s.heap.size) gX5_poseNumber_X1_latestIn rfl rfl rfl 1 hdX1_latestIn ⟨Nat.le_of_ble_eq_true rfl, Nat.le_of_ble_eq_true rfl⟩ [5, 6] rfl rfl 5 1 rfl rfl rfl rfl hl.1 rfl (Nat.le_of_ble_eq_true rfl) dX5_poseNumber_8 ⟨Nat.le_of_ble_eq_true rfl, Nat.le_of_ble_eq_true rfl⟩) w hA [5, 6] rfl (fun H locs w => ?_)
    refine lv_istore_n (lv' := [(3, .int (lat z (nI k) len)), (0, .ref xx), (1, .int (nI k)), (2, .int (nI 6))]) hx hb dX5_poseNumber_11 rfl hl (by decide) rfl (fun ls hl => ?_)
    refine lv_iload_n hx hb dX5_poseNumber_12 rfl (lv_at hl 3 rfl) ?_
    refine lv_tableIn (off := 129) (tgt := 142) hx hb dX5_poseNumber_13 (by decide) (by decide) (by decide) (by decide) ?_
    refine lv_iload_n hx hb dX5_poseNumber_142 rfl (lv_at hl 0 rfl) ?_
    refine lv_iconst (v := (-1)) hx hb dX5_poseNumber_143 (by decide) ?_
    refine lv_icmp_ne (tgt := 151) hx hb dX5_poseNumber_144 (by decide) (fun c2 => ?_) (fun c2 => ?_)
    · obtain ⟨ej, hj, hj2⟩ := lat_j c2
      rw [ej] at hl
      refine lv_aload_n hx hb dX5_poseNumber_151 rfl (lv_at hl 1 rfl) ?_
      refine k_get X w 0 rfl rfl 0 (by decide) rfl iX5_poseNumber_X5 (List.mem_of_getElem? (i := 1) rfl) (v := .ref an) rfl dX5_poseNumber_152 ?_
      refine k_get X w 1 rfl rfl 1 (by decide) rfl iX5_poseNumber_X3 (List.mem_of_getElem? (i := 2) rfl) (v := .ref pan) rfl dX5_poseNumber_155 ?_
      refine lv_iload_n hx hb dX5_poseNumber_158 rfl (lv_at hl 0 rfl) ?_
      refine lv_iconst (v := 2) hx hb dX5_poseNumber_159 (by decide) ?_
      refine k_ciR (k_runV X w (met_X1_number l D cI cJ cO pan ran z (latj z (nI k) len) 2 len hn hn4 hj (by decide) H.size) gX5_poseNumber_X1_number rfl rfl rfl 2 hdX1_number ⟨Nat.le_of_ble_eq_true rfl, Nat.le_of_ble_eq_true rfl⟩ [5, 6] rfl rfl 5 1 rfl rfl rfl rfl hl.1 rfl (Nat.le_of_ble_eq_true rfl) dX5_poseNumber_160 ⟨Nat.le_of_ble_eq_true rfl, Nat.le_of_ble_eq_true rfl⟩) w hA [5, 6] rfl (fun H locs w => ?_)
      refine lv_sipush (v := 10000) hx hb dX5_poseNumber_163 (by decide) ?_
      refine lv_iadd hx hb dX5_poseNumber_166 ?_
      exact fin _ _ _ _ _ w (by rw [pnum, if_neg c2]; rfl) dX5_poseNumber_167
    · refine lv_iconst (v := (-1)) hx hb dX5_poseNumber_147 (by decide) ?_
      refine lv_goto (tgt := 167) hx hb dX5_poseNumber_148 (by decide) ?_
      exact fin _ _ _ _ _ w (by rw [pnum, if_pos c2]) dX5_poseNumber_167
  · refine lv_aload_n hx hb dX5_poseNumber_0 rfl (lv_at hl 0 rfl) ?_
    refine k_get X w 0 rfl rfl 0 (by decide) rfl iX5_poseNumber_X5 (List.mem_of_getElem? (i := 1) rfl) (v := .ref an) rfl dX5_poseNumber_1 ?_
    refine k_get X w 1 rfl rfl 1 (by decide) rfl iX5_poseNumber_X3 (List.mem_of_getElem? (i := 2) rfl) (v := .ref pan) rfl dX5_poseNumber_4 ?_
    refine lv_iload_n hx hb dX5_poseNumber_7 rfl (lv_at hl 1 rfl) ?_
    refine k_ciR (k_runV X w (met_X1_latestIn l D cI cJ cO pan ran z (nI k) len hn hn4 s.heap.size) gX5_poseNumber_X1_latestIn rfl rfl rfl 1 hdX1_latestIn ⟨Nat.le_of_ble_eq_true rfl, Nat.le_of_ble_eq_true rfl⟩ [5, 6] rfl rfl 5 1 rfl rfl rfl rfl hl.1 rfl (Nat.le_of_ble_eq_true rfl) dX5_poseNumber_8 ⟨Nat.le_of_ble_eq_true rfl, Nat.le_of_ble_eq_true rfl⟩) w hA [5, 6] rfl (fun H locs w => ?_)
    refine lv_istore_n (lv' := [(3, .int (lat z (nI k) len)), (0, .ref xx), (1, .int (nI k)), (2, .int (nI 7))]) hx hb dX5_poseNumber_11 rfl hl (by decide) rfl (fun ls hl => ?_)
    refine lv_iload_n hx hb dX5_poseNumber_12 rfl (lv_at hl 3 rfl) ?_
    refine lv_tableOut (tgt := 168) hx hb dX5_poseNumber_13 (by decide) (by decide) ?_
    refine lv_aload_n hx hb dX5_poseNumber_168 rfl (lv_at hl 1 rfl) ?_
    refine k_get X w 0 rfl rfl 0 (by decide) rfl iX5_poseNumber_X5 (List.mem_of_getElem? (i := 1) rfl) (v := .ref an) rfl dX5_poseNumber_169 ?_
    refine k_get X w 1 rfl rfl 1 (by decide) rfl iX5_poseNumber_X3 (List.mem_of_getElem? (i := 2) rfl) (v := .ref pan) rfl dX5_poseNumber_172 ?_
    refine lv_iload_n hx hb dX5_poseNumber_175 rfl (lv_at hl 2 rfl) ?_
    refine k_ciR (k_runV X w (met_X1_readingsIn l D cI cJ cO pan ran z (nI k) len hn hn4 H.size) gX5_poseNumber_X1_readingsIn rfl rfl rfl 1 hdX1_readingsIn ⟨Nat.le_of_ble_eq_true rfl, Nat.le_of_ble_eq_true rfl⟩ [5, 6] rfl rfl 5 1 rfl rfl rfl rfl hl.1 rfl (Nat.le_of_ble_eq_true rfl) dX5_poseNumber_176 ⟨Nat.le_of_ble_eq_true rfl, Nat.le_of_ble_eq_true rfl⟩) w hA [5, 6] rfl (fun H locs w => ?_)
    exact fin _ _ _ _ _ w (by rfl) dX5_poseNumber_179
theorem hdX5_readingNumber : yX5_readingNumber.cls = RX5 ∧ yX5_readingNumber.cls ≠ "java/lang/invoke/MethodHandle" ∧ yX5_readingNumber.cls ≠ "java/lang/invoke/VarHandle" ∧ (parseMethodDescriptor yX5_readingNumber.desc).map (fun d => d.parameters.length) = some 2 := ⟨rfl, by decide, by decide, by decide +kernel⟩
theorem iX5_readingNumber_X1 : ∀ w ∈ wsX10, w ∈ wsX5_readingNumber := fun _ h => List.mem_cons_of_mem _ (List.mem_append_right _ h)
theorem iX5_readingNumber_X3 : ∀ w ∈ wsX30, w ∈ wsX5_readingNumber := fun _ h => List.mem_cons_of_mem _ (List.mem_append_left _ (List.mem_append_right _ h))
theorem iX5_readingNumber_X5 : ∀ w ∈ wsX50, w ∈ wsX5_readingNumber := fun _ h => List.mem_cons_of_mem _ (List.mem_append_left _ (List.mem_append_left _ (List.mem_append_right _ h)))
set_option maxHeartbeats 4000000 in
set_option maxRecDepth 100000 in
theorem met_X5_readingNumber (l : Launch) (D : va_G) (cI cJ cO : ClassId) (xx : Nat) (ak : Nat) (b : Nat) (tr : Nat) (hf : Int32) (sv : Nat) (an : Nat) (w1n : Nat) (wan : Nat) (pan : Nat) (ran : Nat) (san : Nat) (z : Nat → Int32) (len : Nat) (i : Nat) (wh : Nat) (hi : i < 2 ^ 31) (hn : z 10 = nI len) (hn4 : len ≤ 40) (hw : wh < 5) : CI l D (TY cI cJ cO) yX5_readingNumber wsX5_readingNumber ({ frames := 1, cells := 0, slots := 0, locals := 22 }) [.ref xx, .int (nI i), .int (nI wh)] [oX xx an ak sv b tr hf, oS an w1n pan san z, aI cI san 4 12 z, oW w1n wan z, aI cI wan 6 19 z, oP pan ran z, aI cI ran 200 25 z] (rnum z len i wh) [oX xx an ak sv b tr hf, oS an w1n pan san z, aI cI san 4 12 z, oW w1n wan z, aI cI wan 6 19 z, oP pan ran z, aI cI ran 200 25 z] := by
  refine CI.of (plainFor_of_name (by decide)) rfl (Nat.le_of_ble_eq_true rfl) (rfl) (fun p e s m below meth c A ls Q X hA w hl fin => ?_)
  obtain ⟨hx, hb, hml, hown, hts⟩ := id X.1
  have hl : lv_has ls 4 [(0, .ref xx), (1, .int (nI i)), (2, .int (nI wh))] := hl
  rcases (show wh = 0 ∨ wh = 1 ∨ wh = 2 ∨ wh = 3 ∨ wh = 4 by omega) with rfl | rfl | rfl | rfl | rfl
  · refine lv_iload_n hx hb dX5_readingNumber_0 rfl (lv_at hl 1 rfl) ?_
    refine lv_aload_n hx hb dX5_readingNumber_1 rfl (lv_at hl 0 rfl) ?_
    refine k_get X w 0 rfl rfl 0 (by decide) rfl iX5_readingNumber_X5 (List.mem_of_getElem? (i := 1) rfl) (v := .ref an) rfl dX5_readingNumber_2 ?_
    refine k_get X w 1 rfl rfl 1 (by decide) rfl iX5_readingNumber_X3 (List.mem_of_getElem? (i := 2) rfl) (v := .ref pan) rfl dX5_readingNumber_5 ?_
    refine k_get X w 5 rfl rfl 1 (by decide) rfl iX5_readingNumber_X1 (List.mem_of_getElem? (i := 3) rfl) (v := .int (nI len)) (congrArg (fun t => some (Value.int t)) hn) dX5_readingNumber_8 ?_
    refine lv_icmp_lt (tgt := 16) hx hb dX5_readingNumber_11 (by decide) (fun c1 => ?_) (fun c1 => ?_)
    · have hil : i < len := (nI_ltI hi (by omega)).mp c1
      refine lv_aload_n hx hb dX5_readingNumber_16 rfl (lv_at hl 0 rfl) ?_
      refine k_get X w 0 rfl rfl 0 (by decide) rfl iX5_readingNumber_X5 (List.mem_of_getElem? (i := 1) rfl) (v := .ref an) rfl dX5_readingNumber_17 ?_
      refine k_get X w 1 rfl rfl 1 (by decide) rfl iX5_readingNumber_X3 (List.mem_of_getElem? (i := 2) rfl) (v := .ref pan) rfl dX5_readingNumber_20 ?_
      refine lv_iload_n hx hb dX5_readingNumber_23 rfl (lv_at hl 1 rfl) ?_
      refine lv_iload_n hx hb dX5_readingNumber_24 rfl (lv_at hl 2 rfl) ?_
      refine k_ciR (k_runV X w (met_X1_number l D cI cJ cO pan ran z i 0 len hn hn4 hil (by decide) s.heap.size) gX5_readingNumber_X1_number rfl rfl rfl 2 hdX1_number ⟨Nat.le_of_ble_eq_true rfl, Nat.le_of_ble_eq_true rfl⟩ [5, 6] rfl rfl 5 1 rfl rfl rfl rfl hl.1 rfl (Nat.le_of_ble_eq_true rfl) dX5_readingNumber_25 ⟨Nat.le_of_ble_eq_true rfl, Nat.le_of_ble_eq_true rfl⟩) w hA [5, 6] rfl (fun H locs w => ?_)
      refine lv_istore_n (lv' := [(3, .int (z (25 + (i * 5 + 0)))), (0, .ref xx), (1, .int (nI i)), (2, .int (nI 0))]) hx hb dX5_readingNumber_28 rfl hl (by decide) rfl (fun ls hl => ?_)
      refine lv_iload_n hx hb dX5_readingNumber_29 rfl (lv_at hl 3 rfl) ?_
      refine lv_iconst (v := 2) hx hb dX5_readingNumber_30 (by decide) ?_
      refine lv_icmp_ne (tgt := 42) hx hb dX5_readingNumber_31 (by decide) (fun c2 => ?_) (fun c2 => absurd c2 (by decide))
      refine lv_iload_n hx hb dX5_readingNumber_42 rfl (lv_at hl 0 rfl) ?_
      exact fin _ _ _ _ _ w (by rw [rnum, if_pos hil]; rfl) dX5_readingNumber_43
    · refine lv_iconst (v := (-1)) hx hb dX5_readingNumber_14 (by decide) ?_
      exact fin _ _ _ _ _ w (by rw [rnum, if_neg (fun h => c1 (nI_lt h (by omega)))]) dX5_readingNumber_15
  · refine lv_iload_n hx hb dX5_readingNumber_0 rfl (lv_at hl 1 rfl) ?_
    refine lv_aload_n hx hb dX5_readingNumber_1 rfl (lv_at hl 0 rfl) ?_
    refine k_get X w 0 rfl rfl 0 (by decide) rfl iX5_readingNumber_X5 (List.mem_of_getElem? (i := 1) rfl) (v := .ref an) rfl dX5_readingNumber_2 ?_
    refine k_get X w 1 rfl rfl 1 (by decide) rfl iX5_readingNumber_X3 (List.mem_of_getElem? (i := 2) rfl) (v := .ref pan) rfl dX5_readingNumber_5 ?_
    refine k_get X w 5 rfl rfl 1 (by decide) rfl iX5_readingNumber_X1 (List.mem_of_getElem? (i := 3) rfl) (v := .int (nI len)) (congrArg (fun t => some (Value.int t)) hn) dX5_readingNumber_8 ?_
    refine lv_icmp_lt (tgt := 16) hx hb dX5_readingNumber_11 (by decide) (fun c3 => ?_) (fun c3 => ?_)
    · have hil : i < len := (nI_ltI hi (by omega)).mp c3
      refine lv_aload_n hx hb dX5_readingNumber_16 rfl (lv_at hl 0 rfl) ?_
      refine k_get X w 0 rfl rfl 0 (by decide) rfl iX5_readingNumber_X5 (List.mem_of_getElem? (i := 1) rfl) (v := .ref an) rfl dX5_readingNumber_17 ?_
      refine k_get X w 1 rfl rfl 1 (by decide) rfl iX5_readingNumber_X3 (List.mem_of_getElem? (i := 2) rfl) (v := .ref pan) rfl dX5_readingNumber_20 ?_
      refine lv_iload_n hx hb dX5_readingNumber_23 rfl (lv_at hl 1 rfl) ?_
      refine lv_iload_n hx hb dX5_readingNumber_24 rfl (lv_at hl 2 rfl) ?_
      refine k_ciR (k_runV X w (met_X1_number l D cI cJ cO pan ran z i 1 len hn hn4 hil (by decide) s.heap.size) gX5_readingNumber_X1_number rfl rfl rfl 2 hdX1_number ⟨Nat.le_of_ble_eq_true rfl, Nat.le_of_ble_eq_true rfl⟩ [5, 6] rfl rfl 5 1 rfl rfl rfl rfl hl.1 rfl (Nat.le_of_ble_eq_true rfl) dX5_readingNumber_25 ⟨Nat.le_of_ble_eq_true rfl, Nat.le_of_ble_eq_true rfl⟩) w hA [5, 6] rfl (fun H locs w => ?_)
      refine lv_istore_n (lv' := [(3, .int (z (25 + (i * 5 + 1)))), (0, .ref xx), (1, .int (nI i)), (2, .int (nI 1))]) hx hb dX5_readingNumber_28 rfl hl (by decide) rfl (fun ls hl => ?_)
      refine lv_iload_n hx hb dX5_readingNumber_29 rfl (lv_at hl 3 rfl) ?_
      refine lv_iconst (v := 2) hx hb dX5_readingNumber_30 (by decide) ?_
      refine lv_icmp_ne (tgt := 42) hx hb dX5_readingNumber_31 (by decide) (fun c4 => ?_) (fun c4 => absurd c4 (by decide))
      refine lv_iload_n hx hb dX5_readingNumber_42 rfl (lv_at hl 0 rfl) ?_
      exact fin _ _ _ _ _ w (by rw [rnum, if_pos hil]; rfl) dX5_readingNumber_43
    · refine lv_iconst (v := (-1)) hx hb dX5_readingNumber_14 (by decide) ?_
      exact fin _ _ _ _ _ w (by rw [rnum, if_neg (fun h => c3 (nI_lt h (by omega)))]) dX5_readingNumber_15
  · refine lv_iload_n hx hb dX5_readingNumber_0 rfl (lv_at hl 1 rfl) ?_
    refine lv_aload_n hx hb dX5_readingNumber_1 rfl (lv_at hl 0 rfl) ?_
    refine k_get X w 0 rfl rfl 0 (by decide) rfl iX5_readingNumber_X5 (List.mem_of_getElem? (i := 1) rfl) (v := .ref an) rfl dX5_readingNumber_2 ?_
    refine k_get X w 1 rfl rfl 1 (by decide) rfl iX5_readingNumber_X3 (List.mem_of_getElem? (i := 2) rfl) (v := .ref pan) rfl dX5_readingNumber_5 ?_
    refine k_get X w 5 rfl rfl 1 (by decide) rfl iX5_readingNumber_X1 (List.mem_of_getElem? (i := 3) rfl) (v := .int (nI len)) (congrArg (fun t => some (Value.int t)) hn) dX5_readingNumber_8 ?_
    refine lv_icmp_lt (tgt := 16) hx hb dX5_readingNumber_11 (by decide) (fun c5 => ?_) (fun c5 => ?_)
    · have hil : i < len := (nI_ltI hi (by omega)).mp c5
      refine lv_aload_n hx hb dX5_readingNumber_16 rfl (lv_at hl 0 rfl) ?_
      refine k_get X w 0 rfl rfl 0 (by decide) rfl iX5_readingNumber_X5 (List.mem_of_getElem? (i := 1) rfl) (v := .ref an) rfl dX5_readingNumber_17 ?_
      refine k_get X w 1 rfl rfl 1 (by decide) rfl iX5_readingNumber_X3 (List.mem_of_getElem? (i := 2) rfl) (v := .ref pan) rfl dX5_readingNumber_20 ?_
      refine lv_iload_n hx hb dX5_readingNumber_23 rfl (lv_at hl 1 rfl) ?_
      refine lv_iload_n hx hb dX5_readingNumber_24 rfl (lv_at hl 2 rfl) ?_
      refine k_ciR (k_runV X w (met_X1_number l D cI cJ cO pan ran z i 2 len hn hn4 hil (by decide) s.heap.size) gX5_readingNumber_X1_number rfl rfl rfl 2 hdX1_number ⟨Nat.le_of_ble_eq_true rfl, Nat.le_of_ble_eq_true rfl⟩ [5, 6] rfl rfl 5 1 rfl rfl rfl rfl hl.1 rfl (Nat.le_of_ble_eq_true rfl) dX5_readingNumber_25 ⟨Nat.le_of_ble_eq_true rfl, Nat.le_of_ble_eq_true rfl⟩) w hA [5, 6] rfl (fun H locs w => ?_)
      refine lv_istore_n (lv' := [(3, .int (z (25 + (i * 5 + 2)))), (0, .ref xx), (1, .int (nI i)), (2, .int (nI 2))]) hx hb dX5_readingNumber_28 rfl hl (by decide) rfl (fun ls hl => ?_)
      refine lv_iload_n hx hb dX5_readingNumber_29 rfl (lv_at hl 3 rfl) ?_
      refine lv_iconst (v := 2) hx hb dX5_readingNumber_30 (by decide) ?_
      refine lv_icmp_ne (tgt := 42) hx hb dX5_readingNumber_31 (by decide) (fun c6 => absurd c6 (by decide)) (fun c6 => ?_)
      refine lv_iload_n hx hb dX5_readingNumber_34 rfl (lv_at hl 0 rfl) ?_
      refine lv_sipush (v := 10000) hx hb dX5_readingNumber_35 (by decide) ?_
      refine lv_iadd hx hb dX5_readingNumber_38 ?_
      refine lv_goto (tgt := 43) hx hb dX5_readingNumber_39 (by decide) ?_
      exact fin _ _ _ _ _ w (by rw [rnum, if_pos hil]; rfl) dX5_readingNumber_43
    · refine lv_iconst (v := (-1)) hx hb dX5_readingNumber_14 (by decide) ?_
      exact fin _ _ _ _ _ w (by rw [rnum, if_neg (fun h => c5 (nI_lt h (by omega)))]) dX5_readingNumber_15
  · refine lv_iload_n hx hb dX5_readingNumber_0 rfl (lv_at hl 1 rfl) ?_
    refine lv_aload_n hx hb dX5_readingNumber_1 rfl (lv_at hl 0 rfl) ?_
    refine k_get X w 0 rfl rfl 0 (by decide) rfl iX5_readingNumber_X5 (List.mem_of_getElem? (i := 1) rfl) (v := .ref an) rfl dX5_readingNumber_2 ?_
    refine k_get X w 1 rfl rfl 1 (by decide) rfl iX5_readingNumber_X3 (List.mem_of_getElem? (i := 2) rfl) (v := .ref pan) rfl dX5_readingNumber_5 ?_
    refine k_get X w 5 rfl rfl 1 (by decide) rfl iX5_readingNumber_X1 (List.mem_of_getElem? (i := 3) rfl) (v := .int (nI len)) (congrArg (fun t => some (Value.int t)) hn) dX5_readingNumber_8 ?_
    refine lv_icmp_lt (tgt := 16) hx hb dX5_readingNumber_11 (by decide) (fun c7 => ?_) (fun c7 => ?_)
    · have hil : i < len := (nI_ltI hi (by omega)).mp c7
      refine lv_aload_n hx hb dX5_readingNumber_16 rfl (lv_at hl 0 rfl) ?_
      refine k_get X w 0 rfl rfl 0 (by decide) rfl iX5_readingNumber_X5 (List.mem_of_getElem? (i := 1) rfl) (v := .ref an) rfl dX5_readingNumber_17 ?_
      refine k_get X w 1 rfl rfl 1 (by decide) rfl iX5_readingNumber_X3 (List.mem_of_getElem? (i := 2) rfl) (v := .ref pan) rfl dX5_readingNumber_20 ?_
      refine lv_iload_n hx hb dX5_readingNumber_23 rfl (lv_at hl 1 rfl) ?_
      refine lv_iload_n hx hb dX5_readingNumber_24 rfl (lv_at hl 2 rfl) ?_
      refine k_ciR (k_runV X w (met_X1_number l D cI cJ cO pan ran z i 3 len hn hn4 hil (by decide) s.heap.size) gX5_readingNumber_X1_number rfl rfl rfl 2 hdX1_number ⟨Nat.le_of_ble_eq_true rfl, Nat.le_of_ble_eq_true rfl⟩ [5, 6] rfl rfl 5 1 rfl rfl rfl rfl hl.1 rfl (Nat.le_of_ble_eq_true rfl) dX5_readingNumber_25 ⟨Nat.le_of_ble_eq_true rfl, Nat.le_of_ble_eq_true rfl⟩) w hA [5, 6] rfl (fun H locs w => ?_)
      refine lv_istore_n (lv' := [(3, .int (z (25 + (i * 5 + 3)))), (0, .ref xx), (1, .int (nI i)), (2, .int (nI 3))]) hx hb dX5_readingNumber_28 rfl hl (by decide) rfl (fun ls hl => ?_)
      refine lv_iload_n hx hb dX5_readingNumber_29 rfl (lv_at hl 3 rfl) ?_
      refine lv_iconst (v := 2) hx hb dX5_readingNumber_30 (by decide) ?_
      refine lv_icmp_ne (tgt := 42) hx hb dX5_readingNumber_31 (by decide) (fun c8 => ?_) (fun c8 => absurd c8 (by decide))
      refine lv_iload_n hx hb dX5_readingNumber_42 rfl (lv_at hl 0 rfl) ?_
      exact fin _ _ _ _ _ w (by rw [rnum, if_pos hil]; rfl) dX5_readingNumber_43
    · refine lv_iconst (v := (-1)) hx hb dX5_readingNumber_14 (by decide) ?_
      exact fin _ _ _ _ _ w (by rw [rnum, if_neg (fun h => c7 (nI_lt h (by omega)))]) dX5_readingNumber_15
  · refine lv_iload_n hx hb dX5_readingNumber_0 rfl (lv_at hl 1 rfl) ?_
    refine lv_aload_n hx hb dX5_readingNumber_1 rfl (lv_at hl 0 rfl) ?_
    refine k_get X w 0 rfl rfl 0 (by decide) rfl iX5_readingNumber_X5 (List.mem_of_getElem? (i := 1) rfl) (v := .ref an) rfl dX5_readingNumber_2 ?_
    refine k_get X w 1 rfl rfl 1 (by decide) rfl iX5_readingNumber_X3 (List.mem_of_getElem? (i := 2) rfl) (v := .ref pan) rfl dX5_readingNumber_5 ?_
    refine k_get X w 5 rfl rfl 1 (by decide) rfl iX5_readingNumber_X1 (List.mem_of_getElem? (i := 3) rfl) (v := .int (nI len)) (congrArg (fun t => some (Value.int t)) hn) dX5_readingNumber_8 ?_
    refine lv_icmp_lt (tgt := 16) hx hb dX5_readingNumber_11 (by decide) (fun c9 => ?_) (fun c9 => ?_)
    · have hil : i < len := (nI_ltI hi (by omega)).mp c9
      refine lv_aload_n hx hb dX5_readingNumber_16 rfl (lv_at hl 0 rfl) ?_
      refine k_get X w 0 rfl rfl 0 (by decide) rfl iX5_readingNumber_X5 (List.mem_of_getElem? (i := 1) rfl) (v := .ref an) rfl dX5_readingNumber_17 ?_
      refine k_get X w 1 rfl rfl 1 (by decide) rfl iX5_readingNumber_X3 (List.mem_of_getElem? (i := 2) rfl) (v := .ref pan) rfl dX5_readingNumber_20 ?_
      refine lv_iload_n hx hb dX5_readingNumber_23 rfl (lv_at hl 1 rfl) ?_
      refine lv_iload_n hx hb dX5_readingNumber_24 rfl (lv_at hl 2 rfl) ?_
      refine k_ciR (k_runV X w (met_X1_number l D cI cJ cO pan ran z i 4 len hn hn4 hil (by decide) s.heap.size) gX5_readingNumber_X1_number rfl rfl rfl 2 hdX1_number ⟨Nat.le_of_ble_eq_true rfl, Nat.le_of_ble_eq_true rfl⟩ [5, 6] rfl rfl 5 1 rfl rfl rfl rfl hl.1 rfl (Nat.le_of_ble_eq_true rfl) dX5_readingNumber_25 ⟨Nat.le_of_ble_eq_true rfl, Nat.le_of_ble_eq_true rfl⟩) w hA [5, 6] rfl (fun H locs w => ?_)
      refine lv_istore_n (lv' := [(3, .int (z (25 + (i * 5 + 4)))), (0, .ref xx), (1, .int (nI i)), (2, .int (nI 4))]) hx hb dX5_readingNumber_28 rfl hl (by decide) rfl (fun ls hl => ?_)
      refine lv_iload_n hx hb dX5_readingNumber_29 rfl (lv_at hl 3 rfl) ?_
      refine lv_iconst (v := 2) hx hb dX5_readingNumber_30 (by decide) ?_
      refine lv_icmp_ne (tgt := 42) hx hb dX5_readingNumber_31 (by decide) (fun c10 => ?_) (fun c10 => absurd c10 (by decide))
      refine lv_iload_n hx hb dX5_readingNumber_42 rfl (lv_at hl 0 rfl) ?_
      exact fin _ _ _ _ _ w (by rw [rnum, if_pos hil]; rfl) dX5_readingNumber_43
    · refine lv_iconst (v := (-1)) hx hb dX5_readingNumber_14 (by decide) ?_
      exact fin _ _ _ _ _ w (by rw [rnum, if_neg (fun h => c9 (nI_lt h (by omega)))]) dX5_readingNumber_15
theorem hdX5_countNumber : yX5_countNumber.cls = RX5 ∧ yX5_countNumber.cls ≠ "java/lang/invoke/MethodHandle" ∧ yX5_countNumber.cls ≠ "java/lang/invoke/VarHandle" ∧ (parseMethodDescriptor yX5_countNumber.desc).map (fun d => d.parameters.length) = some 1 := ⟨rfl, by decide, by decide, by decide +kernel⟩
theorem iX5_countNumber_X1 : ∀ w ∈ wsX10, w ∈ wsX5_countNumber := fun _ h => List.mem_cons_of_mem _ (List.mem_append_left _ (List.mem_append_right _ h))
theorem iX5_countNumber_X2 : ∀ w ∈ wsX20, w ∈ wsX5_countNumber := fun _ h => List.mem_cons_of_mem _ (List.mem_append_right _ h)
theorem iX5_countNumber_X3 : ∀ w ∈ wsX30, w ∈ wsX5_countNumber := fun _ h => List.mem_cons_of_mem _ (List.mem_append_left _ (List.mem_append_left _ (List.mem_append_left _ (List.mem_append_right _ h))))
theorem iX5_countNumber_X4 : ∀ w ∈ wsX40, w ∈ wsX5_countNumber := fun _ h => List.mem_cons_of_mem _ (List.mem_append_left _ (List.mem_append_left _ (List.mem_append_right _ h)))
theorem iX5_countNumber_X5 : ∀ w ∈ wsX50, w ∈ wsX5_countNumber := fun _ h => List.mem_cons_of_mem _ (List.mem_append_left _ (List.mem_append_left _ (List.mem_append_left _ (List.mem_append_left _ (List.mem_append_right _ h)))))
set_option maxHeartbeats 4000000 in
set_option maxRecDepth 100000 in
theorem met_X5_countNumber (l : Launch) (D : va_G) (cI cJ cO : ClassId) (xx : Nat) (ak : Nat) (b : Nat) (tr : Nat) (hf : Int32) (sv : Nat) (an : Nat) (w1n : Nat) (wan : Nat) (pan : Nat) (ran : Nat) (san : Nat) (z : Nat → Int32) (rr : Nat) (y : Nat → Int32) (len : Nat) (k : Nat) (j : Nat) (hz : z 6 = nI k) (hn : z 10 = nI len) (hn4 : len ≤ 40) (hj : j < 21) : CI l D (TY cI cJ cO) yX5_countNumber wsX5_countNumber ({ frames := 4, cells := 0, slots := 0, locals := 92 }) [.ref xx, .int (nI j)] [oX xx an ak sv b tr hf, oS an w1n pan san z, aI cI san 4 12 z, oW w1n wan z, aI cI wan 6 19 z, oP pan ran z, aI cI ran 200 25 z, oV sv rr y] (cnum z len k (y 1) j) [oX xx an ak sv b tr hf, oS an w1n pan san z, aI cI san 4 12 z, oW w1n wan z, aI cI wan 6 19 z, oP pan ran z, aI cI ran 200 25 z, oV sv rr y] := by
  refine CI.of (plainFor_of_name (by decide)) rfl (Nat.le_of_ble_eq_true rfl) (rfl) (fun p e s m below meth c A ls Q X hA w hl fin => ?_)
  obtain ⟨hx, hb, hml, hown, hts⟩ := id X.1
  have hl : lv_has ls 3 [(0, .ref xx), (1, .int (nI j))] := hl
  rcases (show j = 0 ∨ j = 1 ∨ j = 2 ∨ j = 3 ∨ j = 4 ∨ j = 5 ∨ j = 6 ∨ j = 7 ∨ j = 8 ∨ j = 9 ∨ j = 10 ∨ j = 11 ∨ j = 12 ∨ j = 13 ∨ j = 14 ∨ j = 15 ∨ j = 16 ∨ j = 17 ∨ j = 18 ∨ j = 19 ∨ j = 20 by omega) with rfl | rfl | rfl | rfl | rfl | rfl | rfl | rfl | rfl | rfl | rfl | rfl | rfl | rfl | rfl | rfl | rfl | rfl | rfl | rfl | rfl
  · refine lv_aload_n hx hb dX5_countNumber_0 rfl (lv_at hl 0 rfl) ?_
    refine k_get X w 0 rfl rfl 0 (by decide) rfl iX5_countNumber_X5 (List.mem_of_getElem? (i := 1) rfl) (v := .ref an) rfl dX5_countNumber_1 ?_
    refine k_get X w 1 rfl rfl 0 (by decide) rfl iX5_countNumber_X3 (List.mem_of_getElem? (i := 2) rfl) (v := .ref w1n) rfl dX5_countNumber_4 ?_
    refine lv_astore_n (lv' := [(2, .ref w1n), (0, .ref xx), (1, .int (nI 0))]) hx hb dX5_countNumber_7 rfl hl (by decide) rfl (fun ls hl => ?_)
    refine lv_iload_n hx hb dX5_countNumber_8 rfl (lv_at hl 2 rfl) ?_
    refine lv_tableIn (off := 95) (tgt := 104) hx hb dX5_countNumber_9 (by decide) (by decide) (by decide) (by decide) ?_
    refine lv_aload_n hx hb dX5_countNumber_104 rfl (lv_at hl 0 rfl) ?_
    refine k_get X w 3 rfl rfl 7 (by decide) rfl iX5_countNumber_X4 (List.mem_of_getElem? (i := 3) rfl) (v := .int (z 0)) rfl dX5_countNumber_105 ?_
    exact fin _ _ _ _ _ w (by rfl) dX5_countNumber_108
  · refine lv_aload_n hx hb dX5_countNumber_0 rfl (lv_at hl 0 rfl) ?_
    refine k_get X w 0 rfl rfl 0 (by decide) rfl iX5_countNumber_X5 (List.mem_of_getElem? (i := 1) rfl) (v := .ref an) rfl dX5_countNumber_1 ?_
    refine k_get X w 1 rfl rfl 0 (by decide) rfl iX5_countNumber_X3 (List.mem_of_getElem? (i := 2) rfl) (v := .ref w1n) rfl dX5_countNumber_4 ?_
    refine lv_astore_n (lv' := [(2, .ref w1n), (0, .ref xx), (1, .int (nI 1))]) hx hb dX5_countNumber_7 rfl hl (by decide) rfl (fun ls hl => ?_)
    refine lv_iload_n hx hb dX5_countNumber_8 rfl (lv_at hl 2 rfl) ?_
    refine lv_tableIn (off := 100) (tgt := 109) hx hb dX5_countNumber_9 (by decide) (by decide) (by decide) (by decide) ?_
    refine lv_aload_n hx hb dX5_countNumber_109 rfl (lv_at hl 0 rfl) ?_
    refine k_get X w 3 rfl rfl 3 (by decide) rfl iX5_countNumber_X4 (List.mem_of_getElem? (i := 4) rfl) (v := .int (z 1)) rfl dX5_countNumber_110 ?_
    exact fin _ _ _ _ _ w (by rfl) dX5_countNumber_113
  · refine lv_aload_n hx hb dX5_countNumber_0 rfl (lv_at hl 0 rfl) ?_
    refine k_get X w 0 rfl rfl 0 (by decide) rfl iX5_countNumber_X5 (List.mem_of_getElem? (i := 1) rfl) (v := .ref an) rfl dX5_countNumber_1 ?_
    refine k_get X w 1 rfl rfl 0 (by decide) rfl iX5_countNumber_X3 (List.mem_of_getElem? (i := 2) rfl) (v := .ref w1n) rfl dX5_countNumber_4 ?_
    refine lv_astore_n (lv' := [(2, .ref w1n), (0, .ref xx), (1, .int (nI 2))]) hx hb dX5_countNumber_7 rfl hl (by decide) rfl (fun ls hl => ?_)
    refine lv_iload_n hx hb dX5_countNumber_8 rfl (lv_at hl 2 rfl) ?_
    refine lv_tableIn (off := 105) (tgt := 114) hx hb dX5_countNumber_9 (by decide) (by decide) (by decide) (by decide) ?_
    refine lv_aload_n hx hb dX5_countNumber_114 rfl (lv_at hl 0 rfl) ?_
    refine k_get X w 3 rfl rfl 1 (by decide) rfl iX5_countNumber_X4 (List.mem_of_getElem? (i := 5) rfl) (v := .int (z 2)) rfl dX5_countNumber_115 ?_
    refine lv_bipush (v := 100) hx hb dX5_countNumber_118 (by decide) ?_
    refine lv_iadd hx hb dX5_countNumber_120 ?_
    exact fin _ _ _ _ _ w (by rfl) dX5_countNumber_121
  · refine lv_aload_n hx hb dX5_countNumber_0 rfl (lv_at hl 0 rfl) ?_
    refine k_get X w 0 rfl rfl 0 (by decide) rfl iX5_countNumber_X5 (List.mem_of_getElem? (i := 1) rfl) (v := .ref an) rfl dX5_countNumber_1 ?_
    refine k_get X w 1 rfl rfl 0 (by decide) rfl iX5_countNumber_X3 (List.mem_of_getElem? (i := 2) rfl) (v := .ref w1n) rfl dX5_countNumber_4 ?_
    refine lv_astore_n (lv' := [(2, .ref w1n), (0, .ref xx), (1, .int (nI 3))]) hx hb dX5_countNumber_7 rfl hl (by decide) rfl (fun ls hl => ?_)
    refine lv_iload_n hx hb dX5_countNumber_8 rfl (lv_at hl 2 rfl) ?_
    refine lv_tableIn (off := 113) (tgt := 122) hx hb dX5_countNumber_9 (by decide) (by decide) (by decide) (by decide) ?_
    refine lv_aload_n hx hb dX5_countNumber_122 rfl (lv_at hl 0 rfl) ?_
    refine k_get X w 3 rfl rfl 2 (by decide) rfl iX5_countNumber_X4 (List.mem_of_getElem? (i := 6) rfl) (v := .int (z 3)) rfl dX5_countNumber_123 ?_
    refine lv_bipush (v := 100) hx hb dX5_countNumber_126 (by decide) ?_
    refine lv_iadd hx hb dX5_countNumber_128 ?_
    exact fin _ _ _ _ _ w (by rfl) dX5_countNumber_129
  · refine lv_aload_n hx hb dX5_countNumber_0 rfl (lv_at hl 0 rfl) ?_
    refine k_get X w 0 rfl rfl 0 (by decide) rfl iX5_countNumber_X5 (List.mem_of_getElem? (i := 1) rfl) (v := .ref an) rfl dX5_countNumber_1 ?_
    refine k_get X w 1 rfl rfl 0 (by decide) rfl iX5_countNumber_X3 (List.mem_of_getElem? (i := 2) rfl) (v := .ref w1n) rfl dX5_countNumber_4 ?_
    refine lv_astore_n (lv' := [(2, .ref w1n), (0, .ref xx), (1, .int (nI 4))]) hx hb dX5_countNumber_7 rfl hl (by decide) rfl (fun ls hl => ?_)
    refine lv_iload_n hx hb dX5_countNumber_8 rfl (lv_at hl 2 rfl) ?_
    refine lv_tableIn (off := 121) (tgt := 130) hx hb dX5_countNumber_9 (by decide) (by decide) (by decide) (by decide) ?_
    refine lv_aload_n hx hb dX5_countNumber_130 rfl (lv_at hl 0 rfl) ?_
    refine k_get X w 3 rfl rfl 4 (by decide) rfl iX5_countNumber_X4 (List.mem_of_getElem? (i := 7) rfl) (v := .int (z 4)) rfl dX5_countNumber_131 ?_
    exact fin _ _ _ _ _ w (by rfl) dX5_countNumber_134
  · refine lv_aload_n hx hb dX5_countNumber_0 rfl (lv_at hl 0 rfl) ?_
    refine k_get X w 0 rfl rfl 0 (by decide) rfl iX5_countNumber_X5 (List.mem_of_getElem? (i := 1) rfl) (v := .ref an) rfl dX5_countNumber_1 ?_
    refine k_get X w 1 rfl rfl 0 (by decide) rfl iX5_countNumber_X3 (List.mem_of_getElem? (i := 2) rfl) (v := .ref w1n) rfl dX5_countNumber_4 ?_
    refine lv_astore_n (lv' := [(2, .ref w1n), (0, .ref xx), (1, .int (nI 5))]) hx hb dX5_countNumber_7 rfl hl (by decide) rfl (fun ls hl => ?_)
    refine lv_iload_n hx hb dX5_countNumber_8 rfl (lv_at hl 2 rfl) ?_
    refine lv_tableIn (off := 126) (tgt := 135) hx hb dX5_countNumber_9 (by decide) (by decide) (by decide) (by decide) ?_
    refine lv_aload_n hx hb dX5_countNumber_135 rfl (lv_at hl 0 rfl) ?_
    refine k_get X w 3 rfl rfl 5 (by decide) rfl iX5_countNumber_X4 (List.mem_of_getElem? (i := 8) rfl) (v := .int (z 5)) rfl dX5_countNumber_136 ?_
    exact fin _ _ _ _ _ w (by rfl) dX5_countNumber_139
  · refine lv_aload_n hx hb dX5_countNumber_0 rfl (lv_at hl 0 rfl) ?_
    refine k_get X w 0 rfl rfl 0 (by decide) rfl iX5_countNumber_X5 (List.mem_of_getElem? (i := 1) rfl) (v := .ref an) rfl dX5_countNumber_1 ?_
    refine k_get X w 1 rfl rfl 0 (by decide) rfl iX5_countNumber_X3 (List.mem_of_getElem? (i := 2) rfl) (v := .ref w1n) rfl dX5_countNumber_4 ?_
    refine lv_astore_n (lv' := [(2, .ref w1n), (0, .ref xx), (1, .int (nI 6))]) hx hb dX5_countNumber_7 rfl hl (by decide) rfl (fun ls hl => ?_)
    refine lv_iload_n hx hb dX5_countNumber_8 rfl (lv_at hl 2 rfl) ?_
    refine lv_tableIn (off := 131) (tgt := 140) hx hb dX5_countNumber_9 (by decide) (by decide) (by decide) (by decide) ?_
    refine lv_aload_n hx hb dX5_countNumber_140 rfl (lv_at hl 0 rfl) ?_
    refine k_get X w 3 rfl rfl 6 (by decide) rfl iX5_countNumber_X4 (List.mem_of_getElem? (i := 9) rfl) (v := .int (z 6)) rfl dX5_countNumber_141 ?_
    exact fin _ _ _ _ _ w (by rfl) dX5_countNumber_144
  · refine lv_aload_n hx hb dX5_countNumber_0 rfl (lv_at hl 0 rfl) ?_
    refine k_get X w 0 rfl rfl 0 (by decide) rfl iX5_countNumber_X5 (List.mem_of_getElem? (i := 1) rfl) (v := .ref an) rfl dX5_countNumber_1 ?_
    refine k_get X w 1 rfl rfl 0 (by decide) rfl iX5_countNumber_X3 (List.mem_of_getElem? (i := 2) rfl) (v := .ref w1n) rfl dX5_countNumber_4 ?_
    refine lv_astore_n (lv' := [(2, .ref w1n), (0, .ref xx), (1, .int (nI 7))]) hx hb dX5_countNumber_7 rfl hl (by decide) rfl (fun ls hl => ?_)
    refine lv_iload_n hx hb dX5_countNumber_8 rfl (lv_at hl 2 rfl) ?_
    refine lv_tableIn (off := 136) (tgt := 145) hx hb dX5_countNumber_9 (by decide) (by decide) (by decide) (by decide) ?_
    refine lv_aload_n hx hb dX5_countNumber_145 rfl (lv_at hl 0 rfl) ?_
    refine k_ciR (k_runV X w (met_X4_goes l D cI cJ cO w1n wan z k hz s.heap.size) gX5_countNumber_X4_goes rfl rfl rfl 0 hdX4_goes ⟨Nat.le_of_ble_eq_true rfl, Nat.le_of_ble_eq_true rfl⟩ [3, 4] rfl rfl 3 4 rfl rfl rfl rfl hl.1 rfl (Nat.le_of_ble_eq_true rfl) dX5_countNumber_146 ⟨Nat.le_of_ble_eq_true rfl, Nat.le_of_ble_eq_true rfl⟩) w hA [3, 4] rfl (fun H locs w => ?_)
    refine lv_if_eq (tgt := 156) hx hb dX5_countNumber_149 (by decide) (fun c1 => ?_) (fun c1 => ?_)
    · have c1 := bI_f c1
      refine lv_iconst (v := 0) hx hb dX5_countNumber_156 (by decide) ?_
      exact fin _ _ _ _ _ w (by simp [cnum, bI, c1]) dX5_countNumber_157
    · have c1 := bI_t c1
      refine lv_iconst (v := 1) hx hb dX5_countNumber_152 (by decide) ?_
      refine lv_goto (tgt := 157) hx hb dX5_countNumber_153 (by decide) ?_
      exact fin _ _ _ _ _ w (by simp [cnum, bI, c1]) dX5_countNumber_157
  · refine lv_aload_n hx hb dX5_countNumber_0 rfl (lv_at hl 0 rfl) ?_
    refine k_get X w 0 rfl rfl 0 (by decide) rfl iX5_countNumber_X5 (List.mem_of_getElem? (i := 1) rfl) (v := .ref an) rfl dX5_countNumber_1 ?_
    refine k_get X w 1 rfl rfl 0 (by decide) rfl iX5_countNumber_X3 (List.mem_of_getElem? (i := 2) rfl) (v := .ref w1n) rfl dX5_countNumber_4 ?_
    refine lv_astore_n (lv' := [(2, .ref w1n), (0, .ref xx), (1, .int (nI 8))]) hx hb dX5_countNumber_7 rfl hl (by decide) rfl (fun ls hl => ?_)
    refine lv_iload_n hx hb dX5_countNumber_8 rfl (lv_at hl 2 rfl) ?_
    refine lv_tableIn (off := 149) (tgt := 158) hx hb dX5_countNumber_9 (by decide) (by decide) (by decide) (by decide) ?_
    refine lv_aload_n hx hb dX5_countNumber_158 rfl (lv_at hl 0 rfl) ?_
    refine k_get X w 3 rfl rfl 8 (by decide) rfl iX5_countNumber_X4 (List.mem_of_getElem? (i := 10) rfl) (v := .int (z 7)) rfl dX5_countNumber_159 ?_
    refine lv_ldcw (v := 1000000) hx hb hown (hts _ (List.mem_of_getElem? (i := 11) rfl)) dX5_countNumber_162 ?_
    refine lv_iadd hx hb dX5_countNumber_165 ?_
    exact fin _ _ _ _ _ w (by rfl) dX5_countNumber_166
  · refine lv_aload_n hx hb dX5_countNumber_0 rfl (lv_at hl 0 rfl) ?_
    refine k_get X w 0 rfl rfl 0 (by decide) rfl iX5_countNumber_X5 (List.mem_of_getElem? (i := 1) rfl) (v := .ref an) rfl dX5_countNumber_1 ?_
    refine k_get X w 1 rfl rfl 0 (by decide) rfl iX5_countNumber_X3 (List.mem_of_getElem? (i := 2) rfl) (v := .ref w1n) rfl dX5_countNumber_4 ?_
    refine lv_astore_n (lv' := [(2, .ref w1n), (0, .ref xx), (1, .int (nI 9))]) hx hb dX5_countNumber_7 rfl hl (by decide) rfl (fun ls hl => ?_)
    refine lv_iload_n hx hb dX5_countNumber_8 rfl (lv_at hl 2 rfl) ?_
    refine lv_tableIn (off := 158) (tgt := 167) hx hb dX5_countNumber_9 (by decide) (by decide) (by decide) (by decide) ?_
    refine lv_aload_n hx hb dX5_countNumber_167 rfl (lv_at hl 0 rfl) ?_
    refine k_get X w 3 rfl rfl 9 (by decide) rfl iX5_countNumber_X4 (List.mem_of_getElem? (i := 12) rfl) (v := .int (z 8)) rfl dX5_countNumber_168 ?_
    exact fin _ _ _ _ _ w (by rfl) dX5_countNumber_171
  · refine lv_aload_n hx hb dX5_countNumber_0 rfl (lv_at hl 0 rfl) ?_
    refine k_get X w 0 rfl rfl 0 (by decide) rfl iX5_countNumber_X5 (List.mem_of_getElem? (i := 1) rfl) (v := .ref an) rfl dX5_countNumber_1 ?_
    refine k_get X w 1 rfl rfl 0 (by decide) rfl iX5_countNumber_X3 (List.mem_of_getElem? (i := 2) rfl) (v := .ref w1n) rfl dX5_countNumber_4 ?_
    refine lv_astore_n (lv' := [(2, .ref w1n), (0, .ref xx), (1, .int (nI 10))]) hx hb dX5_countNumber_7 rfl hl (by decide) rfl (fun ls hl => ?_)
    refine lv_iload_n hx hb dX5_countNumber_8 rfl (lv_at hl 2 rfl) ?_
    refine lv_tableIn (off := 163) (tgt := 172) hx hb dX5_countNumber_9 (by decide) (by decide) (by decide) (by decide) ?_
    refine lv_aload_n hx hb dX5_countNumber_172 rfl (lv_at hl 1 rfl) ?_
    refine k_get X w 0 rfl rfl 0 (by decide) rfl iX5_countNumber_X5 (List.mem_of_getElem? (i := 1) rfl) (v := .ref an) rfl dX5_countNumber_173 ?_
    refine k_get X w 1 rfl rfl 1 (by decide) rfl iX5_countNumber_X3 (List.mem_of_getElem? (i := 13) rfl) (v := .ref pan) rfl dX5_countNumber_176 ?_
    refine k_get X w 5 rfl rfl 1 (by decide) rfl iX5_countNumber_X1 (List.mem_of_getElem? (i := 14) rfl) (v := .int (z 10)) rfl dX5_countNumber_179 ?_
    exact fin _ _ _ _ _ w (by rfl) dX5_countNumber_182
  · refine lv_aload_n hx hb dX5_countNumber_0 rfl (lv_at hl 0 rfl) ?_
    refine k_get X w 0 rfl rfl 0 (by decide) rfl iX5_countNumber_X5 (List.mem_of_getElem? (i := 1) rfl) (v := .ref an) rfl dX5_countNumber_1 ?_
    refine k_get X w 1 rfl rfl 0 (by decide) rfl iX5_countNumber_X3 (List.mem_of_getElem? (i := 2) rfl) (v := .ref w1n) rfl dX5_countNumber_4 ?_
    refine lv_astore_n (lv' := [(2, .ref w1n), (0, .ref xx), (1, .int (nI 11))]) hx hb dX5_countNumber_7 rfl hl (by decide) rfl (fun ls hl => ?_)
    refine lv_iload_n hx hb dX5_countNumber_8 rfl (lv_at hl 2 rfl) ?_
    refine lv_tableIn (off := 174) (tgt := 183) hx hb dX5_countNumber_9 (by decide) (by decide) (by decide) (by decide) ?_
    refine lv_aload_n hx hb dX5_countNumber_183 rfl (lv_at hl 1 rfl) ?_
    refine k_get X w 0 rfl rfl 0 (by decide) rfl iX5_countNumber_X5 (List.mem_of_getElem? (i := 1) rfl) (v := .ref an) rfl dX5_countNumber_184 ?_
    refine k_get X w 1 rfl rfl 3 (by decide) rfl iX5_countNumber_X3 (List.mem_of_getElem? (i := 15) rfl) (v := .int (z 11)) rfl dX5_countNumber_187 ?_
    exact fin _ _ _ _ _ w (by rfl) dX5_countNumber_190
  · refine lv_aload_n hx hb dX5_countNumber_0 rfl (lv_at hl 0 rfl) ?_
    refine k_get X w 0 rfl rfl 0 (by decide) rfl iX5_countNumber_X5 (List.mem_of_getElem? (i := 1) rfl) (v := .ref an) rfl dX5_countNumber_1 ?_
    refine k_get X w 1 rfl rfl 0 (by decide) rfl iX5_countNumber_X3 (List.mem_of_getElem? (i := 2) rfl) (v := .ref w1n) rfl dX5_countNumber_4 ?_
    refine lv_astore_n (lv' := [(2, .ref w1n), (0, .ref xx), (1, .int (nI 12))]) hx hb dX5_countNumber_7 rfl hl (by decide) rfl (fun ls hl => ?_)
    refine lv_iload_n hx hb dX5_countNumber_8 rfl (lv_at hl 2 rfl) ?_
    refine lv_tableIn (off := 182) (tgt := 191) hx hb dX5_countNumber_9 (by decide) (by decide) (by decide) (by decide) ?_
    refine lv_aload_n hx hb dX5_countNumber_191 rfl (lv_at hl 1 rfl) ?_
    refine k_get X w 0 rfl rfl 0 (by decide) rfl iX5_countNumber_X5 (List.mem_of_getElem? (i := 1) rfl) (v := .ref an) rfl dX5_countNumber_192 ?_
    refine k_ciR (k_runV X w (met_X3_dayRateByPoses l D cI cJ cO an w1n wan pan ran san z len hn hn4 s.heap.size) gX5_countNumber_X3_dayRateByPoses rfl rfl rfl 0 hdX3_dayRateByPoses ⟨Nat.le_of_ble_eq_true rfl, Nat.le_of_ble_eq_true rfl⟩ [1, 2, 3, 4, 5, 6] rfl rfl 1 3 rfl rfl rfl rfl hl.1 rfl (Nat.le_of_ble_eq_true rfl) dX5_countNumber_195 ⟨Nat.le_of_ble_eq_true rfl, Nat.le_of_ble_eq_true rfl⟩) w hA [1, 2, 3, 4, 5, 6] rfl (fun H locs w => ?_)
    exact fin _ _ _ _ _ w (by rfl) dX5_countNumber_198
  · refine lv_aload_n hx hb dX5_countNumber_0 rfl (lv_at hl 0 rfl) ?_
    refine k_get X w 0 rfl rfl 0 (by decide) rfl iX5_countNumber_X5 (List.mem_of_getElem? (i := 1) rfl) (v := .ref an) rfl dX5_countNumber_1 ?_
    refine k_get X w 1 rfl rfl 0 (by decide) rfl iX5_countNumber_X3 (List.mem_of_getElem? (i := 2) rfl) (v := .ref w1n) rfl dX5_countNumber_4 ?_
    refine lv_astore_n (lv' := [(2, .ref w1n), (0, .ref xx), (1, .int (nI 13))]) hx hb dX5_countNumber_7 rfl hl (by decide) rfl (fun ls hl => ?_)
    refine lv_iload_n hx hb dX5_countNumber_8 rfl (lv_at hl 2 rfl) ?_
    refine lv_tableIn (off := 190) (tgt := 199) hx hb dX5_countNumber_9 (by decide) (by decide) (by decide) (by decide) ?_
    refine lv_aload_n hx hb dX5_countNumber_199 rfl (lv_at hl 1 rfl) ?_
    refine k_get X w 0 rfl rfl 0 (by decide) rfl iX5_countNumber_X5 (List.mem_of_getElem? (i := 1) rfl) (v := .ref an) rfl dX5_countNumber_200 ?_
    refine k_ciR (k_runV X w (met_X3_dayRateByPaper l D cI cJ cO an w1n wan pan ran san z len hn hn4 s.heap.size) gX5_countNumber_X3_dayRateByPaper rfl rfl rfl 0 hdX3_dayRateByPaper ⟨Nat.le_of_ble_eq_true rfl, Nat.le_of_ble_eq_true rfl⟩ [1, 2, 3, 4, 5, 6] rfl rfl 1 3 rfl rfl rfl rfl hl.1 rfl (Nat.le_of_ble_eq_true rfl) dX5_countNumber_203 ⟨Nat.le_of_ble_eq_true rfl, Nat.le_of_ble_eq_true rfl⟩) w hA [1, 2, 3, 4, 5, 6] rfl (fun H locs w => ?_)
    exact fin _ _ _ _ _ w (by rfl) dX5_countNumber_206
  · refine lv_aload_n hx hb dX5_countNumber_0 rfl (lv_at hl 0 rfl) ?_
    refine k_get X w 0 rfl rfl 0 (by decide) rfl iX5_countNumber_X5 (List.mem_of_getElem? (i := 1) rfl) (v := .ref an) rfl dX5_countNumber_1 ?_
    refine k_get X w 1 rfl rfl 0 (by decide) rfl iX5_countNumber_X3 (List.mem_of_getElem? (i := 2) rfl) (v := .ref w1n) rfl dX5_countNumber_4 ?_
    refine lv_astore_n (lv' := [(2, .ref w1n), (0, .ref xx), (1, .int (nI 14))]) hx hb dX5_countNumber_7 rfl hl (by decide) rfl (fun ls hl => ?_)
    refine lv_iload_n hx hb dX5_countNumber_8 rfl (lv_at hl 2 rfl) ?_
    refine lv_tableIn (off := 198) (tgt := 207) hx hb dX5_countNumber_9 (by decide) (by decide) (by decide) (by decide) ?_
    refine lv_aload_n hx hb dX5_countNumber_207 rfl (lv_at hl 1 rfl) ?_
    refine k_get X w 0 rfl rfl 0 (by decide) rfl iX5_countNumber_X5 (List.mem_of_getElem? (i := 1) rfl) (v := .ref an) rfl dX5_countNumber_208 ?_
    refine k_ciR (k_runV X w (met_X3_whyNoDayRate l D cI cJ cO an w1n wan pan ran san z len hn hn4 s.heap.size) gX5_countNumber_X3_whyNoDayRate rfl rfl rfl 0 hdX3_whyNoDayRate ⟨Nat.le_of_ble_eq_true rfl, Nat.le_of_ble_eq_true rfl⟩ [1, 2, 3, 4, 5, 6] rfl rfl 1 3 rfl rfl rfl rfl hl.1 rfl (Nat.le_of_ble_eq_true rfl) dX5_countNumber_211 ⟨Nat.le_of_ble_eq_true rfl, Nat.le_of_ble_eq_true rfl⟩) w hA [1, 2, 3, 4, 5, 6] rfl (fun H locs w => ?_)
    exact fin _ _ _ _ _ w (by rfl) dX5_countNumber_214
  · refine lv_aload_n hx hb dX5_countNumber_0 rfl (lv_at hl 0 rfl) ?_
    refine k_get X w 0 rfl rfl 0 (by decide) rfl iX5_countNumber_X5 (List.mem_of_getElem? (i := 1) rfl) (v := .ref an) rfl dX5_countNumber_1 ?_
    refine k_get X w 1 rfl rfl 0 (by decide) rfl iX5_countNumber_X3 (List.mem_of_getElem? (i := 2) rfl) (v := .ref w1n) rfl dX5_countNumber_4 ?_
    refine lv_astore_n (lv' := [(2, .ref w1n), (0, .ref xx), (1, .int (nI 15))]) hx hb dX5_countNumber_7 rfl hl (by decide) rfl (fun ls hl => ?_)
    refine lv_iload_n hx hb dX5_countNumber_8 rfl (lv_at hl 2 rfl) ?_
    refine lv_tableIn (off := 206) (tgt := 215) hx hb dX5_countNumber_9 (by decide) (by decide) (by decide) (by decide) ?_
    refine lv_aload_n hx hb dX5_countNumber_215 rfl (lv_at hl 0 rfl) ?_
    refine k_get X w 3 rfl rfl 10 (by decide) rfl iX5_countNumber_X4 (List.mem_of_getElem? (i := 16) rfl) (v := .int (z 9)) rfl dX5_countNumber_216 ?_
    exact fin _ _ _ _ _ w (by rfl) dX5_countNumber_219
  · refine lv_aload_n hx hb dX5_countNumber_0 rfl (lv_at hl 0 rfl) ?_
    refine k_get X w 0 rfl rfl 0 (by decide) rfl iX5_countNumber_X5 (List.mem_of_getElem? (i := 1) rfl) (v := .ref an) rfl dX5_countNumber_1 ?_
    refine k_get X w 1 rfl rfl 0 (by decide) rfl iX5_countNumber_X3 (List.mem_of_getElem? (i := 2) rfl) (v := .ref w1n) rfl dX5_countNumber_4 ?_
    refine lv_astore_n (lv' := [(2, .ref w1n), (0, .ref xx), (1, .int (nI 16))]) hx hb dX5_countNumber_7 rfl hl (by decide) rfl (fun ls hl => ?_)
    refine lv_iload_n hx hb dX5_countNumber_8 rfl (lv_at hl 2 rfl) ?_
    refine lv_tableIn (off := 211) (tgt := 220) hx hb dX5_countNumber_9 (by decide) (by decide) (by decide) (by decide) ?_
    refine lv_aload_n hx hb dX5_countNumber_220 rfl (lv_at hl 1 rfl) ?_
    refine k_get X w 0 rfl rfl 0 (by decide) rfl iX5_countNumber_X5 (List.mem_of_getElem? (i := 1) rfl) (v := .ref an) rfl dX5_countNumber_221 ?_
    refine k_get X w 1 rfl rfl 2 (by decide) rfl iX5_countNumber_X3 (List.mem_of_getElem? (i := 17) rfl) (v := .ref san) rfl dX5_countNumber_224 ?_
    refine lv_iconst (v := 0) hx hb dX5_countNumber_227 (by decide) ?_
    refine k_iald X w 2 0 rfl rfl 0 (kj := 12) rfl (by decide) (by decide) rfl (v := z 12) rfl dX5_countNumber_228 ?_
    exact fin _ _ _ _ _ w (by rfl) dX5_countNumber_229
  · refine lv_aload_n hx hb dX5_countNumber_0 rfl (lv_at hl 0 rfl) ?_
    refine k_get X w 0 rfl rfl 0 (by decide) rfl iX5_countNumber_X5 (List.mem_of_getElem? (i := 1) rfl) (v := .ref an) rfl dX5_countNumber_1 ?_
    refine k_get X w 1 rfl rfl 0 (by decide) rfl iX5_countNumber_X3 (List.mem_of_getElem? (i := 2) rfl) (v := .ref w1n) rfl dX5_countNumber_4 ?_
    refine lv_astore_n (lv' := [(2, .ref w1n), (0, .ref xx), (1, .int (nI 17))]) hx hb dX5_countNumber_7 rfl hl (by decide) rfl (fun ls hl => ?_)
    refine lv_iload_n hx hb dX5_countNumber_8 rfl (lv_at hl 2 rfl) ?_
    refine lv_tableIn (off := 221) (tgt := 230) hx hb dX5_countNumber_9 (by decide) (by decide) (by decide) (by decide) ?_
    refine lv_aload_n hx hb dX5_countNumber_230 rfl (lv_at hl 1 rfl) ?_
    refine k_get X w 0 rfl rfl 0 (by decide) rfl iX5_countNumber_X5 (List.mem_of_getElem? (i := 1) rfl) (v := .ref an) rfl dX5_countNumber_231 ?_
    refine k_get X w 1 rfl rfl 2 (by decide) rfl iX5_countNumber_X3 (List.mem_of_getElem? (i := 17) rfl) (v := .ref san) rfl dX5_countNumber_234 ?_
    refine lv_iconst (v := 1) hx hb dX5_countNumber_237 (by decide) ?_
    refine k_iald X w 2 0 rfl rfl 1 (kj := 13) rfl (by decide) (by decide) rfl (v := z 13) rfl dX5_countNumber_238 ?_
    exact fin _ _ _ _ _ w (by rfl) dX5_countNumber_239
  · refine lv_aload_n hx hb dX5_countNumber_0 rfl (lv_at hl 0 rfl) ?_
    refine k_get X w 0 rfl rfl 0 (by decide) rfl iX5_countNumber_X5 (List.mem_of_getElem? (i := 1) rfl) (v := .ref an) rfl dX5_countNumber_1 ?_
    refine k_get X w 1 rfl rfl 0 (by decide) rfl iX5_countNumber_X3 (List.mem_of_getElem? (i := 2) rfl) (v := .ref w1n) rfl dX5_countNumber_4 ?_
    refine lv_astore_n (lv' := [(2, .ref w1n), (0, .ref xx), (1, .int (nI 18))]) hx hb dX5_countNumber_7 rfl hl (by decide) rfl (fun ls hl => ?_)
    refine lv_iload_n hx hb dX5_countNumber_8 rfl (lv_at hl 2 rfl) ?_
    refine lv_tableIn (off := 231) (tgt := 240) hx hb dX5_countNumber_9 (by decide) (by decide) (by decide) (by decide) ?_
    refine lv_aload_n hx hb dX5_countNumber_240 rfl (lv_at hl 1 rfl) ?_
    refine k_get X w 0 rfl rfl 0 (by decide) rfl iX5_countNumber_X5 (List.mem_of_getElem? (i := 1) rfl) (v := .ref an) rfl dX5_countNumber_241 ?_
    refine k_get X w 1 rfl rfl 2 (by decide) rfl iX5_countNumber_X3 (List.mem_of_getElem? (i := 17) rfl) (v := .ref san) rfl dX5_countNumber_244 ?_
    refine lv_iconst (v := 2) hx hb dX5_countNumber_247 (by decide) ?_
    refine k_iald X w 2 0 rfl rfl 2 (kj := 14) rfl (by decide) (by decide) rfl (v := z 14) rfl dX5_countNumber_248 ?_
    exact fin _ _ _ _ _ w (by rfl) dX5_countNumber_249
  · refine lv_aload_n hx hb dX5_countNumber_0 rfl (lv_at hl 0 rfl) ?_
    refine k_get X w 0 rfl rfl 0 (by decide) rfl iX5_countNumber_X5 (List.mem_of_getElem? (i := 1) rfl) (v := .ref an) rfl dX5_countNumber_1 ?_
    refine k_get X w 1 rfl rfl 0 (by decide) rfl iX5_countNumber_X3 (List.mem_of_getElem? (i := 2) rfl) (v := .ref w1n) rfl dX5_countNumber_4 ?_
    refine lv_astore_n (lv' := [(2, .ref w1n), (0, .ref xx), (1, .int (nI 19))]) hx hb dX5_countNumber_7 rfl hl (by decide) rfl (fun ls hl => ?_)
    refine lv_iload_n hx hb dX5_countNumber_8 rfl (lv_at hl 2 rfl) ?_
    refine lv_tableIn (off := 241) (tgt := 250) hx hb dX5_countNumber_9 (by decide) (by decide) (by decide) (by decide) ?_
    refine lv_aload_n hx hb dX5_countNumber_250 rfl (lv_at hl 1 rfl) ?_
    refine k_get X w 0 rfl rfl 0 (by decide) rfl iX5_countNumber_X5 (List.mem_of_getElem? (i := 1) rfl) (v := .ref an) rfl dX5_countNumber_251 ?_
    refine k_get X w 1 rfl rfl 2 (by decide) rfl iX5_countNumber_X3 (List.mem_of_getElem? (i := 17) rfl) (v := .ref san) rfl dX5_countNumber_254 ?_
    refine lv_iconst (v := 3) hx hb dX5_countNumber_257 (by decide) ?_
    refine k_iald X w 2 0 rfl rfl 3 (kj := 15) rfl (by decide) (by decide) rfl (v := z 15) rfl dX5_countNumber_258 ?_
    exact fin _ _ _ _ _ w (by rfl) dX5_countNumber_259
  · refine lv_aload_n hx hb dX5_countNumber_0 rfl (lv_at hl 0 rfl) ?_
    refine k_get X w 0 rfl rfl 0 (by decide) rfl iX5_countNumber_X5 (List.mem_of_getElem? (i := 1) rfl) (v := .ref an) rfl dX5_countNumber_1 ?_
    refine k_get X w 1 rfl rfl 0 (by decide) rfl iX5_countNumber_X3 (List.mem_of_getElem? (i := 2) rfl) (v := .ref w1n) rfl dX5_countNumber_4 ?_
    refine lv_astore_n (lv' := [(2, .ref w1n), (0, .ref xx), (1, .int (nI 20))]) hx hb dX5_countNumber_7 rfl hl (by decide) rfl (fun ls hl => ?_)
    refine lv_iload_n hx hb dX5_countNumber_8 rfl (lv_at hl 2 rfl) ?_
    refine lv_tableOut (tgt := 260) hx hb dX5_countNumber_9 (by decide) (by decide) ?_
    refine lv_aload_n hx hb dX5_countNumber_260 rfl (lv_at hl 1 rfl) ?_
    refine k_get X w 0 rfl rfl 2 (by decide) rfl iX5_countNumber_X5 (List.mem_of_getElem? (i := 18) rfl) (v := .ref sv) rfl dX5_countNumber_261 ?_
    refine k_get X w 7 rfl rfl 2 (by decide) rfl iX5_countNumber_X2 (List.mem_of_getElem? (i := 19) rfl) (v := .int (y 1)) rfl dX5_countNumber_264 ?_
    exact fin _ _ _ _ _ w (by rfl) dX5_countNumber_267
theorem hdX5_wornNumber : yX5_wornNumber.cls = RX5 ∧ yX5_wornNumber.cls ≠ "java/lang/invoke/MethodHandle" ∧ yX5_wornNumber.cls ≠ "java/lang/invoke/VarHandle" ∧ (parseMethodDescriptor yX5_wornNumber.desc).map (fun d => d.parameters.length) = some 4 := ⟨rfl, by decide, by decide, by decide +kernel⟩
theorem iX5_wornNumber_X3 : ∀ w ∈ wsX30, w ∈ wsX5_wornNumber := fun _ h => List.mem_cons_of_mem _ (List.mem_append_left _ (List.mem_append_right _ h))
theorem iX5_wornNumber_X4 : ∀ w ∈ wsX40, w ∈ wsX5_wornNumber := fun _ h => List.mem_cons_of_mem _ (List.mem_append_right _ h)
theorem iX5_wornNumber_X5 : ∀ w ∈ wsX50, w ∈ wsX5_wornNumber := fun _ h => List.mem_cons_of_mem _ (List.mem_append_left _ (List.mem_append_left _ (List.mem_append_right _ h)))
set_option maxHeartbeats 4000000 in
set_option maxRecDepth 100000 in
theorem met_X5_wornNumber (l : Launch) (D : va_G) (cI cJ cO : ClassId) (xx : Nat) (ak : Nat) (b : Nat) (tr : Nat) (hf : Int32) (sv : Nat) (an : Nat) (w1n : Nat) (wan : Nat) (pan : Nat) (ran : Nat) (san : Nat) (z : Nat → Int32) (twa : Nat) (zt : Nat → Int32) (i : Nat) (j : Nat) (k : Nat) (wh : Nat) (hi : i < 6) (hj : j < 6) (hk : k < 6) (hw : wh < 2) : CI l D (TY cI cJ cO) yX5_wornNumber wsX5_wornNumber ({ frames := 5, cells := 0, slots := 0, locals := 109 }) [.ref xx, .int (nI i), .int (nI j), .int (nI k), .int (nI wh)] [oX xx an ak sv b tr hf, oS an w1n pan san z, aI cI san 4 12 z, oW w1n wan z, aI cI wan 6 19 z, oP pan ran z, aI cI ran 200 25 z, oW tr twa zt, aI cI twa 6 19 zt] (wornN z i j k wh) [oX xx an ak sv b tr hf, oS an w1n pan san z, aI cI san 4 12 z, oW w1n wan z, aI cI wan 6 19 z, oP pan ran z, aI cI ran 200 25 z, oW tr twa (wz3 z i j k), aI cI twa 6 19 (wz3 z i j k)] := by
  refine CI.of (plainFor_of_name (by decide)) rfl (Nat.le_of_ble_eq_true rfl) (rfl) (fun p e s m below meth c A ls Q X hA w hl fin => ?_)
  obtain ⟨hx, hb, hml, hown, hts⟩ := id X.1
  have hl : lv_has ls 6 [(0, .ref xx), (1, .int (nI i)), (2, .int (nI j)), (3, .int (nI k)), (4, .int (nI wh))] := hl
  rcases (show wh = 0 ∨ wh = 1 by omega) with rfl | rfl
  · refine lv_aload_n hx hb dX5_wornNumber_0 rfl (lv_at hl 0 rfl) ?_
    refine k_get X w 0 rfl rfl 4 (by decide) rfl iX5_wornNumber_X5 (List.mem_of_getElem? (i := 1) rfl) (v := .ref tr) rfl dX5_wornNumber_1 ?_
    refine lv_aload_n hx hb dX5_wornNumber_4 rfl (lv_at hl 0 rfl) ?_
    refine k_get X w 0 rfl rfl 0 (by decide) rfl iX5_wornNumber_X5 (List.mem_of_getElem? (i := 2) rfl) (v := .ref an) rfl dX5_wornNumber_5 ?_
    refine k_get X w 1 rfl rfl 0 (by decide) rfl iX5_wornNumber_X3 (List.mem_of_getElem? (i := 3) rfl) (v := .ref w1n) rfl dX5_wornNumber_8 ?_
    refine k_cv (wr := [oX xx an ak sv b tr hf, oS an w1n pan san z, aI cI san 4 12 z, oP pan ran z, aI cI ran 200 25 z]) (ws2 := [oX xx an ak sv b tr hf, oS an w1n pan san z, aI cI san 4 12 z, oW w1n wan z, aI cI wan 6 19 z, oP pan ran z, aI cI ran 200 25 z, oW tr twa z, aI cI twa 6 19 z]) (k_runV X w (met_X4_copyFrom l D cI cJ cO tr twa zt w1n wan z  s.heap.size) gX5_wornNumber_X4_copyFrom rfl rfl rfl 1 hdX4_copyFrom ⟨Nat.le_of_ble_eq_true rfl, Nat.le_of_ble_eq_true rfl⟩ [7, 8, 3, 4] rfl rfl 7 4 rfl rfl rfl rfl hl.1 rfl (Nat.le_of_ble_eq_true rfl) dX5_wornNumber_11 ⟨Nat.le_of_ble_eq_true rfl, Nat.le_of_ble_eq_true rfl⟩) w hA [7, 8, 3, 4] [0, 1, 2, 5, 6] rfl rfl rfl (by decide) [0, 1, 2, 7, 8, 3, 4, 5, 6] rfl rfl (fun H locs w => ?_)
    refine lv_aload_n hx hb dX5_wornNumber_14 rfl (lv_at hl 0 rfl) ?_
    refine k_get X w 0 rfl rfl 4 (by decide) rfl iX5_wornNumber_X5 (List.mem_of_getElem? (i := 1) rfl) (v := .ref tr) rfl dX5_wornNumber_15 ?_
    refine lv_iload_n hx hb dX5_wornNumber_18 rfl (lv_at hl 1 rfl) ?_
    refine k_put X w 7 rfl rfl 6 (by decide) rfl iX5_wornNumber_X4 (List.mem_of_getElem? (i := 4) rfl) tyX4_ok nmX4 rfl rfl (Nat.le_of_ble_eq_true rfl) (ws2 := [oX xx an ak sv b tr hf, oS an w1n pan san z, aI cI san 4 12 z, oW w1n wan z, aI cI wan 6 19 z, oP pan ran z, aI cI ran 200 25 z, oW tr twa (upd z 6 (nI i)), aI cI twa 6 19 z]) rfl dX5_wornNumber_19 (fun H locs w => ?_)
    refine lv_aload_n hx hb dX5_wornNumber_22 rfl (lv_at hl 0 rfl) ?_
    refine k_get X w 0 rfl rfl 4 (by decide) rfl iX5_wornNumber_X5 (List.mem_of_getElem? (i := 1) rfl) (v := .ref tr) rfl dX5_wornNumber_23 ?_
    refine lv_bipush (v := 8) hx hb dX5_wornNumber_26 (by decide) ?_
    have w := w.to (show [oX xx an ak sv b tr hf, oS an w1n pan san z, aI cI san 4 12 z, oW w1n wan z, aI cI wan 6 19 z, oP pan ran z, aI cI ran 200 25 z, oW tr twa (upd z 6 (nI i)), aI cI twa 6 19 z] = [oX xx an ak sv b tr hf, oS an w1n pan san z, aI cI san 4 12 z, oW w1n wan z, aI cI wan 6 19 z, oP pan ran z, aI cI ran 200 25 z, oW tr twa (upd z 6 (nI i)), aI cI twa 6 19 (upd z 6 (nI i))] by rw [show aI cI twa 6 19 z = aI cI twa 6 19 (upd z 6 (nI i)) from aI_c (fun k h1 h2 => (((upd_no (by omega)).trans rfl)).symm)])
    refine k_ci (wr := [oX xx an ak sv b tr hf, oS an w1n pan san z, aI cI san 4 12 z, oW w1n wan z, aI cI wan 6 19 z, oP pan ran z, aI cI ran 200 25 z]) (ws2 := [oX xx an ak sv b tr hf, oS an w1n pan san z, aI cI san 4 12 z, oW w1n wan z, aI cI wan 6 19 z, oP pan ran z, aI cI ran 200 25 z, oW tr twa (hoursF 8 (upd z 6 (nI i)) i), aI cI twa 6 19 (hoursF 8 (upd z 6 (nI i)) i)]) (k_runV X w (met_X4_run l D cI cJ cO tr twa (upd z 6 (nI i)) i 8 rfl hi (by decide) H.size) gX5_wornNumber_X4_run rfl rfl rfl 1 hdX4_run ⟨Nat.le_of_ble_eq_true rfl, Nat.le_of_ble_eq_true rfl⟩ [7, 8] rfl rfl 7 4 rfl rfl rfl rfl hl.1 rfl (Nat.le_of_ble_eq_true rfl) dX5_wornNumber_28 ⟨Nat.le_of_ble_eq_true rfl, Nat.le_of_ble_eq_true rfl⟩) w hA [7, 8] [0, 1, 2, 3, 4, 5, 6] rfl rfl rfl (by decide) [0, 1, 2, 3, 4, 5, 6, 7, 8] rfl rfl (fun H locs w => ?_)
    obtain ⟨u1, e1⟩ : ∃ u, hoursF 8 (upd z 6 (nI i)) i = u := ⟨_, rfl⟩
    rw [e1] at w
    rw [e1, show (upd z 6 (nI i)) 9 = z 9 from rfl]
    have h1 : u1 = wz1 z i := by rw [← e1]; rfl
    refine lv_istore (lv' := [(5, .int (u1 9 - z 9)), (0, .ref xx), (1, .int (nI i)), (2, .int (nI j)), (3, .int (nI k)), (4, .int (nI 0))]) hx hb dX5_wornNumber_31 hl (by decide) rfl (fun ls hl => ?_)
    refine lv_aload_n hx hb dX5_wornNumber_33 rfl (lv_at hl 1 rfl) ?_
    refine k_get X w 0 rfl rfl 4 (by decide) rfl iX5_wornNumber_X5 (List.mem_of_getElem? (i := 1) rfl) (v := .ref tr) rfl dX5_wornNumber_34 ?_
    refine lv_iload_n hx hb dX5_wornNumber_37 rfl (lv_at hl 3 rfl) ?_
    refine k_put X w 7 rfl rfl 6 (by decide) rfl iX5_wornNumber_X4 (List.mem_of_getElem? (i := 4) rfl) tyX4_ok nmX4 rfl rfl (Nat.le_of_ble_eq_true rfl) (ws2 := [oX xx an ak sv b tr hf, oS an w1n pan san z, aI cI san 4 12 z, oW w1n wan z, aI cI wan 6 19 z, oP pan ran z, aI cI ran 200 25 z, oW tr twa (upd u1 6 (nI j)), aI cI twa 6 19 u1]) rfl dX5_wornNumber_38 (fun H locs w => ?_)
    refine lv_iload hx hb dX5_wornNumber_41 (lv_at hl 0 rfl) ?_
    refine lv_aload_n hx hb dX5_wornNumber_43 rfl (lv_at hl 1 rfl) ?_
    refine k_get X w 0 rfl rfl 4 (by decide) rfl iX5_wornNumber_X5 (List.mem_of_getElem? (i := 1) rfl) (v := .ref tr) rfl dX5_wornNumber_44 ?_
    refine lv_bipush (v := 8) hx hb dX5_wornNumber_47 (by decide) ?_
    have w := w.to (show [oX xx an ak sv b tr hf, oS an w1n pan san z, aI cI san 4 12 z, oW w1n wan z, aI cI wan 6 19 z, oP pan ran z, aI cI ran 200 25 z, oW tr twa (upd u1 6 (nI j)), aI cI twa 6 19 u1] = [oX xx an ak sv b tr hf, oS an w1n pan san z, aI cI san 4 12 z, oW w1n wan z, aI cI wan 6 19 z, oP pan ran z, aI cI ran 200 25 z, oW tr twa (upd u1 6 (nI j)), aI cI twa 6 19 (upd u1 6 (nI j))] by rw [show aI cI twa 6 19 u1 = aI cI twa 6 19 (upd u1 6 (nI j)) from aI_c (fun k h1 h2 => (((upd_no (by omega)).trans rfl)).symm)])
    refine k_ci (wr := [oX xx an ak sv b tr hf, oS an w1n pan san z, aI cI san 4 12 z, oW w1n wan z, aI cI wan 6 19 z, oP pan ran z, aI cI ran 200 25 z]) (ws2 := [oX xx an ak sv b tr hf, oS an w1n pan san z, aI cI san 4 12 z, oW w1n wan z, aI cI wan 6 19 z, oP pan ran z, aI cI ran 200 25 z, oW tr twa (hoursF 8 (upd u1 6 (nI j)) j), aI cI twa 6 19 (hoursF 8 (upd u1 6 (nI j)) j)]) (k_runV X w (met_X4_run l D cI cJ cO tr twa (upd u1 6 (nI j)) j 8 rfl hj (by decide) H.size) gX5_wornNumber_X4_run rfl rfl rfl 1 hdX4_run ⟨Nat.le_of_ble_eq_true rfl, Nat.le_of_ble_eq_true rfl⟩ [7, 8] rfl rfl 7 4 rfl rfl rfl rfl hl.1 rfl (Nat.le_of_ble_eq_true rfl) dX5_wornNumber_49 ⟨Nat.le_of_ble_eq_true rfl, Nat.le_of_ble_eq_true rfl⟩) w hA [7, 8] [0, 1, 2, 3, 4, 5, 6] rfl rfl rfl (by decide) [0, 1, 2, 3, 4, 5, 6, 7, 8] rfl rfl (fun H locs w => ?_)
    obtain ⟨u2, e2⟩ : ∃ u, hoursF 8 (upd u1 6 (nI j)) j = u := ⟨_, rfl⟩
    rw [e2] at w
    rw [e2, show (upd u1 6 (nI j)) 9 = u1 9 from rfl]
    have h2 : u2 = wz2 z i j := by rw [← e2, h1]; rfl
    refine lv_iadd hx hb dX5_wornNumber_52 ?_
    refine lv_istore (lv' := [(5, .int ((u1 9 - z 9) + (u2 9 - u1 9))), (0, .ref xx), (1, .int (nI i)), (2, .int (nI j)), (3, .int (nI k)), (4, .int (nI 0))]) hx hb dX5_wornNumber_53 hl (by decide) rfl (fun ls hl => ?_)
    refine lv_aload_n hx hb dX5_wornNumber_55 rfl (lv_at hl 1 rfl) ?_
    refine k_get X w 0 rfl rfl 4 (by decide) rfl iX5_wornNumber_X5 (List.mem_of_getElem? (i := 1) rfl) (v := .ref tr) rfl dX5_wornNumber_56 ?_
    refine lv_iload_n hx hb dX5_wornNumber_59 rfl (lv_at hl 4 rfl) ?_
    refine k_put X w 7 rfl rfl 6 (by decide) rfl iX5_wornNumber_X4 (List.mem_of_getElem? (i := 4) rfl) tyX4_ok nmX4 rfl rfl (Nat.le_of_ble_eq_true rfl) (ws2 := [oX xx an ak sv b tr hf, oS an w1n pan san z, aI cI san 4 12 z, oW w1n wan z, aI cI wan 6 19 z, oP pan ran z, aI cI ran 200 25 z, oW tr twa (upd u2 6 (nI k)), aI cI twa 6 19 u2]) rfl dX5_wornNumber_60 (fun H locs w => ?_)
    refine lv_iload hx hb dX5_wornNumber_63 (lv_at hl 0 rfl) ?_
    refine lv_aload_n hx hb dX5_wornNumber_65 rfl (lv_at hl 1 rfl) ?_
    refine k_get X w 0 rfl rfl 4 (by decide) rfl iX5_wornNumber_X5 (List.mem_of_getElem? (i := 1) rfl) (v := .ref tr) rfl dX5_wornNumber_66 ?_
    refine lv_bipush (v := 8) hx hb dX5_wornNumber_69 (by decide) ?_
    have w := w.to (show [oX xx an ak sv b tr hf, oS an w1n pan san z, aI cI san 4 12 z, oW w1n wan z, aI cI wan 6 19 z, oP pan ran z, aI cI ran 200 25 z, oW tr twa (upd u2 6 (nI k)), aI cI twa 6 19 u2] = [oX xx an ak sv b tr hf, oS an w1n pan san z, aI cI san 4 12 z, oW w1n wan z, aI cI wan 6 19 z, oP pan ran z, aI cI ran 200 25 z, oW tr twa (upd u2 6 (nI k)), aI cI twa 6 19 (upd u2 6 (nI k))] by rw [show aI cI twa 6 19 u2 = aI cI twa 6 19 (upd u2 6 (nI k)) from aI_c (fun k h1 h2 => (((upd_no (by omega)).trans rfl)).symm)])
    refine k_ci (wr := [oX xx an ak sv b tr hf, oS an w1n pan san z, aI cI san 4 12 z, oW w1n wan z, aI cI wan 6 19 z, oP pan ran z, aI cI ran 200 25 z]) (ws2 := [oX xx an ak sv b tr hf, oS an w1n pan san z, aI cI san 4 12 z, oW w1n wan z, aI cI wan 6 19 z, oP pan ran z, aI cI ran 200 25 z, oW tr twa (hoursF 8 (upd u2 6 (nI k)) k), aI cI twa 6 19 (hoursF 8 (upd u2 6 (nI k)) k)]) (k_runV X w (met_X4_run l D cI cJ cO tr twa (upd u2 6 (nI k)) k 8 rfl hk (by decide) H.size) gX5_wornNumber_X4_run rfl rfl rfl 1 hdX4_run ⟨Nat.le_of_ble_eq_true rfl, Nat.le_of_ble_eq_true rfl⟩ [7, 8] rfl rfl 7 4 rfl rfl rfl rfl hl.1 rfl (Nat.le_of_ble_eq_true rfl) dX5_wornNumber_71 ⟨Nat.le_of_ble_eq_true rfl, Nat.le_of_ble_eq_true rfl⟩) w hA [7, 8] [0, 1, 2, 3, 4, 5, 6] rfl rfl rfl (by decide) [0, 1, 2, 3, 4, 5, 6, 7, 8] rfl rfl (fun H locs w => ?_)
    obtain ⟨u3, e3⟩ : ∃ u, hoursF 8 (upd u2 6 (nI k)) k = u := ⟨_, rfl⟩
    rw [e3] at w
    rw [e3, show (upd u2 6 (nI k)) 9 = u2 9 from rfl]
    have h3 : u3 = wz3 z i j k := by rw [← e3, h2]; rfl
    refine lv_iadd hx hb dX5_wornNumber_74 ?_
    refine lv_istore (lv' := [(5, .int (((u1 9 - z 9) + (u2 9 - u1 9)) + (u3 9 - u2 9))), (0, .ref xx), (1, .int (nI i)), (2, .int (nI j)), (3, .int (nI k)), (4, .int (nI 0))]) hx hb dX5_wornNumber_75 hl (by decide) rfl (fun ls hl => ?_)
    refine lv_iload hx hb dX5_wornNumber_77 (lv_at hl 5 rfl) ?_
    refine lv_if_ne (tgt := 107) hx hb dX5_wornNumber_79 (by decide) (fun c1 => absurd c1 (by decide)) (fun c1 => ?_)
    refine lv_aload_n hx hb dX5_wornNumber_82 rfl (lv_at hl 1 rfl) ?_
    refine k_get X w 0 rfl rfl 4 (by decide) rfl iX5_wornNumber_X5 (List.mem_of_getElem? (i := 1) rfl) (v := .ref tr) rfl dX5_wornNumber_83 ?_
    refine k_get X w 7 rfl rfl 8 (by decide) rfl iX5_wornNumber_X4 (List.mem_of_getElem? (i := 5) rfl) (v := .int (u3 7)) rfl dX5_wornNumber_86 ?_
    refine lv_aload_n hx hb dX5_wornNumber_89 rfl (lv_at hl 1 rfl) ?_
    refine k_get X w 0 rfl rfl 0 (by decide) rfl iX5_wornNumber_X5 (List.mem_of_getElem? (i := 2) rfl) (v := .ref an) rfl dX5_wornNumber_90 ?_
    refine k_get X w 1 rfl rfl 0 (by decide) rfl iX5_wornNumber_X3 (List.mem_of_getElem? (i := 3) rfl) (v := .ref w1n) rfl dX5_wornNumber_93 ?_
    refine k_get X w 3 rfl rfl 8 (by decide) rfl iX5_wornNumber_X4 (List.mem_of_getElem? (i := 5) rfl) (v := .int (z 7)) rfl dX5_wornNumber_96 ?_
    refine lv_isub hx hb dX5_wornNumber_99 ?_
    refine lv_ldcw (v := 100000) hx hb hown (hts _ (List.mem_of_getElem? (i := 6) rfl)) dX5_wornNumber_100 ?_
    refine lv_iadd hx hb dX5_wornNumber_103 ?_
    refine lv_goto (tgt := 109) hx hb dX5_wornNumber_104 (by decide) ?_
    have ez : u3 = wz3 z i j k := by exact h3
    rw [ez] at w
    exact fin _ _ _ _ _ w (by rw [h3]; rfl) dX5_wornNumber_109
  · refine lv_aload_n hx hb dX5_wornNumber_0 rfl (lv_at hl 0 rfl) ?_
    refine k_get X w 0 rfl rfl 4 (by decide) rfl iX5_wornNumber_X5 (List.mem_of_getElem? (i := 1) rfl) (v := .ref tr) rfl dX5_wornNumber_1 ?_
    refine lv_aload_n hx hb dX5_wornNumber_4 rfl (lv_at hl 0 rfl) ?_
    refine k_get X w 0 rfl rfl 0 (by decide) rfl iX5_wornNumber_X5 (List.mem_of_getElem? (i := 2) rfl) (v := .ref an) rfl dX5_wornNumber_5 ?_
    refine k_get X w 1 rfl rfl 0 (by decide) rfl iX5_wornNumber_X3 (List.mem_of_getElem? (i := 3) rfl) (v := .ref w1n) rfl dX5_wornNumber_8 ?_
    refine k_cv (wr := [oX xx an ak sv b tr hf, oS an w1n pan san z, aI cI san 4 12 z, oP pan ran z, aI cI ran 200 25 z]) (ws2 := [oX xx an ak sv b tr hf, oS an w1n pan san z, aI cI san 4 12 z, oW w1n wan z, aI cI wan 6 19 z, oP pan ran z, aI cI ran 200 25 z, oW tr twa z, aI cI twa 6 19 z]) (k_runV X w (met_X4_copyFrom l D cI cJ cO tr twa zt w1n wan z  s.heap.size) gX5_wornNumber_X4_copyFrom rfl rfl rfl 1 hdX4_copyFrom ⟨Nat.le_of_ble_eq_true rfl, Nat.le_of_ble_eq_true rfl⟩ [7, 8, 3, 4] rfl rfl 7 4 rfl rfl rfl rfl hl.1 rfl (Nat.le_of_ble_eq_true rfl) dX5_wornNumber_11 ⟨Nat.le_of_ble_eq_true rfl, Nat.le_of_ble_eq_true rfl⟩) w hA [7, 8, 3, 4] [0, 1, 2, 5, 6] rfl rfl rfl (by decide) [0, 1, 2, 7, 8, 3, 4, 5, 6] rfl rfl (fun H locs w => ?_)
    refine lv_aload_n hx hb dX5_wornNumber_14 rfl (lv_at hl 0 rfl) ?_
    refine k_get X w 0 rfl rfl 4 (by decide) rfl iX5_wornNumber_X5 (List.mem_of_getElem? (i := 1) rfl) (v := .ref tr) rfl dX5_wornNumber_15 ?_
    refine lv_iload_n hx hb dX5_wornNumber_18 rfl (lv_at hl 1 rfl) ?_
    refine k_put X w 7 rfl rfl 6 (by decide) rfl iX5_wornNumber_X4 (List.mem_of_getElem? (i := 4) rfl) tyX4_ok nmX4 rfl rfl (Nat.le_of_ble_eq_true rfl) (ws2 := [oX xx an ak sv b tr hf, oS an w1n pan san z, aI cI san 4 12 z, oW w1n wan z, aI cI wan 6 19 z, oP pan ran z, aI cI ran 200 25 z, oW tr twa (upd z 6 (nI i)), aI cI twa 6 19 z]) rfl dX5_wornNumber_19 (fun H locs w => ?_)
    refine lv_aload_n hx hb dX5_wornNumber_22 rfl (lv_at hl 0 rfl) ?_
    refine k_get X w 0 rfl rfl 4 (by decide) rfl iX5_wornNumber_X5 (List.mem_of_getElem? (i := 1) rfl) (v := .ref tr) rfl dX5_wornNumber_23 ?_
    refine lv_bipush (v := 8) hx hb dX5_wornNumber_26 (by decide) ?_
    have w := w.to (show [oX xx an ak sv b tr hf, oS an w1n pan san z, aI cI san 4 12 z, oW w1n wan z, aI cI wan 6 19 z, oP pan ran z, aI cI ran 200 25 z, oW tr twa (upd z 6 (nI i)), aI cI twa 6 19 z] = [oX xx an ak sv b tr hf, oS an w1n pan san z, aI cI san 4 12 z, oW w1n wan z, aI cI wan 6 19 z, oP pan ran z, aI cI ran 200 25 z, oW tr twa (upd z 6 (nI i)), aI cI twa 6 19 (upd z 6 (nI i))] by rw [show aI cI twa 6 19 z = aI cI twa 6 19 (upd z 6 (nI i)) from aI_c (fun k h1 h2 => (((upd_no (by omega)).trans rfl)).symm)])
    refine k_ci (wr := [oX xx an ak sv b tr hf, oS an w1n pan san z, aI cI san 4 12 z, oW w1n wan z, aI cI wan 6 19 z, oP pan ran z, aI cI ran 200 25 z]) (ws2 := [oX xx an ak sv b tr hf, oS an w1n pan san z, aI cI san 4 12 z, oW w1n wan z, aI cI wan 6 19 z, oP pan ran z, aI cI ran 200 25 z, oW tr twa (hoursF 8 (upd z 6 (nI i)) i), aI cI twa 6 19 (hoursF 8 (upd z 6 (nI i)) i)]) (k_runV X w (met_X4_run l D cI cJ cO tr twa (upd z 6 (nI i)) i 8 rfl hi (by decide) H.size) gX5_wornNumber_X4_run rfl rfl rfl 1 hdX4_run ⟨Nat.le_of_ble_eq_true rfl, Nat.le_of_ble_eq_true rfl⟩ [7, 8] rfl rfl 7 4 rfl rfl rfl rfl hl.1 rfl (Nat.le_of_ble_eq_true rfl) dX5_wornNumber_28 ⟨Nat.le_of_ble_eq_true rfl, Nat.le_of_ble_eq_true rfl⟩) w hA [7, 8] [0, 1, 2, 3, 4, 5, 6] rfl rfl rfl (by decide) [0, 1, 2, 3, 4, 5, 6, 7, 8] rfl rfl (fun H locs w => ?_)
    obtain ⟨u1, e1⟩ : ∃ u, hoursF 8 (upd z 6 (nI i)) i = u := ⟨_, rfl⟩
    rw [e1] at w
    rw [e1, show (upd z 6 (nI i)) 9 = z 9 from rfl]
    have h1 : u1 = wz1 z i := by rw [← e1]; rfl
    refine lv_istore (lv' := [(5, .int (u1 9 - z 9)), (0, .ref xx), (1, .int (nI i)), (2, .int (nI j)), (3, .int (nI k)), (4, .int (nI 1))]) hx hb dX5_wornNumber_31 hl (by decide) rfl (fun ls hl => ?_)
    refine lv_aload_n hx hb dX5_wornNumber_33 rfl (lv_at hl 1 rfl) ?_
    refine k_get X w 0 rfl rfl 4 (by decide) rfl iX5_wornNumber_X5 (List.mem_of_getElem? (i := 1) rfl) (v := .ref tr) rfl dX5_wornNumber_34 ?_
    refine lv_iload_n hx hb dX5_wornNumber_37 rfl (lv_at hl 3 rfl) ?_
    refine k_put X w 7 rfl rfl 6 (by decide) rfl iX5_wornNumber_X4 (List.mem_of_getElem? (i := 4) rfl) tyX4_ok nmX4 rfl rfl (Nat.le_of_ble_eq_true rfl) (ws2 := [oX xx an ak sv b tr hf, oS an w1n pan san z, aI cI san 4 12 z, oW w1n wan z, aI cI wan 6 19 z, oP pan ran z, aI cI ran 200 25 z, oW tr twa (upd u1 6 (nI j)), aI cI twa 6 19 u1]) rfl dX5_wornNumber_38 (fun H locs w => ?_)
    refine lv_iload hx hb dX5_wornNumber_41 (lv_at hl 0 rfl) ?_
    refine lv_aload_n hx hb dX5_wornNumber_43 rfl (lv_at hl 1 rfl) ?_
    refine k_get X w 0 rfl rfl 4 (by decide) rfl iX5_wornNumber_X5 (List.mem_of_getElem? (i := 1) rfl) (v := .ref tr) rfl dX5_wornNumber_44 ?_
    refine lv_bipush (v := 8) hx hb dX5_wornNumber_47 (by decide) ?_
    have w := w.to (show [oX xx an ak sv b tr hf, oS an w1n pan san z, aI cI san 4 12 z, oW w1n wan z, aI cI wan 6 19 z, oP pan ran z, aI cI ran 200 25 z, oW tr twa (upd u1 6 (nI j)), aI cI twa 6 19 u1] = [oX xx an ak sv b tr hf, oS an w1n pan san z, aI cI san 4 12 z, oW w1n wan z, aI cI wan 6 19 z, oP pan ran z, aI cI ran 200 25 z, oW tr twa (upd u1 6 (nI j)), aI cI twa 6 19 (upd u1 6 (nI j))] by rw [show aI cI twa 6 19 u1 = aI cI twa 6 19 (upd u1 6 (nI j)) from aI_c (fun k h1 h2 => (((upd_no (by omega)).trans rfl)).symm)])
    refine k_ci (wr := [oX xx an ak sv b tr hf, oS an w1n pan san z, aI cI san 4 12 z, oW w1n wan z, aI cI wan 6 19 z, oP pan ran z, aI cI ran 200 25 z]) (ws2 := [oX xx an ak sv b tr hf, oS an w1n pan san z, aI cI san 4 12 z, oW w1n wan z, aI cI wan 6 19 z, oP pan ran z, aI cI ran 200 25 z, oW tr twa (hoursF 8 (upd u1 6 (nI j)) j), aI cI twa 6 19 (hoursF 8 (upd u1 6 (nI j)) j)]) (k_runV X w (met_X4_run l D cI cJ cO tr twa (upd u1 6 (nI j)) j 8 rfl hj (by decide) H.size) gX5_wornNumber_X4_run rfl rfl rfl 1 hdX4_run ⟨Nat.le_of_ble_eq_true rfl, Nat.le_of_ble_eq_true rfl⟩ [7, 8] rfl rfl 7 4 rfl rfl rfl rfl hl.1 rfl (Nat.le_of_ble_eq_true rfl) dX5_wornNumber_49 ⟨Nat.le_of_ble_eq_true rfl, Nat.le_of_ble_eq_true rfl⟩) w hA [7, 8] [0, 1, 2, 3, 4, 5, 6] rfl rfl rfl (by decide) [0, 1, 2, 3, 4, 5, 6, 7, 8] rfl rfl (fun H locs w => ?_)
    obtain ⟨u2, e2⟩ : ∃ u, hoursF 8 (upd u1 6 (nI j)) j = u := ⟨_, rfl⟩
    rw [e2] at w
    rw [e2, show (upd u1 6 (nI j)) 9 = u1 9 from rfl]
    have h2 : u2 = wz2 z i j := by rw [← e2, h1]; rfl
    refine lv_iadd hx hb dX5_wornNumber_52 ?_
    refine lv_istore (lv' := [(5, .int ((u1 9 - z 9) + (u2 9 - u1 9))), (0, .ref xx), (1, .int (nI i)), (2, .int (nI j)), (3, .int (nI k)), (4, .int (nI 1))]) hx hb dX5_wornNumber_53 hl (by decide) rfl (fun ls hl => ?_)
    refine lv_aload_n hx hb dX5_wornNumber_55 rfl (lv_at hl 1 rfl) ?_
    refine k_get X w 0 rfl rfl 4 (by decide) rfl iX5_wornNumber_X5 (List.mem_of_getElem? (i := 1) rfl) (v := .ref tr) rfl dX5_wornNumber_56 ?_
    refine lv_iload_n hx hb dX5_wornNumber_59 rfl (lv_at hl 4 rfl) ?_
    refine k_put X w 7 rfl rfl 6 (by decide) rfl iX5_wornNumber_X4 (List.mem_of_getElem? (i := 4) rfl) tyX4_ok nmX4 rfl rfl (Nat.le_of_ble_eq_true rfl) (ws2 := [oX xx an ak sv b tr hf, oS an w1n pan san z, aI cI san 4 12 z, oW w1n wan z, aI cI wan 6 19 z, oP pan ran z, aI cI ran 200 25 z, oW tr twa (upd u2 6 (nI k)), aI cI twa 6 19 u2]) rfl dX5_wornNumber_60 (fun H locs w => ?_)
    refine lv_iload hx hb dX5_wornNumber_63 (lv_at hl 0 rfl) ?_
    refine lv_aload_n hx hb dX5_wornNumber_65 rfl (lv_at hl 1 rfl) ?_
    refine k_get X w 0 rfl rfl 4 (by decide) rfl iX5_wornNumber_X5 (List.mem_of_getElem? (i := 1) rfl) (v := .ref tr) rfl dX5_wornNumber_66 ?_
    refine lv_bipush (v := 8) hx hb dX5_wornNumber_69 (by decide) ?_
    have w := w.to (show [oX xx an ak sv b tr hf, oS an w1n pan san z, aI cI san 4 12 z, oW w1n wan z, aI cI wan 6 19 z, oP pan ran z, aI cI ran 200 25 z, oW tr twa (upd u2 6 (nI k)), aI cI twa 6 19 u2] = [oX xx an ak sv b tr hf, oS an w1n pan san z, aI cI san 4 12 z, oW w1n wan z, aI cI wan 6 19 z, oP pan ran z, aI cI ran 200 25 z, oW tr twa (upd u2 6 (nI k)), aI cI twa 6 19 (upd u2 6 (nI k))] by rw [show aI cI twa 6 19 u2 = aI cI twa 6 19 (upd u2 6 (nI k)) from aI_c (fun k h1 h2 => (((upd_no (by omega)).trans rfl)).symm)])
    refine k_ci (wr := [oX xx an ak sv b tr hf, oS an w1n pan san z, aI cI san 4 12 z, oW w1n wan z, aI cI wan 6 19 z, oP pan ran z, aI cI ran 200 25 z]) (ws2 := [oX xx an ak sv b tr hf, oS an w1n pan san z, aI cI san 4 12 z, oW w1n wan z, aI cI wan 6 19 z, oP pan ran z, aI cI ran 200 25 z, oW tr twa (hoursF 8 (upd u2 6 (nI k)) k), aI cI twa 6 19 (hoursF 8 (upd u2 6 (nI k)) k)]) (k_runV X w (met_X4_run l D cI cJ cO tr twa (upd u2 6 (nI k)) k 8 rfl hk (by decide) H.size) gX5_wornNumber_X4_run rfl rfl rfl 1 hdX4_run ⟨Nat.le_of_ble_eq_true rfl, Nat.le_of_ble_eq_true rfl⟩ [7, 8] rfl rfl 7 4 rfl rfl rfl rfl hl.1 rfl (Nat.le_of_ble_eq_true rfl) dX5_wornNumber_71 ⟨Nat.le_of_ble_eq_true rfl, Nat.le_of_ble_eq_true rfl⟩) w hA [7, 8] [0, 1, 2, 3, 4, 5, 6] rfl rfl rfl (by decide) [0, 1, 2, 3, 4, 5, 6, 7, 8] rfl rfl (fun H locs w => ?_)
    obtain ⟨u3, e3⟩ : ∃ u, hoursF 8 (upd u2 6 (nI k)) k = u := ⟨_, rfl⟩
    rw [e3] at w
    rw [e3, show (upd u2 6 (nI k)) 9 = u2 9 from rfl]
    have h3 : u3 = wz3 z i j k := by rw [← e3, h2]; rfl
    refine lv_iadd hx hb dX5_wornNumber_74 ?_
    refine lv_istore (lv' := [(5, .int (((u1 9 - z 9) + (u2 9 - u1 9)) + (u3 9 - u2 9))), (0, .ref xx), (1, .int (nI i)), (2, .int (nI j)), (3, .int (nI k)), (4, .int (nI 1))]) hx hb dX5_wornNumber_75 hl (by decide) rfl (fun ls hl => ?_)
    refine lv_iload hx hb dX5_wornNumber_77 (lv_at hl 5 rfl) ?_
    refine lv_if_ne (tgt := 107) hx hb dX5_wornNumber_79 (by decide) (fun c2 => ?_) (fun c2 => absurd c2 (by decide))
    refine lv_iload hx hb dX5_wornNumber_107 (lv_at hl 0 rfl) ?_
    have ez : u3 = wz3 z i j k := by exact h3
    rw [ez] at w
    exact fin _ _ _ _ _ w (by rw [h1, h2, h3]; rfl) dX5_wornNumber_109
theorem hdX5_hoursUntilStop : yX5_hoursUntilStop.cls = RX5 ∧ yX5_hoursUntilStop.cls ≠ "java/lang/invoke/MethodHandle" ∧ yX5_hoursUntilStop.cls ≠ "java/lang/invoke/VarHandle" ∧ (parseMethodDescriptor yX5_hoursUntilStop.desc).map (fun d => d.parameters.length) = some 1 := ⟨rfl, by decide, by decide, by decide +kernel⟩
theorem iX5_hoursUntilStop_X3 : ∀ w ∈ wsX30, w ∈ wsX5_hoursUntilStop := fun _ h => List.mem_cons_of_mem _ (List.mem_append_left _ (List.mem_append_right _ h))
theorem iX5_hoursUntilStop_X4 : ∀ w ∈ wsX40, w ∈ wsX5_hoursUntilStop := fun _ h => List.mem_cons_of_mem _ (List.mem_append_right _ h)
theorem iX5_hoursUntilStop_X5 : ∀ w ∈ wsX50, w ∈ wsX5_hoursUntilStop := fun _ h => List.mem_cons_of_mem _ (List.mem_append_left _ (List.mem_append_left _ (List.mem_append_right _ h)))
set_option maxHeartbeats 4000000 in
set_option maxRecDepth 100000 in
theorem met_X5_hoursUntilStop (l : Launch) (D : va_G) (cI cJ cO : ClassId) (xx : Nat) (ak : Nat) (b : Nat) (tr : Nat) (hf : Int32) (sv : Nat) (an : Nat) (w1n : Nat) (wan : Nat) (pan : Nat) (ran : Nat) (san : Nat) (z : Nat → Int32) (twa : Nat) (zt : Nat → Int32) (k : Nat) (hk : k < 6) : CI l D (TY cI cJ cO) yX5_hoursUntilStop wsX5_hoursUntilStop ({ frames := 5, cells := 0, slots := 0, locals := 109 }) [.ref xx, .int (nI k)] [oX xx an ak sv b tr hf, oS an w1n pan san z, aI cI san 4 12 z, oW w1n wan z, aI cI wan 6 19 z, oP pan ran z, aI cI ran 200 25 z, oW tr twa zt, aI cI twa 6 19 zt] (untilN z k) [oX xx an ak sv b tr hf, oS an w1n pan san z, aI cI san 4 12 z, oW w1n wan z, aI cI wan 6 19 z, oP pan ran z, aI cI ran 200 25 z, oW tr twa (utr z k), aI cI twa 6 19 (utr z k)] := by
  refine CI.of (plainFor_of_name (by decide)) rfl (Nat.le_of_ble_eq_true rfl) (rfl) (fun p e s m below meth c A ls Q X hA w hl fin => ?_)
  obtain ⟨hx, hb, hml, hown, hts⟩ := id X.1
  have hl : lv_has ls 2 [(0, .ref xx), (1, .int (nI k))] := hl
  refine lv_aload_n hx hb dX5_hoursUntilStop_0 rfl (lv_at hl 0 rfl) ?_
  refine k_get X w 0 rfl rfl 4 (by decide) rfl iX5_hoursUntilStop_X5 (List.mem_of_getElem? (i := 1) rfl) (v := .ref tr) rfl dX5_hoursUntilStop_1 ?_
  refine lv_aload_n hx hb dX5_hoursUntilStop_4 rfl (lv_at hl 0 rfl) ?_
  refine k_get X w 0 rfl rfl 0 (by decide) rfl iX5_hoursUntilStop_X5 (List.mem_of_getElem? (i := 2) rfl) (v := .ref an) rfl dX5_hoursUntilStop_5 ?_
  refine k_get X w 1 rfl rfl 0 (by decide) rfl iX5_hoursUntilStop_X3 (List.mem_of_getElem? (i := 3) rfl) (v := .ref w1n) rfl dX5_hoursUntilStop_8 ?_
  refine k_cv (wr := [oX xx an ak sv b tr hf, oS an w1n pan san z, aI cI san 4 12 z, oP pan ran z, aI cI ran 200 25 z]) (ws2 := [oX xx an ak sv b tr hf, oS an w1n pan san z, aI cI san 4 12 z, oW w1n wan z, aI cI wan 6 19 z, oP pan ran z, aI cI ran 200 25 z, oW tr twa z, aI cI twa 6 19 z]) (k_runV X w (met_X4_copyFrom l D cI cJ cO tr twa zt w1n wan z  s.heap.size) gX5_hoursUntilStop_X4_copyFrom rfl rfl rfl 1 hdX4_copyFrom ⟨Nat.le_of_ble_eq_true rfl, Nat.le_of_ble_eq_true rfl⟩ [7, 8, 3, 4] rfl rfl 7 4 rfl rfl rfl rfl hl.1 rfl (Nat.le_of_ble_eq_true rfl) dX5_hoursUntilStop_11 ⟨Nat.le_of_ble_eq_true rfl, Nat.le_of_ble_eq_true rfl⟩) w hA [7, 8, 3, 4] [0, 1, 2, 5, 6] rfl rfl rfl (by decide) [0, 1, 2, 7, 8, 3, 4, 5, 6] rfl rfl (fun H locs w => ?_)
  refine lv_aload_n hx hb dX5_hoursUntilStop_14 rfl (lv_at hl 0 rfl) ?_
  refine k_get X w 0 rfl rfl 4 (by decide) rfl iX5_hoursUntilStop_X5 (List.mem_of_getElem? (i := 1) rfl) (v := .ref tr) rfl dX5_hoursUntilStop_15 ?_
  refine lv_iload_n hx hb dX5_hoursUntilStop_18 rfl (lv_at hl 1 rfl) ?_
  refine k_put X w 7 rfl rfl 6 (by decide) rfl iX5_hoursUntilStop_X4 (List.mem_of_getElem? (i := 4) rfl) tyX4_ok nmX4 rfl rfl (Nat.le_of_ble_eq_true rfl) (ws2 := [oX xx an ak sv b tr hf, oS an w1n pan san z, aI cI san 4 12 z, oW w1n wan z, aI cI wan 6 19 z, oP pan ran z, aI cI ran 200 25 z, oW tr twa (upd z 6 (nI k)), aI cI twa 6 19 z]) rfl dX5_hoursUntilStop_19 (fun H locs w => ?_)
  refine lv_aload_n hx hb dX5_hoursUntilStop_22 rfl (lv_at hl 0 rfl) ?_
  refine k_get X w 0 rfl rfl 4 (by decide) rfl iX5_hoursUntilStop_X5 (List.mem_of_getElem? (i := 1) rfl) (v := .ref tr) rfl dX5_hoursUntilStop_23 ?_
  refine lv_bipush (v := 48) hx hb dX5_hoursUntilStop_26 (by decide) ?_
  have w := w.to (show [oX xx an ak sv b tr hf, oS an w1n pan san z, aI cI san 4 12 z, oW w1n wan z, aI cI wan 6 19 z, oP pan ran z, aI cI ran 200 25 z, oW tr twa (upd z 6 (nI k)), aI cI twa 6 19 z] = [oX xx an ak sv b tr hf, oS an w1n pan san z, aI cI san 4 12 z, oW w1n wan z, aI cI wan 6 19 z, oP pan ran z, aI cI ran 200 25 z, oW tr twa (upd z 6 (nI k)), aI cI twa 6 19 (upd z 6 (nI k))] by rw [show aI cI twa 6 19 z = aI cI twa 6 19 (upd z 6 (nI k)) from aI_c (fun k h1 h2 => (((upd_no (by omega)).trans rfl)).symm)])
  refine k_ci (wr := [oX xx an ak sv b tr hf, oS an w1n pan san z, aI cI san 4 12 z, oW w1n wan z, aI cI wan 6 19 z, oP pan ran z, aI cI ran 200 25 z]) (ws2 := [oX xx an ak sv b tr hf, oS an w1n pan san z, aI cI san 4 12 z, oW w1n wan z, aI cI wan 6 19 z, oP pan ran z, aI cI ran 200 25 z, oW tr twa (hoursF 48 (upd z 6 (nI k)) k), aI cI twa 6 19 (hoursF 48 (upd z 6 (nI k)) k)]) (k_runV X w (met_X4_run l D cI cJ cO tr twa (upd z 6 (nI k)) k 48 rfl hk (by decide) H.size) gX5_hoursUntilStop_X4_run rfl rfl rfl 1 hdX4_run ⟨Nat.le_of_ble_eq_true rfl, Nat.le_of_ble_eq_true rfl⟩ [7, 8] rfl rfl 7 4 rfl rfl rfl rfl hl.1 rfl (Nat.le_of_ble_eq_true rfl) dX5_hoursUntilStop_28 ⟨Nat.le_of_ble_eq_true rfl, Nat.le_of_ble_eq_true rfl⟩) w hA [7, 8] [0, 1, 2, 3, 4, 5, 6] rfl rfl rfl (by decide) [0, 1, 2, 3, 4, 5, 6, 7, 8] rfl rfl (fun H locs w => ?_)
  have ez : hoursF 48 (upd z 6 (nI k)) k = utr z k := by rfl
  rw [ez] at w
  exact fin _ _ _ _ _ w (by rfl) dX5_hoursUntilStop_31
theorem hdX5_bestRegulator : yX5_bestRegulator.cls = RX5 ∧ yX5_bestRegulator.cls ≠ "java/lang/invoke/MethodHandle" ∧ yX5_bestRegulator.cls ≠ "java/lang/invoke/VarHandle" ∧ (parseMethodDescriptor yX5_bestRegulator.desc).map (fun d => d.parameters.length) = some 0 := ⟨rfl, by decide, by decide, by decide +kernel⟩
theorem iX5_bestRegulator_X3 : ∀ w ∈ wsX30, w ∈ wsX5_bestRegulator := fun _ h => List.mem_cons_of_mem _ (List.mem_append_left _ (List.mem_append_right _ h))
theorem iX5_bestRegulator_X4 : ∀ w ∈ wsX40, w ∈ wsX5_bestRegulator := fun _ h => List.mem_cons_of_mem _ (List.mem_append_right _ h)
theorem iX5_bestRegulator_X5 : ∀ w ∈ wsX50, w ∈ wsX5_bestRegulator := fun _ h => List.mem_cons_of_mem _ (List.mem_append_left _ (List.mem_append_left _ (List.mem_append_right _ h)))
set_option maxHeartbeats 4000000 in
set_option maxRecDepth 100000 in
theorem met_X5_bestRegulator (l : Launch) (D : va_G) (cI cJ cO : ClassId) (xx : Nat) (ak : Nat) (b : Nat) (tr : Nat) (hf : Int32) (sv : Nat) (an : Nat) (w1n : Nat) (wan : Nat) (pan : Nat) (ran : Nat) (san : Nat) (z : Nat → Int32)  : CI l D (TY cI cJ cO) yX5_bestRegulator wsX5_bestRegulator ({ frames := 3, cells := 0, slots := 0, locals := 66 }) [.ref xx] [oX xx an ak sv b tr hf, oS an w1n pan san z, aI cI san 4 12 z, oW w1n wan z, aI cI wan 6 19 z, oP pan ran z, aI cI ran 200 25 z] (bestN z) [oX xx an ak sv b tr hf, oS an w1n pan san z, aI cI san 4 12 z, oW w1n wan z, aI cI wan 6 19 z, oP pan ran z, aI cI ran 200 25 z] := by
  refine CI.of (plainFor_of_name (by decide)) rfl (Nat.le_of_ble_eq_true rfl) (rfl) (fun p e s m below meth c A ls Q X hA w hl fin => ?_)
  obtain ⟨hx, hb, hml, hown, hts⟩ := id X.1
  have hl : lv_has ls 4 [(0, .ref xx)] := hl
  refine lv_iconst (v := 0) hx hb dX5_bestRegulator_0 (by decide) ?_
  refine lv_istore_n (lv' := [(1, .int 0), (0, .ref xx)]) hx hb dX5_bestRegulator_1 rfl hl (by decide) rfl (fun ls hl => ?_)
  refine lv_iconst (v := 0) hx hb dX5_bestRegulator_2 (by decide) ?_
  refine lv_istore_n (lv' := [(2, .int 0), (1, .int 0), (0, .ref xx)]) hx hb dX5_bestRegulator_3 rfl hl (by decide) rfl (fun ls hl => ?_)
  have lp4 : ∀ (n : Nat) (pp : Nat) (oo : Int32), pp + n = 6 → oo = oth z pp → ∀ (H : Heap) (locs : List Loc) (ls : Array Slot), wd D A s.heap H locs ([oX xx an ak sv b tr hf, oS an w1n pan san z, aI cI san 4 12 z, oW w1n wan z, aI cI wan 6 19 z, oP pan ran z, aI cI ran 200 25 z]) → lv_has ls 4 [(2, .int (nI pp)), (1, .int oo), (0, .ref xx)] → W p l e ({ frames := 3, cells := 0, slots := 0, locals := 66 }) s m [.ref xx].toArray below meth c H locs 0 0 Q (F0 m 4 ls []) := by
    intro n
    induction n with
    | zero =>
      intro pp oo hi ho H locs ls w hl
      refine lv_iload_n hx hb dX5_bestRegulator_4 rfl (lv_at hl 0 rfl) ?_
      refine lv_bipush (v := 6) hx hb dX5_bestRegulator_5 (by decide) ?_
      refine lv_icmp_ge (tgt := 41) hx hb dX5_bestRegulator_7 (by decide) (fun c1 => ?_) (fun c1 => absurd (nI_le (a := 6) (b := pp) (by omega) (by omega)) c1)
      refine lv_bipush (v := (-99)) hx hb dX5_bestRegulator_41 (by decide) ?_
      refine lv_istore_n (lv' := [(2, .int (-99)), (1, .int oo), (0, .ref xx)]) hx hb dX5_bestRegulator_43 rfl hl (by decide) rfl (fun ls hl => ?_)
      refine lv_bipush (v := (-99)) hx hb dX5_bestRegulator_44 (by decide) ?_
      refine lv_istore_n (lv' := [(3, .int (-99)), (2, .int (-99)), (1, .int oo), (0, .ref xx)]) hx hb dX5_bestRegulator_46 rfl hl (by decide) rfl (fun ls hl => ?_)
      have lp47 : ∀ (n2 : Nat) (i : Nat) (bb : Int32), i + n2 = 199 → brl oo n2 i bb + 100 = bestN z → ∀ (H : Heap) (locs : List Loc) (ls : Array Slot), wd D A s.heap H locs ([oX xx an ak sv b tr hf, oS an w1n pan san z, aI cI san 4 12 z, oW w1n wan z, aI cI wan 6 19 z, oP pan ran z, aI cI ran 200 25 z]) → lv_has ls 4 [(3, .int (nI i - 99)), (2, .int bb), (1, .int oo), (0, .ref xx)] → W p l e ({ frames := 3, cells := 0, slots := 0, locals := 66 }) s m [.ref xx].toArray below meth c H locs 0 0 Q (F0 m 47 ls []) := by
        intro n2
        induction n2 with
        | zero =>
          intro i bb hi2 he H locs ls w hl
          refine lv_iload_n hx hb dX5_bestRegulator_47 rfl (lv_at hl 0 rfl) ?_
          refine lv_bipush (v := 99) hx hb dX5_bestRegulator_48 (by decide) ?_
          refine lv_icmp_gt (tgt := 82) hx hb dX5_bestRegulator_50 (by decide) (fun c2 => ?_) (fun c2 => absurd (show 99 < nI i - 99 by rw [show i = 199 by omega]; exact gt99y) c2)
          refine lv_iload_n hx hb dX5_bestRegulator_82 rfl (lv_at hl 1 rfl) ?_
          refine lv_bipush (v := 100) hx hb dX5_bestRegulator_83 (by decide) ?_
          refine lv_iadd hx hb dX5_bestRegulator_85 ?_
          exact fin _ _ _ _ _ w (by exact he) dX5_bestRegulator_86
        | succ n2 ih2 =>
          intro i bb hi2 he H locs ls w hl
          refine lv_iload_n hx hb dX5_bestRegulator_47 rfl (lv_at hl 0 rfl) ?_
          refine lv_bipush (v := 99) hx hb dX5_bestRegulator_48 (by decide) ?_
          refine lv_icmp_gt (tgt := 82) hx hb dX5_bestRegulator_50 (by decide) (fun c3 => absurd c3 (gt99 (by omega))) (fun c3 => ?_)
          refine lv_iload_n hx hb dX5_bestRegulator_53 rfl (lv_at hl 2 rfl) ?_
          refine lv_bipush (v := 6) hx hb dX5_bestRegulator_54 (by decide) ?_
          refine lv_iload_n hx hb dX5_bestRegulator_56 rfl (lv_at hl 0 rfl) ?_
          refine lv_imul hx hb dX5_bestRegulator_57 ?_
          refine lv_iadd hx hb dX5_bestRegulator_58 ?_
          refine k_abs X hl.1 (List.mem_of_getElem? (i := 4) rfl) (List.mem_of_getElem? (i := 5) rfl) (List.mem_of_getElem? (i := 6) rfl) (List.mem_of_getElem? (i := 7) rfl) (Nat.le_of_ble_eq_true rfl) (Nat.le_of_ble_eq_true rfl) (Nat.le_of_ble_eq_true rfl) (Nat.le_of_ble_eq_true rfl) dX5_bestRegulator_59 ?_
          refine lv_iload_n hx hb dX5_bestRegulator_62 rfl (lv_at hl 2 rfl) ?_
          refine lv_bipush (v := 6) hx hb dX5_bestRegulator_63 (by decide) ?_
          refine lv_iload_n hx hb dX5_bestRegulator_65 rfl (lv_at hl 1 rfl) ?_
          refine lv_imul hx hb dX5_bestRegulator_66 ?_
          refine lv_iadd hx hb dX5_bestRegulator_67 ?_
          refine k_abs X hl.1 (List.mem_of_getElem? (i := 4) rfl) (List.mem_of_getElem? (i := 5) rfl) (List.mem_of_getElem? (i := 6) rfl) (List.mem_of_getElem? (i := 7) rfl) (Nat.le_of_ble_eq_true rfl) (Nat.le_of_ble_eq_true rfl) (Nat.le_of_ble_eq_true rfl) (Nat.le_of_ble_eq_true rfl) dX5_bestRegulator_68 ?_
          refine lv_icmp_ge (tgt := 76) hx hb dX5_bestRegulator_71 (by decide) (fun c4 => ?_) (fun c4 => ?_)
          · simp only [abs_am] at c4
            refine lv_iinc (v := nI (i + 1) - 99) (lv' := [(3, .int (nI (i + 1) - 99)), (2, .int bb), (1, .int oo), (0, .ref xx)]) hx hb dX5_bestRegulator_76 hl (k := 0) rfl (i99 _) (by decide) rfl (fun ls hl => ?_)
            refine lv_goto (tgt := 47) hx hb dX5_bestRegulator_79 (by decide) ?_
            exact ih2 (i + 1) bb (by omega) ((congrArg (fun t => t + 100) (brl_k c4)).symm.trans he) _ _ _ w (lv_sub hl [0, 1, 2, 3] rfl)
          · simp only [abs_am] at c4
            refine lv_iload_n hx hb dX5_bestRegulator_74 rfl (lv_at hl 0 rfl) ?_
            refine lv_istore_n (lv' := [(2, .int (nI i - 99)), (3, .int (nI i - 99)), (1, .int oo), (0, .ref xx)]) hx hb dX5_bestRegulator_75 rfl hl (by decide) rfl (fun ls hl => ?_)
            refine lv_iinc (v := nI (i + 1) - 99) (lv' := [(3, .int (nI (i + 1) - 99)), (2, .int (nI i - 99)), (1, .int oo), (0, .ref xx)]) hx hb dX5_bestRegulator_76 hl (k := 1) rfl (i99 _) (by decide) rfl (fun ls hl => ?_)
            refine lv_goto (tgt := 47) hx hb dX5_bestRegulator_79 (by decide) ?_
            exact ih2 (i + 1) (nI i - 99) (by omega) ((congrArg (fun t => t + 100) (brl_s c4)).symm.trans he) _ _ _ w (lv_sub hl [0, 1, 2, 3] rfl)
      exact lp47 199 0 (-99) (Nat.zero_add _) (by rw [ho, show pp = 6 by omega]; rfl) _ _ _ w (lv_sub hl [0, 1, 2, 3] rfl)
    | succ n ih =>
      intro pp oo hi ho H locs ls w hl
      refine lv_iload_n hx hb dX5_bestRegulator_4 rfl (lv_at hl 0 rfl) ?_
      refine lv_bipush (v := 6) hx hb dX5_bestRegulator_5 (by decide) ?_
      refine lv_icmp_ge (tgt := 41) hx hb dX5_bestRegulator_7 (by decide) (fun c2 => absurd c2 (nI_ge (a := pp) (b := 6) (by omega) (by decide))) (fun c2 => ?_)
      refine lv_iload_n hx hb dX5_bestRegulator_10 rfl (lv_at hl 1 rfl) ?_
      refine lv_aload_n hx hb dX5_bestRegulator_11 rfl (lv_at hl 2 rfl) ?_
      refine k_get X w 0 rfl rfl 0 (by decide) rfl iX5_bestRegulator_X5 (List.mem_of_getElem? (i := 1) rfl) (v := .ref an) rfl dX5_bestRegulator_12 ?_
      refine k_get X w 1 rfl rfl 0 (by decide) rfl iX5_bestRegulator_X3 (List.mem_of_getElem? (i := 2) rfl) (v := .ref w1n) rfl dX5_bestRegulator_15 ?_
      refine lv_iload_n hx hb dX5_bestRegulator_18 rfl (lv_at hl 0 rfl) ?_
      refine k_ciR (k_runV X w (met_X4_rateIn l D cI cJ cO w1n wan z pp (by omega) H.size) gX5_bestRegulator_X4_rateIn rfl rfl rfl 1 hdX4_rateIn ⟨Nat.le_of_ble_eq_true rfl, Nat.le_of_ble_eq_true rfl⟩ [3, 4] rfl rfl 3 4 rfl rfl rfl rfl hl.1 rfl (Nat.le_of_ble_eq_true rfl) dX5_bestRegulator_19 ⟨Nat.le_of_ble_eq_true rfl, Nat.le_of_ble_eq_true rfl⟩) w hA [3, 4] rfl (fun H locs w => ?_)
      refine lv_aload_n hx hb dX5_bestRegulator_22 rfl (lv_at hl 2 rfl) ?_
      refine k_get X w 0 rfl rfl 0 (by decide) rfl iX5_bestRegulator_X5 (List.mem_of_getElem? (i := 1) rfl) (v := .ref an) rfl dX5_bestRegulator_23 ?_
      refine k_get X w 1 rfl rfl 0 (by decide) rfl iX5_bestRegulator_X3 (List.mem_of_getElem? (i := 2) rfl) (v := .ref w1n) rfl dX5_bestRegulator_26 ?_
      refine k_get X w 3 rfl rfl 1 (by decide) rfl iX5_bestRegulator_X4 (List.mem_of_getElem? (i := 3) rfl) (v := .int (z 2)) rfl dX5_bestRegulator_29 ?_
      refine lv_isub hx hb dX5_bestRegulator_32 ?_
      refine lv_iadd hx hb dX5_bestRegulator_33 ?_
      refine lv_istore_n (lv' := [(1, .int (oo + ((rate z pp) - (z 2)))), (2, .int (nI pp)), (0, .ref xx)]) hx hb dX5_bestRegulator_34 rfl hl (by decide) rfl (fun ls hl => ?_)
      refine lv_iinc (v := nI (pp + 1)) (lv' := [(2, .int (nI (pp + 1))), (1, .int (oo + ((rate z pp) - (z 2)))), (0, .ref xx)]) hx hb dX5_bestRegulator_35 hl (k := 1) rfl (nI_1 _) (by decide) rfl (fun ls hl => ?_)
      refine lv_goto (tgt := 4) hx hb dX5_bestRegulator_38 (by decide) ?_
      exact ih (pp + 1) (oo + ((rate z pp) - (z 2))) (by omega) (by rw [ho]; rfl) _ _ _ w (lv_sub hl [0, 1, 2] rfl)
  exact lp4 6 0 0 (Nat.zero_add _) rfl _ _ _ w (lv_sub hl [0, 1, 2] rfl)
theorem hdX5_nightPose : yX5_nightPose.cls = RX5 ∧ yX5_nightPose.cls ≠ "java/lang/invoke/MethodHandle" ∧ yX5_nightPose.cls ≠ "java/lang/invoke/VarHandle" ∧ (parseMethodDescriptor yX5_nightPose.desc).map (fun d => d.parameters.length) = some 0 := ⟨rfl, by decide, by decide, by decide +kernel⟩
theorem iX5_nightPose_X3 : ∀ w ∈ wsX30, w ∈ wsX5_nightPose := fun _ h => List.mem_cons_of_mem _ (List.mem_append_left _ (List.mem_append_right _ h))
theorem iX5_nightPose_X4 : ∀ w ∈ wsX40, w ∈ wsX5_nightPose := fun _ h => List.mem_cons_of_mem _ (List.mem_append_right _ h)
theorem iX5_nightPose_X5 : ∀ w ∈ wsX50, w ∈ wsX5_nightPose := fun _ h => List.mem_cons_of_mem _ (List.mem_append_left _ (List.mem_append_left _ (List.mem_append_right _ h)))
set_option maxHeartbeats 4000000 in
set_option maxRecDepth 100000 in
theorem met_X5_nightPose (l : Launch) (D : va_G) (cI cJ cO : ClassId) (xx : Nat) (ak : Nat) (b : Nat) (tr : Nat) (hf : Int32) (sv : Nat) (an : Nat) (w1n : Nat) (wan : Nat) (pan : Nat) (ran : Nat) (san : Nat) (z : Nat → Int32) (twa : Nat) (zt : Nat → Int32)  : CI l D (TY cI cJ cO) yX5_nightPose wsX5_nightPose ({ frames := 5, cells := 0, slots := 0, locals := 109 }) [.ref xx] [oX xx an ak sv b tr hf, oS an w1n pan san z, aI cI san 4 12 z, oW w1n wan z, aI cI wan 6 19 z, oP pan ran z, aI cI ran 200 25 z, oW tr twa zt, aI cI twa 6 19 zt] (nightN z) [oX xx an ak sv b tr hf, oS an w1n pan san z, aI cI san 4 12 z, oW w1n wan z, aI cI wan 6 19 z, oP pan ran z, aI cI ran 200 25 z, oW tr twa (ntr z zt 6), aI cI twa 6 19 (ntr z zt 6)] := by
  refine CI.of (plainFor_of_name (by decide)) rfl (Nat.le_of_ble_eq_true rfl) (rfl) (fun p e s m below meth c A ls Q X hA w hl fin => ?_)
  obtain ⟨hx, hb, hml, hown, hts⟩ := id X.1
  have hl : lv_has ls 4 [(0, .ref xx)] := hl
  refine lv_iconst (v := 0) hx hb dX5_nightPose_0 (by decide) ?_
  refine lv_istore_n (lv' := [(1, .int 0), (0, .ref xx)]) hx hb dX5_nightPose_1 rfl hl (by decide) rfl (fun ls hl => ?_)
  refine lv_ldc (v := 2000000000) hx hb hown (hts _ (List.mem_of_getElem? (i := 1) rfl)) dX5_nightPose_2 ?_
  refine lv_istore_n (lv' := [(2, .int 2000000000), (1, .int 0), (0, .ref xx)]) hx hb dX5_nightPose_4 rfl hl (by decide) rfl (fun ls hl => ?_)
  refine lv_iconst (v := 0) hx hb dX5_nightPose_5 (by decide) ?_
  refine lv_istore_n (lv' := [(3, .int 0), (2, .int 2000000000), (1, .int 0), (0, .ref xx)]) hx hb dX5_nightPose_6 rfl hl (by decide) rfl (fun ls hl => ?_)
  have lp7 : ∀ (n : Nat) (pp : Nat) (bb : Int32) (ll : Int32), pp + n = 6 → ngl z n pp bb ll = nightN z → ∀ (H : Heap) (locs : List Loc) (ls : Array Slot), wd D A s.heap H locs ([oX xx an ak sv b tr hf, oS an w1n pan san z, aI cI san 4 12 z, oW w1n wan z, aI cI wan 6 19 z, oP pan ran z, aI cI ran 200 25 z, oW tr twa (ntr z zt pp), aI cI twa 6 19 (ntr z zt pp)]) → lv_has ls 4 [(3, .int (nI pp)), (1, .int bb), (2, .int ll), (0, .ref xx)] → W p l e ({ frames := 5, cells := 0, slots := 0, locals := 109 }) s m [.ref xx].toArray below meth c H locs 0 0 Q (F0 m 7 ls []) := by
    intro n
    induction n with
    | zero =>
      intro pp bb ll hi he H locs ls w hl
      refine lv_iload_n hx hb dX5_nightPose_7 rfl (lv_at hl 0 rfl) ?_
      refine lv_bipush (v := 6) hx hb dX5_nightPose_8 (by decide) ?_
      refine lv_icmp_ge (tgt := 78) hx hb dX5_nightPose_10 (by decide) (fun c1 => ?_) (fun c1 => absurd (nI_le (a := 6) (b := pp) (by omega) (by omega)) c1)
      refine lv_iload_n hx hb dX5_nightPose_78 rfl (lv_at hl 1 rfl) ?_
      have ez : ntr z zt pp = ntr z zt 6 := by rw [show pp = 6 by omega]
      rw [ez] at w
      exact fin _ _ _ _ _ w (by exact he) dX5_nightPose_79
    | succ n ih =>
      intro pp bb ll hi he H locs ls w hl
      refine lv_iload_n hx hb dX5_nightPose_7 rfl (lv_at hl 0 rfl) ?_
      refine lv_bipush (v := 6) hx hb dX5_nightPose_8 (by decide) ?_
      refine lv_icmp_ge (tgt := 78) hx hb dX5_nightPose_10 (by decide) (fun c2 => absurd c2 (nI_ge (a := pp) (b := 6) (by omega) (by decide))) (fun c2 => ?_)
      refine lv_aload_n hx hb dX5_nightPose_13 rfl (lv_at hl 3 rfl) ?_
      refine k_get X w 0 rfl rfl 4 (by decide) rfl iX5_nightPose_X5 (List.mem_of_getElem? (i := 2) rfl) (v := .ref tr) rfl dX5_nightPose_14 ?_
      refine lv_aload_n hx hb dX5_nightPose_17 rfl (lv_at hl 3 rfl) ?_
      refine k_get X w 0 rfl rfl 0 (by decide) rfl iX5_nightPose_X5 (List.mem_of_getElem? (i := 3) rfl) (v := .ref an) rfl dX5_nightPose_18 ?_
      refine k_get X w 1 rfl rfl 0 (by decide) rfl iX5_nightPose_X3 (List.mem_of_getElem? (i := 4) rfl) (v := .ref w1n) rfl dX5_nightPose_21 ?_
      refine k_cv (wr := [oX xx an ak sv b tr hf, oS an w1n pan san z, aI cI san 4 12 z, oP pan ran z, aI cI ran 200 25 z]) (ws2 := [oX xx an ak sv b tr hf, oS an w1n pan san z, aI cI san 4 12 z, oW w1n wan z, aI cI wan 6 19 z, oP pan ran z, aI cI ran 200 25 z, oW tr twa z, aI cI twa 6 19 z]) (k_runV X w (met_X4_copyFrom l D cI cJ cO tr twa (ntr z zt pp) w1n wan z  H.size) gX5_nightPose_X4_copyFrom rfl rfl rfl 1 hdX4_copyFrom ⟨Nat.le_of_ble_eq_true rfl, Nat.le_of_ble_eq_true rfl⟩ [7, 8, 3, 4] rfl rfl 7 4 rfl rfl rfl rfl hl.1 rfl (Nat.le_of_ble_eq_true rfl) dX5_nightPose_24 ⟨Nat.le_of_ble_eq_true rfl, Nat.le_of_ble_eq_true rfl⟩) w hA [7, 8, 3, 4] [0, 1, 2, 5, 6] rfl rfl rfl (by decide) [0, 1, 2, 7, 8, 3, 4, 5, 6] rfl rfl (fun H locs w => ?_)
      refine lv_aload_n hx hb dX5_nightPose_27 rfl (lv_at hl 3 rfl) ?_
      refine k_get X w 0 rfl rfl 4 (by decide) rfl iX5_nightPose_X5 (List.mem_of_getElem? (i := 2) rfl) (v := .ref tr) rfl dX5_nightPose_28 ?_
      refine lv_iload_n hx hb dX5_nightPose_31 rfl (lv_at hl 0 rfl) ?_
      refine k_put X w 7 rfl rfl 6 (by decide) rfl iX5_nightPose_X4 (List.mem_of_getElem? (i := 5) rfl) tyX4_ok nmX4 rfl rfl (Nat.le_of_ble_eq_true rfl) (ws2 := [oX xx an ak sv b tr hf, oS an w1n pan san z, aI cI san 4 12 z, oW w1n wan z, aI cI wan 6 19 z, oP pan ran z, aI cI ran 200 25 z, oW tr twa (upd z 6 (nI pp)), aI cI twa 6 19 z]) rfl dX5_nightPose_32 (fun H locs w => ?_)
      refine lv_aload_n hx hb dX5_nightPose_35 rfl (lv_at hl 3 rfl) ?_
      refine k_get X w 0 rfl rfl 4 (by decide) rfl iX5_nightPose_X5 (List.mem_of_getElem? (i := 2) rfl) (v := .ref tr) rfl dX5_nightPose_36 ?_
      refine lv_bipush (v := 8) hx hb dX5_nightPose_39 (by decide) ?_
      have w := w.to (show [oX xx an ak sv b tr hf, oS an w1n pan san z, aI cI san 4 12 z, oW w1n wan z, aI cI wan 6 19 z, oP pan ran z, aI cI ran 200 25 z, oW tr twa (upd z 6 (nI pp)), aI cI twa 6 19 z] = [oX xx an ak sv b tr hf, oS an w1n pan san z, aI cI san 4 12 z, oW w1n wan z, aI cI wan 6 19 z, oP pan ran z, aI cI ran 200 25 z, oW tr twa (upd z 6 (nI pp)), aI cI twa 6 19 (upd z 6 (nI pp))] by rw [show aI cI twa 6 19 z = aI cI twa 6 19 (upd z 6 (nI pp)) from aI_c (fun k h1 h2 => (((upd_no (by omega)).trans rfl)).symm)])
      refine k_ci (wr := [oX xx an ak sv b tr hf, oS an w1n pan san z, aI cI san 4 12 z, oW w1n wan z, aI cI wan 6 19 z, oP pan ran z, aI cI ran 200 25 z]) (ws2 := [oX xx an ak sv b tr hf, oS an w1n pan san z, aI cI san 4 12 z, oW w1n wan z, aI cI wan 6 19 z, oP pan ran z, aI cI ran 200 25 z, oW tr twa (hoursF 8 (upd z 6 (nI pp)) pp), aI cI twa 6 19 (hoursF 8 (upd z 6 (nI pp)) pp)]) (k_runV X w (met_X4_run l D cI cJ cO tr twa (upd z 6 (nI pp)) pp 8 rfl (by omega) (by decide) H.size) gX5_nightPose_X4_run rfl rfl rfl 1 hdX4_run ⟨Nat.le_of_ble_eq_true rfl, Nat.le_of_ble_eq_true rfl⟩ [7, 8] rfl rfl 7 4 rfl rfl rfl rfl hl.1 rfl (Nat.le_of_ble_eq_true rfl) dX5_nightPose_41 ⟨Nat.le_of_ble_eq_true rfl, Nat.le_of_ble_eq_true rfl⟩) w hA [7, 8] [0, 1, 2, 3, 4, 5, 6] rfl rfl rfl (by decide) [0, 1, 2, 3, 4, 5, 6, 7, 8] rfl rfl (fun H locs w => ?_)
      refine lv_pop hx hb dX5_nightPose_44 rfl ?_
      refine lv_aload_n hx hb dX5_nightPose_45 rfl (lv_at hl 3 rfl) ?_
      refine k_get X w 0 rfl rfl 4 (by decide) rfl iX5_nightPose_X5 (List.mem_of_getElem? (i := 2) rfl) (v := .ref tr) rfl dX5_nightPose_46 ?_
      refine k_get X w 7 rfl rfl 8 (by decide) rfl iX5_nightPose_X4 (List.mem_of_getElem? (i := 6) rfl) (v := .int ((hoursF 8 (upd z 6 (nI pp)) pp) 7)) rfl dX5_nightPose_49 ?_
      refine k_abs X hl.1 (List.mem_of_getElem? (i := 7) rfl) (List.mem_of_getElem? (i := 8) rfl) (List.mem_of_getElem? (i := 9) rfl) (List.mem_of_getElem? (i := 10) rfl) (Nat.le_of_ble_eq_true rfl) (Nat.le_of_ble_eq_true rfl) (Nat.le_of_ble_eq_true rfl) (Nat.le_of_ble_eq_true rfl) dX5_nightPose_52 ?_
      refine lv_iload_n hx hb dX5_nightPose_55 rfl (lv_at hl 2 rfl) ?_
      refine lv_icmp_ge (tgt := 72) hx hb dX5_nightPose_56 (by decide) (fun c3 => ?_) (fun c3 => ?_)
      · rw [abs_am] at c3
        refine lv_iinc (v := nI (pp + 1)) (lv' := [(3, .int (nI (pp + 1))), (1, .int bb), (2, .int ll), (0, .ref xx)]) hx hb dX5_nightPose_72 hl (k := 0) rfl (nI_1 _) (by decide) rfl (fun ls hl => ?_)
        refine lv_goto (tgt := 7) hx hb dX5_nightPose_75 (by decide) ?_
        have w := w.to (show [oX xx an ak sv b tr hf, oS an w1n pan san z, aI cI san 4 12 z, oW w1n wan z, aI cI wan 6 19 z, oP pan ran z, aI cI ran 200 25 z, oW tr twa (hoursF 8 (upd z 6 (nI pp)) pp), aI cI twa 6 19 (hoursF 8 (upd z 6 (nI pp)) pp)] = [oX xx an ak sv b tr hf, oS an w1n pan san z, aI cI san 4 12 z, oW w1n wan z, aI cI wan 6 19 z, oP pan ran z, aI cI ran 200 25 z, oW tr twa (ntr z zt (pp + 1)), aI cI twa 6 19 (ntr z zt (pp + 1))] by rw [show oW tr twa (hoursF 8 (upd z 6 (nI pp)) pp) = oW tr twa (ntr z zt (pp + 1)) from rfl, show aI cI twa 6 19 (hoursF 8 (upd z 6 (nI pp)) pp) = aI cI twa 6 19 (ntr z zt (pp + 1)) from rfl])
        exact ih (pp + 1) bb ll (by omega) ((ngl_k c3).symm.trans he) _ _ _ w (lv_sub hl [0, 1, 2, 3] rfl)
      · rw [abs_am] at c3
        refine lv_aload_n hx hb dX5_nightPose_59 rfl (lv_at hl 3 rfl) ?_
        refine k_get X w 0 rfl rfl 4 (by decide) rfl iX5_nightPose_X5 (List.mem_of_getElem? (i := 2) rfl) (v := .ref tr) rfl dX5_nightPose_60 ?_
        refine k_get X w 7 rfl rfl 8 (by decide) rfl iX5_nightPose_X4 (List.mem_of_getElem? (i := 6) rfl) (v := .int ((hoursF 8 (upd z 6 (nI pp)) pp) 7)) rfl dX5_nightPose_63 ?_
        refine k_abs X hl.1 (List.mem_of_getElem? (i := 7) rfl) (List.mem_of_getElem? (i := 8) rfl) (List.mem_of_getElem? (i := 9) rfl) (List.mem_of_getElem? (i := 10) rfl) (Nat.le_of_ble_eq_true rfl) (Nat.le_of_ble_eq_true rfl) (Nat.le_of_ble_eq_true rfl) (Nat.le_of_ble_eq_true rfl) dX5_nightPose_66 ?_
        refine lv_istore_n (lv' := [(2, .int (if 0 ≤ ((hoursF 8 (upd z 6 (nI pp)) pp) 7) then (hoursF 8 (upd z 6 (nI pp)) pp) 7 else 0 - ((hoursF 8 (upd z 6 (nI pp)) pp) 7))), (3, .int (nI pp)), (1, .int bb), (0, .ref xx)]) hx hb dX5_nightPose_69 rfl hl (by decide) rfl (fun ls hl => ?_)
        rw [abs_am] at hl
        refine lv_iload_n hx hb dX5_nightPose_70 rfl (lv_at hl 1 rfl) ?_
        refine lv_istore_n (lv' := [(1, .int (nI pp)), (2, .int (am ((wz1 z pp) 7))), (3, .int (nI pp)), (0, .ref xx)]) hx hb dX5_nightPose_71 rfl hl (by decide) rfl (fun ls hl => ?_)
        refine lv_iinc (v := nI (pp + 1)) (lv' := [(3, .int (nI (pp + 1))), (1, .int (nI pp)), (2, .int (am ((wz1 z pp) 7))), (0, .ref xx)]) hx hb dX5_nightPose_72 hl (k := 2) rfl (nI_1 _) (by decide) rfl (fun ls hl => ?_)
        refine lv_goto (tgt := 7) hx hb dX5_nightPose_75 (by decide) ?_
        have w := w.to (show [oX xx an ak sv b tr hf, oS an w1n pan san z, aI cI san 4 12 z, oW w1n wan z, aI cI wan 6 19 z, oP pan ran z, aI cI ran 200 25 z, oW tr twa (hoursF 8 (upd z 6 (nI pp)) pp), aI cI twa 6 19 (hoursF 8 (upd z 6 (nI pp)) pp)] = [oX xx an ak sv b tr hf, oS an w1n pan san z, aI cI san 4 12 z, oW w1n wan z, aI cI wan 6 19 z, oP pan ran z, aI cI ran 200 25 z, oW tr twa (ntr z zt (pp + 1)), aI cI twa 6 19 (ntr z zt (pp + 1))] by rw [show oW tr twa (hoursF 8 (upd z 6 (nI pp)) pp) = oW tr twa (ntr z zt (pp + 1)) from rfl, show aI cI twa 6 19 (hoursF 8 (upd z 6 (nI pp)) pp) = aI cI twa 6 19 (ntr z zt (pp + 1)) from rfl])
        exact ih (pp + 1) (nI pp) (am ((wz1 z pp) 7)) (by omega) ((ngl_s c3).symm.trans he) _ _ _ w (lv_sub hl [0, 1, 2, 3] rfl)
  have w := w.to (show [oX xx an ak sv b tr hf, oS an w1n pan san z, aI cI san 4 12 z, oW w1n wan z, aI cI wan 6 19 z, oP pan ran z, aI cI ran 200 25 z, oW tr twa zt, aI cI twa 6 19 zt] = [oX xx an ak sv b tr hf, oS an w1n pan san z, aI cI san 4 12 z, oW w1n wan z, aI cI wan 6 19 z, oP pan ran z, aI cI ran 200 25 z, oW tr twa (ntr z zt 0), aI cI twa 6 19 (ntr z zt 0)] by rw [show oW tr twa zt = oW tr twa (ntr z zt 0) from rfl, show aI cI twa 6 19 zt = aI cI twa 6 19 (ntr z zt 0) from rfl])
  exact lp7 6 0 0 2000000000 (Nat.zero_add _) rfl _ _ _ w (lv_sub hl [0, 2, 1, 3] rfl)
theorem hdX5_going : yX5_going.cls = RX5 ∧ yX5_going.cls ≠ "java/lang/invoke/MethodHandle" ∧ yX5_going.cls ≠ "java/lang/invoke/VarHandle" ∧ (parseMethodDescriptor yX5_going.desc).map (fun d => d.parameters.length) = some 0 := ⟨rfl, by decide, by decide, by decide +kernel⟩
theorem iX5_going_X3 : ∀ w ∈ wsX30, w ∈ wsX5_going := fun _ h => List.mem_cons_of_mem _ (List.mem_append_left _ (List.mem_append_right _ h))
theorem iX5_going_X4 : ∀ w ∈ wsX40, w ∈ wsX5_going := fun _ h => List.mem_cons_of_mem _ (List.mem_append_right _ h)
theorem iX5_going_X5 : ∀ w ∈ wsX50, w ∈ wsX5_going := fun _ h => List.mem_cons_of_mem _ (List.mem_append_left _ (List.mem_append_left _ (List.mem_append_right _ h)))
set_option maxHeartbeats 4000000 in
set_option maxRecDepth 100000 in
theorem met_X5_going (l : Launch) (D : va_G) (cI cJ cO : ClassId) (xx : Nat) (ak : Nat) (b : Nat) (tr : Nat) (hf : Int32) (sv : Nat) (an : Nat) (w1n : Nat) (wan : Nat) (pan : Nat) (ran : Nat) (san : Nat) (z : Nat → Int32) (hnn : ¬ z 0 ≤ 0 → vf_n64 (FP.ddiv (FP.i2d (z 9)) (FP.i2d (z 0)))) : CD l D (TY cI cJ cO) yX5_going wsX5_going ({ frames := 0, cells := 0, slots := 0, locals := 0 }) [.ref xx] [oX xx an ak sv b tr hf, oS an w1n pan san z, aI cI san 4 12 z, oW w1n wan z, aI cI wan 6 19 z, oP pan ran z, aI cI ran 200 25 z] (share z) [oX xx an ak sv b tr hf, oS an w1n pan san z, aI cI san 4 12 z, oW w1n wan z, aI cI wan 6 19 z, oP pan ran z, aI cI ran 200 25 z] := by
  refine CD.of (plainFor_of_name (by decide)) rfl (Nat.le_of_ble_eq_true rfl) (fun p e s m below meth c A ls Q X hA w hl fin => ?_)
  obtain ⟨hx, hb, hml, hown, hts⟩ := id X.1
  have hl : lv_has ls 2 [(0, .ref xx)] := hl
  refine lv_aload_n hx hb dX5_going_0 rfl (lv_at hl 0 rfl) ?_
  refine k_get X w 0 rfl rfl 0 (by decide) rfl iX5_going_X5 (List.mem_of_getElem? (i := 1) rfl) (v := .ref an) rfl dX5_going_1 ?_
  refine k_get X w 1 rfl rfl 0 (by decide) rfl iX5_going_X3 (List.mem_of_getElem? (i := 2) rfl) (v := .ref w1n) rfl dX5_going_4 ?_
  refine k_get X w 3 rfl rfl 7 (by decide) rfl iX5_going_X4 (List.mem_of_getElem? (i := 3) rfl) (v := .int (z 0)) rfl dX5_going_7 ?_
  refine lv_istore_n (lv' := [(1, .int (z 0)), (0, .ref xx)]) hx hb dX5_going_10 rfl hl (by decide) rfl (fun ls hl => ?_)
  refine lv_iload_n hx hb dX5_going_11 rfl (lv_at hl 0 rfl) ?_
  refine lv_if_le (tgt := 32) hx hb dX5_going_12 (by decide) (fun c1 => ?_) (fun c1 => ?_)
  · refine lv_dconst1 hx hb dX5_going_32 ?_
    exact fin _ _ _ _ _ w (by simp only [share, c1, if_true, if_false]) dX5_going_33
  · refine lv_aload_n hx hb dX5_going_15 rfl (lv_at hl 1 rfl) ?_
    refine k_get X w 0 rfl rfl 0 (by decide) rfl iX5_going_X5 (List.mem_of_getElem? (i := 1) rfl) (v := .ref an) rfl dX5_going_16 ?_
    refine k_get X w 1 rfl rfl 0 (by decide) rfl iX5_going_X3 (List.mem_of_getElem? (i := 2) rfl) (v := .ref w1n) rfl dX5_going_19 ?_
    refine k_get X w 3 rfl rfl 10 (by decide) rfl iX5_going_X4 (List.mem_of_getElem? (i := 4) rfl) (v := .int (z 9)) rfl dX5_going_22 ?_
    refine lv_i2d hx hb dX5_going_25 ?_
    refine lv_iload_n hx hb dX5_going_26 rfl (lv_at hl 0 rfl) ?_
    refine lv_i2d hx hb dX5_going_27 ?_
    refine lv_ddiv hx hb dX5_going_28 (hnn c1) ?_
    refine lv_goto (tgt := 33) hx hb dX5_going_29 (by decide) ?_
    exact fin _ _ _ _ _ w (by simp only [share, c1, if_true, if_false]) dX5_going_33
theorem hdX5_pose : yX5_pose.cls = RX5 ∧ yX5_pose.cls ≠ "java/lang/invoke/MethodHandle" ∧ yX5_pose.cls ≠ "java/lang/invoke/VarHandle" ∧ (parseMethodDescriptor yX5_pose.desc).map (fun d => d.parameters.length) = some 2 := ⟨rfl, by decide, by decide, by decide +kernel⟩
set_option maxHeartbeats 4000000 in
set_option maxRecDepth 100000 in
theorem met_X5_pose (l : Launch) (D : va_G) (cI cJ cO : ClassId) (xx : Nat) (ak : Nat) (b : Nat) (tr : Nat) (hf : Int32) (sv : Nat) (an : Nat) (w1n : Nat) (wan : Nat) (pan : Nat) (ran : Nat) (san : Nat) (z : Nat → Int32) (len : Nat) (k : Nat) (wh : Nat) (hk : k < 6) (hn : z 10 = nI len) (hn4 : len ≤ 40) (hw : wh < 8) : CI l D (TY cI cJ cO) yX5_pose wsX5_pose ({ frames := 4, cells := 0, slots := 0, locals := 89 }) [.ref xx, .int (nI k), .int (nI wh)] [oX xx an ak sv b tr hf, oS an w1n pan san z, aI cI san 4 12 z, oW w1n wan z, aI cI wan 6 19 z, oP pan ran z, aI cI ran 200 25 z] (pnum z len k wh) [oX xx an ak sv b tr hf, oS an w1n pan san z, aI cI san 4 12 z, oW w1n wan z, aI cI wan 6 19 z, oP pan ran z, aI cI ran 200 25 z] := by
  refine CI.of (plainFor_of_name (by decide)) rfl (Nat.le_of_ble_eq_true rfl) (rfl) (fun p e s m below meth c A ls Q X hA w hl fin => ?_)
  obtain ⟨hx, hb, hml, hown, hts⟩ := id X.1
  have hl : lv_has ls 3 [(0, .ref xx), (1, .int (nI k)), (2, .int (nI wh))] := hl
  refine lv_iload_n hx hb dX5_pose_0 rfl (lv_at hl 1 rfl) ?_
  refine k_cvR (k_runS X w (met_X5_demandPose l D cI cJ cO (nI k) (isP_b hk) s.heap.size) gX5_pose_X5_demandPose rfl rfl rfl 1 hdX5_demandPose ⟨Nat.le_of_ble_eq_true rfl, Nat.le_of_ble_eq_true rfl⟩ [] rfl rfl rfl hl.1 rfl (Nat.le_of_ble_eq_true rfl) dX5_pose_1 ⟨Nat.le_of_ble_eq_true rfl, Nat.le_of_ble_eq_true rfl⟩) w hA [] rfl (fun H locs w => ?_)
  refine lv_iload_n hx hb dX5_pose_4 rfl (lv_at hl 2 rfl) ?_
  refine lv_iconst (v := 0) hx hb dX5_pose_5 (by decide) ?_
  refine lv_bipush (v := 7) hx hb dX5_pose_6 (by decide) ?_
  refine k_cvR (k_runS X w (met_X5_demandRange l D cI cJ cO (nI wh) 0 7 (in_07 hw) H.size) gX5_pose_X5_demandRange rfl rfl rfl 3 hdX5_demandRange ⟨Nat.le_of_ble_eq_true rfl, Nat.le_of_ble_eq_true rfl⟩ [] rfl rfl rfl hl.1 rfl (Nat.le_of_ble_eq_true rfl) dX5_pose_8 ⟨Nat.le_of_ble_eq_true rfl, Nat.le_of_ble_eq_true rfl⟩) w hA [] rfl (fun H locs w => ?_)
  refine lv_aload_n hx hb dX5_pose_11 rfl (lv_at hl 0 rfl) ?_
  refine lv_iload_n hx hb dX5_pose_12 rfl (lv_at hl 1 rfl) ?_
  refine lv_iload_n hx hb dX5_pose_13 rfl (lv_at hl 2 rfl) ?_
  refine k_ciR (k_runV X w (met_X5_poseNumber l D cI cJ cO xx ak b tr hf sv an w1n wan pan ran san z len k wh hk hn hn4 hw H.size) gX5_pose_X5_poseNumber rfl rfl rfl 2 hdX5_poseNumber ⟨Nat.le_of_ble_eq_true rfl, Nat.le_of_ble_eq_true rfl⟩ [0, 1, 2, 3, 4, 5, 6] rfl rfl 0 5 rfl rfl rfl rfl hl.1 rfl (Nat.le_of_ble_eq_true rfl) dX5_pose_14 ⟨Nat.le_of_ble_eq_true rfl, Nat.le_of_ble_eq_true rfl⟩) w hA [0, 1, 2, 3, 4, 5, 6] rfl (fun H locs w => ?_)
  exact fin _ _ _ _ _ w rfl dX5_pose_17
theorem hdX5_reading : yX5_reading.cls = RX5 ∧ yX5_reading.cls ≠ "java/lang/invoke/MethodHandle" ∧ yX5_reading.cls ≠ "java/lang/invoke/VarHandle" ∧ (parseMethodDescriptor yX5_reading.desc).map (fun d => d.parameters.length) = some 2 := ⟨rfl, by decide, by decide, by decide +kernel⟩
set_option maxHeartbeats 4000000 in
set_option maxRecDepth 100000 in
theorem met_X5_reading (l : Launch) (D : va_G) (cI cJ cO : ClassId) (xx : Nat) (ak : Nat) (b : Nat) (tr : Nat) (hf : Int32) (sv : Nat) (an : Nat) (w1n : Nat) (wan : Nat) (pan : Nat) (ran : Nat) (san : Nat) (z : Nat → Int32) (len : Nat) (i : Nat) (wh : Nat) (hi : i < 2 ^ 31) (hn : z 10 = nI len) (hn4 : len ≤ 40) (hw : wh < 5) : CI l D (TY cI cJ cO) yX5_reading wsX5_reading ({ frames := 2, cells := 0, slots := 0, locals := 45 }) [.ref xx, .int (nI i), .int (nI wh)] [oX xx an ak sv b tr hf, oS an w1n pan san z, aI cI san 4 12 z, oW w1n wan z, aI cI wan 6 19 z, oP pan ran z, aI cI ran 200 25 z] (rnum z len i wh) [oX xx an ak sv b tr hf, oS an w1n pan san z, aI cI san 4 12 z, oW w1n wan z, aI cI wan 6 19 z, oP pan ran z, aI cI ran 200 25 z] := by
  refine CI.of (plainFor_of_name (by decide)) rfl (Nat.le_of_ble_eq_true rfl) (rfl) (fun p e s m below meth c A ls Q X hA w hl fin => ?_)
  obtain ⟨hx, hb, hml, hown, hts⟩ := id X.1
  have hl : lv_has ls 3 [(0, .ref xx), (1, .int (nI i)), (2, .int (nI wh))] := hl
  refine lv_iload_n hx hb dX5_reading_0 rfl (lv_at hl 1 rfl) ?_
  refine lv_if_ge (tgt := 14) hx hb dX5_reading_1 (by decide) (fun c1 => ?_) (fun c1 => absurd (nI_pos' hi) c1)
  refine lv_iload_n hx hb dX5_reading_14 rfl (lv_at hl 2 rfl) ?_
  refine lv_iconst (v := 0) hx hb dX5_reading_15 (by decide) ?_
  refine lv_iconst (v := 4) hx hb dX5_reading_16 (by decide) ?_
  refine k_cvR (k_runS X w (met_X5_demandRange l D cI cJ cO (nI wh) 0 4 (in_04 hw) s.heap.size) gX5_reading_X5_demandRange rfl rfl rfl 3 hdX5_demandRange ⟨Nat.le_of_ble_eq_true rfl, Nat.le_of_ble_eq_true rfl⟩ [] rfl rfl rfl hl.1 rfl (Nat.le_of_ble_eq_true rfl) dX5_reading_17 ⟨Nat.le_of_ble_eq_true rfl, Nat.le_of_ble_eq_true rfl⟩) w hA [] rfl (fun H locs w => ?_)
  refine lv_aload_n hx hb dX5_reading_20 rfl (lv_at hl 0 rfl) ?_
  refine lv_iload_n hx hb dX5_reading_21 rfl (lv_at hl 1 rfl) ?_
  refine lv_iload_n hx hb dX5_reading_22 rfl (lv_at hl 2 rfl) ?_
  refine k_ciR (k_runV X w (met_X5_readingNumber l D cI cJ cO xx ak b tr hf sv an w1n wan pan ran san z len i wh hi hn hn4 hw H.size) gX5_reading_X5_readingNumber rfl rfl rfl 2 hdX5_readingNumber ⟨Nat.le_of_ble_eq_true rfl, Nat.le_of_ble_eq_true rfl⟩ [0, 1, 2, 3, 4, 5, 6] rfl rfl 0 5 rfl rfl rfl rfl hl.1 rfl (Nat.le_of_ble_eq_true rfl) dX5_reading_23 ⟨Nat.le_of_ble_eq_true rfl, Nat.le_of_ble_eq_true rfl⟩) w hA [0, 1, 2, 3, 4, 5, 6] rfl (fun H locs w => ?_)
  exact fin _ _ _ _ _ w rfl dX5_reading_26
theorem hdX5_count : yX5_count.cls = RX5 ∧ yX5_count.cls ≠ "java/lang/invoke/MethodHandle" ∧ yX5_count.cls ≠ "java/lang/invoke/VarHandle" ∧ (parseMethodDescriptor yX5_count.desc).map (fun d => d.parameters.length) = some 1 := ⟨rfl, by decide, by decide, by decide +kernel⟩
set_option maxHeartbeats 4000000 in
set_option maxRecDepth 100000 in
theorem met_X5_count (l : Launch) (D : va_G) (cI cJ cO : ClassId) (xx : Nat) (ak : Nat) (b : Nat) (tr : Nat) (hf : Int32) (sv : Nat) (an : Nat) (w1n : Nat) (wan : Nat) (pan : Nat) (ran : Nat) (san : Nat) (z : Nat → Int32) (rr : Nat) (y : Nat → Int32) (len : Nat) (k : Nat) (j : Nat) (hz : z 6 = nI k) (hn : z 10 = nI len) (hn4 : len ≤ 40) (hj : j < 21) : CI l D (TY cI cJ cO) yX5_count wsX5_count ({ frames := 5, cells := 0, slots := 0, locals := 114 }) [.ref xx, .int (nI j)] [oX xx an ak sv b tr hf, oS an w1n pan san z, aI cI san 4 12 z, oW w1n wan z, aI cI wan 6 19 z, oP pan ran z, aI cI ran 200 25 z, oV sv rr y] (cnum z len k (y 1) j) [oX xx an ak sv b tr hf, oS an w1n pan san z, aI cI san 4 12 z, oW w1n wan z, aI cI wan 6 19 z, oP pan ran z, aI cI ran 200 25 z, oV sv rr y] := by
  refine CI.of (plainFor_of_name (by decide)) rfl (Nat.le_of_ble_eq_true rfl) (rfl) (fun p e s m below meth c A ls Q X hA w hl fin => ?_)
  obtain ⟨hx, hb, hml, hown, hts⟩ := id X.1
  have hl : lv_has ls 2 [(0, .ref xx), (1, .int (nI j))] := hl
  refine lv_iload_n hx hb dX5_count_0 rfl (lv_at hl 1 rfl) ?_
  refine lv_iconst (v := 0) hx hb dX5_count_1 (by decide) ?_
  refine lv_bipush (v := 20) hx hb dX5_count_2 (by decide) ?_
  refine k_cvR (k_runS X w (met_X5_demandRange l D cI cJ cO (nI j) 0 20 (in_20 hj) s.heap.size) gX5_count_X5_demandRange rfl rfl rfl 3 hdX5_demandRange ⟨Nat.le_of_ble_eq_true rfl, Nat.le_of_ble_eq_true rfl⟩ [] rfl rfl rfl hl.1 rfl (Nat.le_of_ble_eq_true rfl) dX5_count_4 ⟨Nat.le_of_ble_eq_true rfl, Nat.le_of_ble_eq_true rfl⟩) w hA [] rfl (fun H locs w => ?_)
  refine lv_aload_n hx hb dX5_count_7 rfl (lv_at hl 0 rfl) ?_
  refine lv_iload_n hx hb dX5_count_8 rfl (lv_at hl 1 rfl) ?_
  refine k_ciR (k_runV X w (met_X5_countNumber l D cI cJ cO xx ak b tr hf sv an w1n wan pan ran san z rr y len k j hz hn hn4 hj H.size) gX5_count_X5_countNumber rfl rfl rfl 1 hdX5_countNumber ⟨Nat.le_of_ble_eq_true rfl, Nat.le_of_ble_eq_true rfl⟩ [0, 1, 2, 3, 4, 5, 6, 7] rfl rfl 0 5 rfl rfl rfl rfl hl.1 rfl (Nat.le_of_ble_eq_true rfl) dX5_count_9 ⟨Nat.le_of_ble_eq_true rfl, Nat.le_of_ble_eq_true rfl⟩) w hA [0, 1, 2, 3, 4, 5, 6, 7] rfl (fun H locs w => ?_)
  exact fin _ _ _ _ _ w rfl dX5_count_12
theorem hdX5_ifWorn : yX5_ifWorn.cls = RX5 ∧ yX5_ifWorn.cls ≠ "java/lang/invoke/MethodHandle" ∧ yX5_ifWorn.cls ≠ "java/lang/invoke/VarHandle" ∧ (parseMethodDescriptor yX5_ifWorn.desc).map (fun d => d.parameters.length) = some 4 := ⟨rfl, by decide, by decide, by decide +kernel⟩
set_option maxHeartbeats 4000000 in
set_option maxRecDepth 100000 in
theorem met_X5_ifWorn (l : Launch) (D : va_G) (cI cJ cO : ClassId) (xx : Nat) (ak : Nat) (b : Nat) (tr : Nat) (hf : Int32) (sv : Nat) (an : Nat) (w1n : Nat) (wan : Nat) (pan : Nat) (ran : Nat) (san : Nat) (z : Nat → Int32) (twa : Nat) (zt : Nat → Int32) (i : Nat) (j : Nat) (k : Nat) (wh : Nat) (hi : i < 6) (hj : j < 6) (hk : k < 6) (hw : wh < 2) : CI l D (TY cI cJ cO) yX5_ifWorn wsX5_ifWorn ({ frames := 6, cells := 0, slots := 0, locals := 134 }) [.ref xx, .int (nI i), .int (nI j), .int (nI k), .int (nI wh)] [oX xx an ak sv b tr hf, oS an w1n pan san z, aI cI san 4 12 z, oW w1n wan z, aI cI wan 6 19 z, oP pan ran z, aI cI ran 200 25 z, oW tr twa zt, aI cI twa 6 19 zt] (wornN z i j k wh) [oX xx an ak sv b tr hf, oS an w1n pan san z, aI cI san 4 12 z, oW w1n wan z, aI cI wan 6 19 z, oP pan ran z, aI cI ran 200 25 z, oW tr twa (wz3 z i j k), aI cI twa 6 19 (wz3 z i j k)] := by
  refine CI.of (plainFor_of_name (by decide)) rfl (Nat.le_of_ble_eq_true rfl) (rfl) (fun p e s m below meth c A ls Q X hA w hl fin => ?_)
  obtain ⟨hx, hb, hml, hown, hts⟩ := id X.1
  have hl : lv_has ls 5 [(0, .ref xx), (1, .int (nI i)), (2, .int (nI j)), (3, .int (nI k)), (4, .int (nI wh))] := hl
  refine lv_iload_n hx hb dX5_ifWorn_0 rfl (lv_at hl 1 rfl) ?_
  refine k_cvR (k_runS X w (met_X5_demandPose l D cI cJ cO (nI i) (isP_b hi) s.heap.size) gX5_ifWorn_X5_demandPose rfl rfl rfl 1 hdX5_demandPose ⟨Nat.le_of_ble_eq_true rfl, Nat.le_of_ble_eq_true rfl⟩ [] rfl rfl rfl hl.1 rfl (Nat.le_of_ble_eq_true rfl) dX5_ifWorn_1 ⟨Nat.le_of_ble_eq_true rfl, Nat.le_of_ble_eq_true rfl⟩) w hA [] rfl (fun H locs w => ?_)
  refine lv_iload_n hx hb dX5_ifWorn_4 rfl (lv_at hl 2 rfl) ?_
  refine k_cvR (k_runS X w (met_X5_demandPose l D cI cJ cO (nI j) (isP_b hj) H.size) gX5_ifWorn_X5_demandPose rfl rfl rfl 1 hdX5_demandPose ⟨Nat.le_of_ble_eq_true rfl, Nat.le_of_ble_eq_true rfl⟩ [] rfl rfl rfl hl.1 rfl (Nat.le_of_ble_eq_true rfl) dX5_ifWorn_5 ⟨Nat.le_of_ble_eq_true rfl, Nat.le_of_ble_eq_true rfl⟩) w hA [] rfl (fun H locs w => ?_)
  refine lv_iload_n hx hb dX5_ifWorn_8 rfl (lv_at hl 3 rfl) ?_
  refine k_cvR (k_runS X w (met_X5_demandPose l D cI cJ cO (nI k) (isP_b hk) H.size) gX5_ifWorn_X5_demandPose rfl rfl rfl 1 hdX5_demandPose ⟨Nat.le_of_ble_eq_true rfl, Nat.le_of_ble_eq_true rfl⟩ [] rfl rfl rfl hl.1 rfl (Nat.le_of_ble_eq_true rfl) dX5_ifWorn_9 ⟨Nat.le_of_ble_eq_true rfl, Nat.le_of_ble_eq_true rfl⟩) w hA [] rfl (fun H locs w => ?_)
  refine lv_iload hx hb dX5_ifWorn_12 (lv_at hl 4 rfl) ?_
  refine lv_iconst (v := 0) hx hb dX5_ifWorn_14 (by decide) ?_
  refine lv_iconst (v := 1) hx hb dX5_ifWorn_15 (by decide) ?_
  refine k_cvR (k_runS X w (met_X5_demandRange l D cI cJ cO (nI wh) 0 1 (in_01 hw) H.size) gX5_ifWorn_X5_demandRange rfl rfl rfl 3 hdX5_demandRange ⟨Nat.le_of_ble_eq_true rfl, Nat.le_of_ble_eq_true rfl⟩ [] rfl rfl rfl hl.1 rfl (Nat.le_of_ble_eq_true rfl) dX5_ifWorn_16 ⟨Nat.le_of_ble_eq_true rfl, Nat.le_of_ble_eq_true rfl⟩) w hA [] rfl (fun H locs w => ?_)
  refine lv_aload_n hx hb dX5_ifWorn_19 rfl (lv_at hl 0 rfl) ?_
  refine lv_iload_n hx hb dX5_ifWorn_20 rfl (lv_at hl 1 rfl) ?_
  refine lv_iload_n hx hb dX5_ifWorn_21 rfl (lv_at hl 2 rfl) ?_
  refine lv_iload_n hx hb dX5_ifWorn_22 rfl (lv_at hl 3 rfl) ?_
  refine lv_iload hx hb dX5_ifWorn_23 (lv_at hl 4 rfl) ?_
  refine k_ci (wr := []) (ws2 := [oX xx an ak sv b tr hf, oS an w1n pan san z, aI cI san 4 12 z, oW w1n wan z, aI cI wan 6 19 z, oP pan ran z, aI cI ran 200 25 z, oW tr twa (wz3 z i j k), aI cI twa 6 19 (wz3 z i j k)]) (k_runV X w (met_X5_wornNumber l D cI cJ cO xx ak b tr hf sv an w1n wan pan ran san z twa zt i j k wh hi hj hk hw H.size) gX5_ifWorn_X5_wornNumber rfl rfl rfl 4 hdX5_wornNumber ⟨Nat.le_of_ble_eq_true rfl, Nat.le_of_ble_eq_true rfl⟩ [0, 1, 2, 3, 4, 5, 6, 7, 8] rfl rfl 0 5 rfl rfl rfl rfl hl.1 rfl (Nat.le_of_ble_eq_true rfl) dX5_ifWorn_25 ⟨Nat.le_of_ble_eq_true rfl, Nat.le_of_ble_eq_true rfl⟩) w hA [0, 1, 2, 3, 4, 5, 6, 7, 8] [] rfl rfl rfl (by decide) [0, 1, 2, 3, 4, 5, 6, 7, 8] rfl rfl (fun H locs w => ?_)
  exact fin _ _ _ _ _ w rfl dX5_ifWorn_28
theorem hdX5_stopsIn : yX5_stopsIn.cls = RX5 ∧ yX5_stopsIn.cls ≠ "java/lang/invoke/MethodHandle" ∧ yX5_stopsIn.cls ≠ "java/lang/invoke/VarHandle" ∧ (parseMethodDescriptor yX5_stopsIn.desc).map (fun d => d.parameters.length) = some 1 := ⟨rfl, by decide, by decide, by decide +kernel⟩
set_option maxHeartbeats 4000000 in
set_option maxRecDepth 100000 in
theorem met_X5_stopsIn (l : Launch) (D : va_G) (cI cJ cO : ClassId) (xx : Nat) (ak : Nat) (b : Nat) (tr : Nat) (hf : Int32) (sv : Nat) (an : Nat) (w1n : Nat) (wan : Nat) (pan : Nat) (ran : Nat) (san : Nat) (z : Nat → Int32) (twa : Nat) (zt : Nat → Int32) (k : Nat) (hk : k < 6) : CI l D (TY cI cJ cO) yX5_stopsIn wsX5_stopsIn ({ frames := 6, cells := 0, slots := 0, locals := 130 }) [.ref xx, .int (nI k)] [oX xx an ak sv b tr hf, oS an w1n pan san z, aI cI san 4 12 z, oW w1n wan z, aI cI wan 6 19 z, oP pan ran z, aI cI ran 200 25 z, oW tr twa zt, aI cI twa 6 19 zt] (untilN z k) [oX xx an ak sv b tr hf, oS an w1n pan san z, aI cI san 4 12 z, oW w1n wan z, aI cI wan 6 19 z, oP pan ran z, aI cI ran 200 25 z, oW tr twa (utr z k), aI cI twa 6 19 (utr z k)] := by
  refine CI.of (plainFor_of_name (by decide)) rfl (Nat.le_of_ble_eq_true rfl) (rfl) (fun p e s m below meth c A ls Q X hA w hl fin => ?_)
  obtain ⟨hx, hb, hml, hown, hts⟩ := id X.1
  have hl : lv_has ls 2 [(0, .ref xx), (1, .int (nI k))] := hl
  refine lv_iload_n hx hb dX5_stopsIn_0 rfl (lv_at hl 1 rfl) ?_
  refine k_cvR (k_runS X w (met_X5_demandPose l D cI cJ cO (nI k) (isP_b hk) s.heap.size) gX5_stopsIn_X5_demandPose rfl rfl rfl 1 hdX5_demandPose ⟨Nat.le_of_ble_eq_true rfl, Nat.le_of_ble_eq_true rfl⟩ [] rfl rfl rfl hl.1 rfl (Nat.le_of_ble_eq_true rfl) dX5_stopsIn_1 ⟨Nat.le_of_ble_eq_true rfl, Nat.le_of_ble_eq_true rfl⟩) w hA [] rfl (fun H locs w => ?_)
  refine lv_aload_n hx hb dX5_stopsIn_4 rfl (lv_at hl 0 rfl) ?_
  refine lv_iload_n hx hb dX5_stopsIn_5 rfl (lv_at hl 1 rfl) ?_
  refine k_ci (wr := []) (ws2 := [oX xx an ak sv b tr hf, oS an w1n pan san z, aI cI san 4 12 z, oW w1n wan z, aI cI wan 6 19 z, oP pan ran z, aI cI ran 200 25 z, oW tr twa (utr z k), aI cI twa 6 19 (utr z k)]) (k_runV X w (met_X5_hoursUntilStop l D cI cJ cO xx ak b tr hf sv an w1n wan pan ran san z twa zt k hk H.size) gX5_stopsIn_X5_hoursUntilStop rfl rfl rfl 1 hdX5_hoursUntilStop ⟨Nat.le_of_ble_eq_true rfl, Nat.le_of_ble_eq_true rfl⟩ [0, 1, 2, 3, 4, 5, 6, 7, 8] rfl rfl 0 5 rfl rfl rfl rfl hl.1 rfl (Nat.le_of_ble_eq_true rfl) dX5_stopsIn_6 ⟨Nat.le_of_ble_eq_true rfl, Nat.le_of_ble_eq_true rfl⟩) w hA [0, 1, 2, 3, 4, 5, 6, 7, 8] [] rfl rfl rfl (by decide) [0, 1, 2, 3, 4, 5, 6, 7, 8] rfl rfl (fun H locs w => ?_)
  exact fin _ _ _ _ _ w rfl dX5_stopsIn_9
