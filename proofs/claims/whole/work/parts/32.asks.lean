theorem hdX6_latest : yX6_latest.cls = RX6 ∧ yX6_latest.cls ≠ "java/lang/invoke/MethodHandle" ∧ yX6_latest.cls ≠ "java/lang/invoke/VarHandle" ∧ (parseMethodDescriptor yX6_latest.desc).map (fun d => d.parameters.length) = some 1 := ⟨rfl, by decide, by decide, by decide +kernel⟩
theorem iX6_latest_X6 : ∀ w ∈ wsX60, w ∈ wsX6_latest := fun _ h => List.mem_cons_of_mem _ (List.mem_append_right _ h)
set_option maxHeartbeats 4000000 in
set_option maxRecDepth 100000 in
theorem met_X6_latest (l : Launch) (D : va_G) (cI cJ cO : ClassId) (ma : Nat) (za : Nat) (aa : Nat) (va : Nat) (ka : Nat) (ta : Nat) (y : Nat → Int32) (z : Nat → Int32) (len : Nat) (x : Int32) (hn : z 10 = nI len) (hn4 : len ≤ 40) : CI l D (TY cI cJ cO) yX6_latest wsX6_latest ({ frames := 1, cells := 0, slots := 0, locals := 22 }) [.ref ma, .int x] [oM ma za aa va ka ta y, aI cI za 225 0 z] (lat z x len) [oM ma za aa va ka ta y, aI cI za 225 0 z] := by
  refine CI.of (plainFor_of_name (by decide)) rfl (Nat.le_of_ble_eq_true rfl) (rfl) (fun p e s m below meth c A ls Q X hA w hl fin => ?_)
  obtain ⟨hx, hb, hml, hown, hts⟩ := id X.1
  have hl : lv_has ls 4 [(0, .ref ma), (1, .int x)] := hl
  refine lv_iconst (v := (-1)) hx hb dX6_latest_0 (by decide) ?_
  refine lv_istore_n (lv' := [(2, .int (-1)), (0, .ref ma), (1, .int x)]) hx hb dX6_latest_1 rfl hl (by decide) rfl (fun ls hl => ?_)
  refine lv_iconst (v := 0) hx hb dX6_latest_2 (by decide) ?_
  refine lv_istore_n (lv' := [(3, .int 0), (2, .int (-1)), (0, .ref ma), (1, .int x)]) hx hb dX6_latest_3 rfl hl (by decide) rfl (fun ls hl => ?_)
  have lp4 : ∀ (n : Nat) (i : Nat) (rr : Int32), i + n = len → rr = lat z x i → ∀ (H : Heap) (locs : List Loc) (ls : Array Slot), wd D A s.heap H locs ([oM ma za aa va ka ta y, aI cI za 225 0 z]) → lv_has ls 4 [(3, .int (nI i)), (2, .int rr), (0, .ref ma), (1, .int x)] → W p l e ({ frames := 1, cells := 0, slots := 0, locals := 22 }) s m [.ref ma, .int x].toArray below meth c H locs 0 0 Q (F0 m 4 ls []) := by
    intro n
    induction n with
    | zero =>
      intro i rr hi hr H locs ls w hl
      refine lv_iload_n hx hb dX6_latest_4 rfl (lv_at hl 0 rfl) ?_
      refine lv_aload_n hx hb dX6_latest_5 rfl (lv_at hl 2 rfl) ?_
      refine k_get X w 0 rfl rfl 1 (by decide) rfl iX6_latest_X6 (List.mem_of_getElem? (i := 1) rfl) (v := .ref za) rfl dX6_latest_6 ?_
      refine lv_bipush (v := 10) hx hb dX6_latest_9 (by decide) ?_
      refine k_iald X w 1 0 rfl rfl 10 (kj := 10) rfl (by decide) (by decide) rfl (v := nI len) hn dX6_latest_11 ?_
      refine lv_icmp_ge (tgt := 37) hx hb dX6_latest_12 (by decide) (fun c1 => ?_) (fun c1 => absurd (nI_le (by omega) (by omega)) c1)
      refine lv_iload_n hx hb dX6_latest_37 rfl (lv_at hl 1 rfl) ?_
      exact fin _ _ _ _ _ w (by rw [hr, show i = len by omega]) dX6_latest_38
    | succ n ih =>
      intro i rr hi hr H locs ls w hl
      refine lv_iload_n hx hb dX6_latest_4 rfl (lv_at hl 0 rfl) ?_
      refine lv_aload_n hx hb dX6_latest_5 rfl (lv_at hl 2 rfl) ?_
      refine k_get X w 0 rfl rfl 1 (by decide) rfl iX6_latest_X6 (List.mem_of_getElem? (i := 1) rfl) (v := .ref za) rfl dX6_latest_6 ?_
      refine lv_bipush (v := 10) hx hb dX6_latest_9 (by decide) ?_
      refine k_iald X w 1 0 rfl rfl 10 (kj := 10) rfl (by decide) (by decide) rfl (v := nI len) hn dX6_latest_11 ?_
      refine lv_icmp_ge (tgt := 37) hx hb dX6_latest_12 (by decide) (fun c2 => absurd c2 (nI_ge (by omega) (by omega))) (fun c2 => ?_)
      refine lv_aload_n hx hb dX6_latest_15 rfl (lv_at hl 2 rfl) ?_
      refine lv_iload_n hx hb dX6_latest_16 rfl (lv_at hl 0 rfl) ?_
      refine lv_iconst (v := 1) hx hb dX6_latest_17 (by decide) ?_
      refine k_ciR (k_runV X w (met_X6_of l D cI cJ cO ma za aa va ka ta y z i 1 (by first | assumption | omega) (by first | assumption | omega) H.size) gX6_latest_X6_of rfl rfl rfl 2 hdX6_of ⟨Nat.le_of_ble_eq_true rfl, Nat.le_of_ble_eq_true rfl⟩ [0, 1] rfl rfl 0 6 rfl rfl rfl rfl hl.1 rfl (Nat.le_of_ble_eq_true rfl) dX6_latest_18 ⟨Nat.le_of_ble_eq_true rfl, Nat.le_of_ble_eq_true rfl⟩) w hA [0, 1] rfl (fun H locs w => ?_)
      refine lv_iload_n hx hb dX6_latest_21 rfl (lv_at hl 3 rfl) ?_
      refine lv_icmp_ne (tgt := 29) hx hb dX6_latest_22 (by decide) (fun c3 => ?_) (fun c3 => ?_)
      · refine lv_iload_n hx hb dX6_latest_29 rfl (lv_at hl 1 rfl) ?_
        refine lv_istore_n (lv' := [(2, .int rr), (3, .int (nI i)), (0, .ref ma), (1, .int x)]) hx hb dX6_latest_30 rfl hl (by decide) rfl (fun ls hl => ?_)
        refine lv_iinc (v := nI (i + 1)) (lv' := [(3, .int (nI (i + 1))), (2, .int rr), (0, .ref ma), (1, .int x)]) hx hb dX6_latest_31 hl (k := 1) rfl (nI_1 _) (by decide) rfl (fun ls hl => ?_)
        refine lv_goto (tgt := 4) hx hb dX6_latest_34 (by decide) ?_
        exact ih (i + 1) rr (by omega) (by rw [lat, if_neg c3]; exact hr) _ _ _ w (lv_sub hl [0, 1, 2, 3] rfl)
      · refine lv_iload_n hx hb dX6_latest_25 rfl (lv_at hl 0 rfl) ?_
        refine lv_goto (tgt := 30) hx hb dX6_latest_26 (by decide) ?_
        refine lv_istore_n (lv' := [(2, .int (nI i)), (3, .int (nI i)), (0, .ref ma), (1, .int x)]) hx hb dX6_latest_30 rfl hl (by decide) rfl (fun ls hl => ?_)
        refine lv_iinc (v := nI (i + 1)) (lv' := [(3, .int (nI (i + 1))), (2, .int (nI i)), (0, .ref ma), (1, .int x)]) hx hb dX6_latest_31 hl (k := 1) rfl (nI_1 _) (by decide) rfl (fun ls hl => ?_)
        refine lv_goto (tgt := 4) hx hb dX6_latest_34 (by decide) ?_
        exact ih (i + 1) (nI i) (by omega) (by rw [lat, if_pos c3]) _ _ _ w (lv_sub hl [0, 1, 2, 3] rfl)
  exact lp4 len 0 (-1) (Nat.zero_add _) rfl _ _ _ w (lv_sub hl [0, 1, 2, 3] rfl)
theorem hdX6_readingsIn : yX6_readingsIn.cls = RX6 ∧ yX6_readingsIn.cls ≠ "java/lang/invoke/MethodHandle" ∧ yX6_readingsIn.cls ≠ "java/lang/invoke/VarHandle" ∧ (parseMethodDescriptor yX6_readingsIn.desc).map (fun d => d.parameters.length) = some 1 := ⟨rfl, by decide, by decide, by decide +kernel⟩
theorem iX6_readingsIn_X6 : ∀ w ∈ wsX60, w ∈ wsX6_readingsIn := fun _ h => List.mem_cons_of_mem _ (List.mem_append_right _ h)
set_option maxHeartbeats 4000000 in
set_option maxRecDepth 100000 in
theorem met_X6_readingsIn (l : Launch) (D : va_G) (cI cJ cO : ClassId) (ma : Nat) (za : Nat) (aa : Nat) (va : Nat) (ka : Nat) (ta : Nat) (y : Nat → Int32) (z : Nat → Int32) (len : Nat) (x : Int32) (hn : z 10 = nI len) (hn4 : len ≤ 40) : CI l D (TY cI cJ cO) yX6_readingsIn wsX6_readingsIn ({ frames := 1, cells := 0, slots := 0, locals := 22 }) [.ref ma, .int x] [oM ma za aa va ka ta y, aI cI za 225 0 z] (cnt z x len) [oM ma za aa va ka ta y, aI cI za 225 0 z] := by
  refine CI.of (plainFor_of_name (by decide)) rfl (Nat.le_of_ble_eq_true rfl) (rfl) (fun p e s m below meth c A ls Q X hA w hl fin => ?_)
  obtain ⟨hx, hb, hml, hown, hts⟩ := id X.1
  have hl : lv_has ls 4 [(0, .ref ma), (1, .int x)] := hl
  refine lv_iconst (v := 0) hx hb dX6_readingsIn_0 (by decide) ?_
  refine lv_istore_n (lv' := [(2, .int 0), (0, .ref ma), (1, .int x)]) hx hb dX6_readingsIn_1 rfl hl (by decide) rfl (fun ls hl => ?_)
  refine lv_iconst (v := 0) hx hb dX6_readingsIn_2 (by decide) ?_
  refine lv_istore_n (lv' := [(3, .int 0), (2, .int 0), (0, .ref ma), (1, .int x)]) hx hb dX6_readingsIn_3 rfl hl (by decide) rfl (fun ls hl => ?_)
  have lp4 : ∀ (n : Nat) (i : Nat) (rr : Int32), i + n = len → rr = cnt z x i → ∀ (H : Heap) (locs : List Loc) (ls : Array Slot), wd D A s.heap H locs ([oM ma za aa va ka ta y, aI cI za 225 0 z]) → lv_has ls 4 [(3, .int (nI i)), (2, .int rr), (0, .ref ma), (1, .int x)] → W p l e ({ frames := 1, cells := 0, slots := 0, locals := 22 }) s m [.ref ma, .int x].toArray below meth c H locs 0 0 Q (F0 m 4 ls []) := by
    intro n
    induction n with
    | zero =>
      intro i rr hi hr H locs ls w hl
      refine lv_iload_n hx hb dX6_readingsIn_4 rfl (lv_at hl 0 rfl) ?_
      refine lv_aload_n hx hb dX6_readingsIn_5 rfl (lv_at hl 2 rfl) ?_
      refine k_get X w 0 rfl rfl 1 (by decide) rfl iX6_readingsIn_X6 (List.mem_of_getElem? (i := 1) rfl) (v := .ref za) rfl dX6_readingsIn_6 ?_
      refine lv_bipush (v := 10) hx hb dX6_readingsIn_9 (by decide) ?_
      refine k_iald X w 1 0 rfl rfl 10 (kj := 10) rfl (by decide) (by decide) rfl (v := nI len) hn dX6_readingsIn_11 ?_
      refine lv_icmp_ge (tgt := 39) hx hb dX6_readingsIn_12 (by decide) (fun c1 => ?_) (fun c1 => absurd (nI_le (by omega) (by omega)) c1)
      refine lv_iload_n hx hb dX6_readingsIn_39 rfl (lv_at hl 1 rfl) ?_
      exact fin _ _ _ _ _ w (by rw [hr, show i = len by omega]) dX6_readingsIn_40
    | succ n ih =>
      intro i rr hi hr H locs ls w hl
      refine lv_iload_n hx hb dX6_readingsIn_4 rfl (lv_at hl 0 rfl) ?_
      refine lv_aload_n hx hb dX6_readingsIn_5 rfl (lv_at hl 2 rfl) ?_
      refine k_get X w 0 rfl rfl 1 (by decide) rfl iX6_readingsIn_X6 (List.mem_of_getElem? (i := 1) rfl) (v := .ref za) rfl dX6_readingsIn_6 ?_
      refine lv_bipush (v := 10) hx hb dX6_readingsIn_9 (by decide) ?_
      refine k_iald X w 1 0 rfl rfl 10 (kj := 10) rfl (by decide) (by decide) rfl (v := nI len) hn dX6_readingsIn_11 ?_
      refine lv_icmp_ge (tgt := 39) hx hb dX6_readingsIn_12 (by decide) (fun c2 => absurd c2 (nI_ge (by omega) (by omega))) (fun c2 => ?_)
      refine lv_iload_n hx hb dX6_readingsIn_15 rfl (lv_at hl 1 rfl) ?_
      refine lv_aload_n hx hb dX6_readingsIn_16 rfl (lv_at hl 2 rfl) ?_
      refine lv_iload_n hx hb dX6_readingsIn_17 rfl (lv_at hl 0 rfl) ?_
      refine lv_iconst (v := 1) hx hb dX6_readingsIn_18 (by decide) ?_
      refine k_ciR (k_runV X w (met_X6_of l D cI cJ cO ma za aa va ka ta y z i 1 (by first | assumption | omega) (by first | assumption | omega) H.size) gX6_readingsIn_X6_of rfl rfl rfl 2 hdX6_of ⟨Nat.le_of_ble_eq_true rfl, Nat.le_of_ble_eq_true rfl⟩ [0, 1] rfl rfl 0 6 rfl rfl rfl rfl hl.1 rfl (Nat.le_of_ble_eq_true rfl) dX6_readingsIn_19 ⟨Nat.le_of_ble_eq_true rfl, Nat.le_of_ble_eq_true rfl⟩) w hA [0, 1] rfl (fun H locs w => ?_)
      refine lv_iload_n hx hb dX6_readingsIn_22 rfl (lv_at hl 3 rfl) ?_
      refine lv_icmp_ne (tgt := 30) hx hb dX6_readingsIn_23 (by decide) (fun c3 => ?_) (fun c3 => ?_)
      · refine lv_iconst (v := 0) hx hb dX6_readingsIn_30 (by decide) ?_
        refine lv_iadd hx hb dX6_readingsIn_31 ?_
        refine lv_istore_n (lv' := [(2, .int (rr + 0)), (3, .int (nI i)), (0, .ref ma), (1, .int x)]) hx hb dX6_readingsIn_32 rfl hl (by decide) rfl (fun ls hl => ?_)
        refine lv_iinc (v := nI (i + 1)) (lv' := [(3, .int (nI (i + 1))), (2, .int (rr + 0)), (0, .ref ma), (1, .int x)]) hx hb dX6_readingsIn_33 hl (k := 1) rfl (nI_1 _) (by decide) rfl (fun ls hl => ?_)
        refine lv_goto (tgt := 4) hx hb dX6_readingsIn_36 (by decide) ?_
        exact ih (i + 1) (rr + 0) (by omega) (by rw [cnt, if_neg c3, hr, add_z]) _ _ _ w (lv_sub hl [0, 1, 2, 3] rfl)
      · refine lv_iconst (v := 1) hx hb dX6_readingsIn_26 (by decide) ?_
        refine lv_goto (tgt := 31) hx hb dX6_readingsIn_27 (by decide) ?_
        refine lv_iadd hx hb dX6_readingsIn_31 ?_
        refine lv_istore_n (lv' := [(2, .int (rr + 1)), (3, .int (nI i)), (0, .ref ma), (1, .int x)]) hx hb dX6_readingsIn_32 rfl hl (by decide) rfl (fun ls hl => ?_)
        refine lv_iinc (v := nI (i + 1)) (lv' := [(3, .int (nI (i + 1))), (2, .int (rr + 1)), (0, .ref ma), (1, .int x)]) hx hb dX6_readingsIn_33 hl (k := 1) rfl (nI_1 _) (by decide) rfl (fun ls hl => ?_)
        refine lv_goto (tgt := 4) hx hb dX6_readingsIn_36 (by decide) ?_
        exact ih (i + 1) (rr + 1) (by omega) (by rw [cnt, if_pos c3, hr]) _ _ _ w (lv_sub hl [0, 1, 2, 3] rfl)
  exact lp4 len 0 0 (Nat.zero_add _) rfl _ _ _ w (lv_sub hl [0, 1, 2, 3] rfl)
theorem hdX6_poseNow : yX6_poseNow.cls = RX6 ∧ yX6_poseNow.cls ≠ "java/lang/invoke/MethodHandle" ∧ yX6_poseNow.cls ≠ "java/lang/invoke/VarHandle" ∧ (parseMethodDescriptor yX6_poseNow.desc).map (fun d => d.parameters.length) = some 2 := ⟨rfl, by decide, by decide, by decide +kernel⟩
theorem iX6_poseNow_X6 : ∀ w ∈ wsX60, w ∈ wsX6_poseNow := fun _ h => List.mem_cons_of_mem _ (List.mem_append_right _ h)
set_option maxHeartbeats 4000000 in
set_option maxRecDepth 100000 in
theorem met_X6_poseNow (l : Launch) (D : va_G) (cI cJ cO : ClassId) (ma : Nat) (za : Nat) (aa : Nat) (va : Nat) (ka : Nat) (ta : Nat) (y : Nat → Int32) (z : Nat → Int32) (len : Nat) (k : Nat) (wh : Nat) (hob : okb z) (hk : k < 6) (hn : z 10 = nI len) (hn4 : len ≤ 40) (hw : wh < 8) : CI l D (TY cI cJ cO) yX6_poseNow wsX6_poseNow ({ frames := 3, cells := 0, slots := 0, locals := 62 }) [.ref ma, .int (nI k), .int (nI wh)] [oM ma za aa va ka ta y, aI cI za 225 0 z] (pnum z len k wh) [oM ma za aa va ka ta y, aI cI za 225 0 z] := by
  refine CI.of (plainFor_of_name (by decide)) rfl (Nat.le_of_ble_eq_true rfl) (rfl) (fun p e s m below meth c A ls Q X hA w hl fin => ?_)
  obtain ⟨hx, hb, hml, hown, hts⟩ := id X.1
  have hl : lv_has ls 4 [(0, .ref ma), (1, .int (nI k)), (2, .int (nI wh))] := hl
  rcases (show wh = 0 ∨ wh = 1 ∨ wh = 2 ∨ wh = 3 ∨ wh = 4 ∨ wh = 5 ∨ wh = 6 ∨ wh = 7 by omega) with rfl | rfl | rfl | rfl | rfl | rfl | rfl | rfl
  · refine lv_aload_n hx hb dX6_poseNow_0 rfl (lv_at hl 0 rfl) ?_
    refine lv_iload_n hx hb dX6_poseNow_1 rfl (lv_at hl 1 rfl) ?_
    refine k_ciR (k_runV X w (met_X6_latest l D cI cJ cO ma za aa va ka ta y z len (nI k) hn hn4 s.heap.size) gX6_poseNow_X6_latest rfl rfl rfl 1 hdX6_latest ⟨Nat.le_of_ble_eq_true rfl, Nat.le_of_ble_eq_true rfl⟩ [0, 1] rfl rfl 0 6 rfl rfl rfl rfl hl.1 rfl (Nat.le_of_ble_eq_true rfl) dX6_poseNow_2 ⟨Nat.le_of_ble_eq_true rfl, Nat.le_of_ble_eq_true rfl⟩) w hA [0, 1] rfl (fun H locs w => ?_)
    refine lv_istore_n (lv' := [(3, .int (lat z (nI k) len)), (0, .ref ma), (1, .int (nI k)), (2, .int (nI 0))]) hx hb dX6_poseNow_5 rfl hl (by decide) rfl (fun ls hl => ?_)
    refine lv_iload_n hx hb dX6_poseNow_6 rfl (lv_at hl 3 rfl) ?_
    refine lv_tableIn (off := 41) (tgt := 48) hx hb dX6_poseNow_7 (by decide) (by decide) (by decide) (by decide) ?_
    refine lv_aload_n hx hb dX6_poseNow_48 rfl (lv_at hl 1 rfl) ?_
    refine k_get X w 0 rfl rfl 1 (by decide) rfl iX6_poseNow_X6 (List.mem_of_getElem? (i := 1) rfl) (v := .ref za) rfl dX6_poseNow_49 ?_
    refine lv_bipush (v := 19) hx hb dX6_poseNow_52 (by decide) ?_
    refine lv_iload_n hx hb dX6_poseNow_54 rfl (lv_at hl 2 rfl) ?_
    refine lv_iadd hx hb dX6_poseNow_55 ?_
    refine k_iald X w 1 0 rfl rfl (19 + k) (kj := 19 + k) (Nat.zero_add _) (by omega) (by decide) (nI_addp rfl rfl) (v := z (19 + k)) rfl dX6_poseNow_56 ?_
    refine lv_bipush (v := 100) hx hb dX6_poseNow_57 (by decide) ?_
    refine lv_iadd hx hb dX6_poseNow_59 ?_
    exact fin _ _ _ _ _ w (by rfl) dX6_poseNow_60
  · refine lv_aload_n hx hb dX6_poseNow_0 rfl (lv_at hl 0 rfl) ?_
    refine lv_iload_n hx hb dX6_poseNow_1 rfl (lv_at hl 1 rfl) ?_
    refine k_ciR (k_runV X w (met_X6_latest l D cI cJ cO ma za aa va ka ta y z len (nI k) hn hn4 s.heap.size) gX6_poseNow_X6_latest rfl rfl rfl 1 hdX6_latest ⟨Nat.le_of_ble_eq_true rfl, Nat.le_of_ble_eq_true rfl⟩ [0, 1] rfl rfl 0 6 rfl rfl rfl rfl hl.1 rfl (Nat.le_of_ble_eq_true rfl) dX6_poseNow_2 ⟨Nat.le_of_ble_eq_true rfl, Nat.le_of_ble_eq_true rfl⟩) w hA [0, 1] rfl (fun H locs w => ?_)
    refine lv_istore_n (lv' := [(3, .int (lat z (nI k) len)), (0, .ref ma), (1, .int (nI k)), (2, .int (nI 1))]) hx hb dX6_poseNow_5 rfl hl (by decide) rfl (fun ls hl => ?_)
    refine lv_iload_n hx hb dX6_poseNow_6 rfl (lv_at hl 3 rfl) ?_
    refine lv_tableIn (off := 54) (tgt := 61) hx hb dX6_poseNow_7 (by decide) (by decide) (by decide) (by decide) ?_
    refine lv_aload_n hx hb dX6_poseNow_61 rfl (lv_at hl 1 rfl) ?_
    refine lv_iload_n hx hb dX6_poseNow_62 rfl (lv_at hl 2 rfl) ?_
    refine k_ciR (k_runV X w (met_X6_swing l D cI cJ cO ma za aa va ka ta y z (nI k)  H.size) gX6_poseNow_X6_swing rfl rfl rfl 1 hdX6_swing ⟨Nat.le_of_ble_eq_true rfl, Nat.le_of_ble_eq_true rfl⟩ [0, 1] rfl rfl 0 6 rfl rfl rfl rfl hl.1 rfl (Nat.le_of_ble_eq_true rfl) dX6_poseNow_63 ⟨Nat.le_of_ble_eq_true rfl, Nat.le_of_ble_eq_true rfl⟩) w hA [0, 1] rfl (fun H locs w => ?_)
    exact fin _ _ _ _ _ w (by rfl) dX6_poseNow_66
  · refine lv_aload_n hx hb dX6_poseNow_0 rfl (lv_at hl 0 rfl) ?_
    refine lv_iload_n hx hb dX6_poseNow_1 rfl (lv_at hl 1 rfl) ?_
    refine k_ciR (k_runV X w (met_X6_latest l D cI cJ cO ma za aa va ka ta y z len (nI k) hn hn4 s.heap.size) gX6_poseNow_X6_latest rfl rfl rfl 1 hdX6_latest ⟨Nat.le_of_ble_eq_true rfl, Nat.le_of_ble_eq_true rfl⟩ [0, 1] rfl rfl 0 6 rfl rfl rfl rfl hl.1 rfl (Nat.le_of_ble_eq_true rfl) dX6_poseNow_2 ⟨Nat.le_of_ble_eq_true rfl, Nat.le_of_ble_eq_true rfl⟩) w hA [0, 1] rfl (fun H locs w => ?_)
    refine lv_istore_n (lv' := [(3, .int (lat z (nI k) len)), (0, .ref ma), (1, .int (nI k)), (2, .int (nI 2))]) hx hb dX6_poseNow_5 rfl hl (by decide) rfl (fun ls hl => ?_)
    refine lv_iload_n hx hb dX6_poseNow_6 rfl (lv_at hl 3 rfl) ?_
    refine lv_tableIn (off := 60) (tgt := 67) hx hb dX6_poseNow_7 (by decide) (by decide) (by decide) (by decide) ?_
    refine lv_aload_n hx hb dX6_poseNow_67 rfl (lv_at hl 1 rfl) ?_
    refine lv_iload_n hx hb dX6_poseNow_68 rfl (lv_at hl 2 rfl) ?_
    refine k_ciR (k_runV X w (met_X6_rate l D cI cJ cO ma za aa va ka ta y z k hob hk H.size) gX6_poseNow_X6_rate rfl rfl rfl 1 hdX6_rate ⟨Nat.le_of_ble_eq_true rfl, Nat.le_of_ble_eq_true rfl⟩ [0, 1] rfl rfl 0 6 rfl rfl rfl rfl hl.1 rfl (Nat.le_of_ble_eq_true rfl) dX6_poseNow_69 ⟨Nat.le_of_ble_eq_true rfl, Nat.le_of_ble_eq_true rfl⟩) w hA [0, 1] rfl (fun H locs w => ?_)
    refine lv_sipush (v := 10000) hx hb dX6_poseNow_72 (by decide) ?_
    refine lv_iadd hx hb dX6_poseNow_75 ?_
    exact fin _ _ _ _ _ w (by rfl) dX6_poseNow_76
  · refine lv_aload_n hx hb dX6_poseNow_0 rfl (lv_at hl 0 rfl) ?_
    refine lv_iload_n hx hb dX6_poseNow_1 rfl (lv_at hl 1 rfl) ?_
    refine k_ciR (k_runV X w (met_X6_latest l D cI cJ cO ma za aa va ka ta y z len (nI k) hn hn4 s.heap.size) gX6_poseNow_X6_latest rfl rfl rfl 1 hdX6_latest ⟨Nat.le_of_ble_eq_true rfl, Nat.le_of_ble_eq_true rfl⟩ [0, 1] rfl rfl 0 6 rfl rfl rfl rfl hl.1 rfl (Nat.le_of_ble_eq_true rfl) dX6_poseNow_2 ⟨Nat.le_of_ble_eq_true rfl, Nat.le_of_ble_eq_true rfl⟩) w hA [0, 1] rfl (fun H locs w => ?_)
    refine lv_istore_n (lv' := [(3, .int (lat z (nI k) len)), (0, .ref ma), (1, .int (nI k)), (2, .int (nI 3))]) hx hb dX6_poseNow_5 rfl hl (by decide) rfl (fun ls hl => ?_)
    refine lv_iload_n hx hb dX6_poseNow_6 rfl (lv_at hl 3 rfl) ?_
    refine lv_tableIn (off := 70) (tgt := 77) hx hb dX6_poseNow_7 (by decide) (by decide) (by decide) (by decide) ?_
    refine lv_aload_n hx hb dX6_poseNow_77 rfl (lv_at hl 1 rfl) ?_
    refine lv_iload_n hx hb dX6_poseNow_78 rfl (lv_at hl 2 rfl) ?_
    refine k_ciR (k_runV X w (met_X6_beat l D cI cJ cO ma za aa va ka ta y z (nI k)  H.size) gX6_poseNow_X6_beat rfl rfl rfl 1 hdX6_beat ⟨Nat.le_of_ble_eq_true rfl, Nat.le_of_ble_eq_true rfl⟩ [0, 1] rfl rfl 0 6 rfl rfl rfl rfl hl.1 rfl (Nat.le_of_ble_eq_true rfl) dX6_poseNow_79 ⟨Nat.le_of_ble_eq_true rfl, Nat.le_of_ble_eq_true rfl⟩) w hA [0, 1] rfl (fun H locs w => ?_)
    exact fin _ _ _ _ _ w (by rfl) dX6_poseNow_82
  · refine lv_aload_n hx hb dX6_poseNow_0 rfl (lv_at hl 0 rfl) ?_
    refine lv_iload_n hx hb dX6_poseNow_1 rfl (lv_at hl 1 rfl) ?_
    refine k_ciR (k_runV X w (met_X6_latest l D cI cJ cO ma za aa va ka ta y z len (nI k) hn hn4 s.heap.size) gX6_poseNow_X6_latest rfl rfl rfl 1 hdX6_latest ⟨Nat.le_of_ble_eq_true rfl, Nat.le_of_ble_eq_true rfl⟩ [0, 1] rfl rfl 0 6 rfl rfl rfl rfl hl.1 rfl (Nat.le_of_ble_eq_true rfl) dX6_poseNow_2 ⟨Nat.le_of_ble_eq_true rfl, Nat.le_of_ble_eq_true rfl⟩) w hA [0, 1] rfl (fun H locs w => ?_)
    refine lv_istore_n (lv' := [(3, .int (lat z (nI k) len)), (0, .ref ma), (1, .int (nI k)), (2, .int (nI 4))]) hx hb dX6_poseNow_5 rfl hl (by decide) rfl (fun ls hl => ?_)
    refine lv_iload_n hx hb dX6_poseNow_6 rfl (lv_at hl 3 rfl) ?_
    refine lv_tableIn (off := 76) (tgt := 83) hx hb dX6_poseNow_7 (by decide) (by decide) (by decide) (by decide) ?_
    refine lv_aload_n hx hb dX6_poseNow_83 rfl (lv_at hl 1 rfl) ?_
    refine lv_iload_n hx hb dX6_poseNow_84 rfl (lv_at hl 2 rfl) ?_
    refine k_ciR (k_runV X w (met_X6_whyNot l D cI cJ cO ma za aa va ka ta y z len k hob hn hn4 H.size) gX6_poseNow_X6_whyNot rfl rfl rfl 1 hdX6_whyNot ⟨Nat.le_of_ble_eq_true rfl, Nat.le_of_ble_eq_true rfl⟩ [0, 1] rfl rfl 0 6 rfl rfl rfl rfl hl.1 rfl (Nat.le_of_ble_eq_true rfl) dX6_poseNow_85 ⟨Nat.le_of_ble_eq_true rfl, Nat.le_of_ble_eq_true rfl⟩) w hA [0, 1] rfl (fun H locs w => ?_)
    exact fin _ _ _ _ _ w (by rfl) dX6_poseNow_88
  · refine lv_aload_n hx hb dX6_poseNow_0 rfl (lv_at hl 0 rfl) ?_
    refine lv_iload_n hx hb dX6_poseNow_1 rfl (lv_at hl 1 rfl) ?_
    refine k_ciR (k_runV X w (met_X6_latest l D cI cJ cO ma za aa va ka ta y z len (nI k) hn hn4 s.heap.size) gX6_poseNow_X6_latest rfl rfl rfl 1 hdX6_latest ⟨Nat.le_of_ble_eq_true rfl, Nat.le_of_ble_eq_true rfl⟩ [0, 1] rfl rfl 0 6 rfl rfl rfl rfl hl.1 rfl (Nat.le_of_ble_eq_true rfl) dX6_poseNow_2 ⟨Nat.le_of_ble_eq_true rfl, Nat.le_of_ble_eq_true rfl⟩) w hA [0, 1] rfl (fun H locs w => ?_)
    refine lv_istore_n (lv' := [(3, .int (lat z (nI k) len)), (0, .ref ma), (1, .int (nI k)), (2, .int (nI 5))]) hx hb dX6_poseNow_5 rfl hl (by decide) rfl (fun ls hl => ?_)
    refine lv_iload_n hx hb dX6_poseNow_6 rfl (lv_at hl 3 rfl) ?_
    refine lv_tableIn (off := 82) (tgt := 89) hx hb dX6_poseNow_7 (by decide) (by decide) (by decide) (by decide) ?_
    refine lv_iload_n hx hb dX6_poseNow_89 rfl (lv_at hl 0 rfl) ?_
    refine lv_if_ge (tgt := 97) hx hb dX6_poseNow_90 (by decide) (fun c1 => ?_) (fun c1 => ?_)
    · have c1 := lat_ge c1
      obtain ⟨ej, hj, hj2⟩ := lat_j c1
      rw [ej] at hl
      refine lv_aload_n hx hb dX6_poseNow_97 rfl (lv_at hl 1 rfl) ?_
      refine lv_iload_n hx hb dX6_poseNow_98 rfl (lv_at hl 0 rfl) ?_
      refine lv_iconst (v := 0) hx hb dX6_poseNow_99 (by decide) ?_
      refine k_ciR (k_runV X w (met_X6_of l D cI cJ cO ma za aa va ka ta y z (latj z (nI k) len) 0 (by first | assumption | omega) (by first | assumption | omega) H.size) gX6_poseNow_X6_of rfl rfl rfl 2 hdX6_of ⟨Nat.le_of_ble_eq_true rfl, Nat.le_of_ble_eq_true rfl⟩ [0, 1] rfl rfl 0 6 rfl rfl rfl rfl hl.1 rfl (Nat.le_of_ble_eq_true rfl) dX6_poseNow_100 ⟨Nat.le_of_ble_eq_true rfl, Nat.le_of_ble_eq_true rfl⟩) w hA [0, 1] rfl (fun H locs w => ?_)
      exact fin _ _ _ _ _ w (by rw [pnum, if_neg c1]; rfl) dX6_poseNow_103
    · have c1 := lat_lt hn4 c1
      refine lv_iconst (v := (-1)) hx hb dX6_poseNow_93 (by decide) ?_
      refine lv_goto (tgt := 103) hx hb dX6_poseNow_94 (by decide) ?_
      exact fin _ _ _ _ _ w (by rw [pnum, if_pos c1]) dX6_poseNow_103
  · refine lv_aload_n hx hb dX6_poseNow_0 rfl (lv_at hl 0 rfl) ?_
    refine lv_iload_n hx hb dX6_poseNow_1 rfl (lv_at hl 1 rfl) ?_
    refine k_ciR (k_runV X w (met_X6_latest l D cI cJ cO ma za aa va ka ta y z len (nI k) hn hn4 s.heap.size) gX6_poseNow_X6_latest rfl rfl rfl 1 hdX6_latest ⟨Nat.le_of_ble_eq_true rfl, Nat.le_of_ble_eq_true rfl⟩ [0, 1] rfl rfl 0 6 rfl rfl rfl rfl hl.1 rfl (Nat.le_of_ble_eq_true rfl) dX6_poseNow_2 ⟨Nat.le_of_ble_eq_true rfl, Nat.le_of_ble_eq_true rfl⟩) w hA [0, 1] rfl (fun H locs w => ?_)
    refine lv_istore_n (lv' := [(3, .int (lat z (nI k) len)), (0, .ref ma), (1, .int (nI k)), (2, .int (nI 6))]) hx hb dX6_poseNow_5 rfl hl (by decide) rfl (fun ls hl => ?_)
    refine lv_iload_n hx hb dX6_poseNow_6 rfl (lv_at hl 3 rfl) ?_
    refine lv_tableIn (off := 97) (tgt := 104) hx hb dX6_poseNow_7 (by decide) (by decide) (by decide) (by decide) ?_
    refine lv_iload_n hx hb dX6_poseNow_104 rfl (lv_at hl 0 rfl) ?_
    refine lv_if_ge (tgt := 112) hx hb dX6_poseNow_105 (by decide) (fun c2 => ?_) (fun c2 => ?_)
    · have c2 := lat_ge c2
      obtain ⟨ej, hj, hj2⟩ := lat_j c2
      rw [ej] at hl
      refine lv_aload_n hx hb dX6_poseNow_112 rfl (lv_at hl 1 rfl) ?_
      refine lv_iload_n hx hb dX6_poseNow_113 rfl (lv_at hl 0 rfl) ?_
      refine lv_iconst (v := 2) hx hb dX6_poseNow_114 (by decide) ?_
      refine k_ciR (k_runV X w (met_X6_of l D cI cJ cO ma za aa va ka ta y z (latj z (nI k) len) 2 (by first | assumption | omega) (by first | assumption | omega) H.size) gX6_poseNow_X6_of rfl rfl rfl 2 hdX6_of ⟨Nat.le_of_ble_eq_true rfl, Nat.le_of_ble_eq_true rfl⟩ [0, 1] rfl rfl 0 6 rfl rfl rfl rfl hl.1 rfl (Nat.le_of_ble_eq_true rfl) dX6_poseNow_115 ⟨Nat.le_of_ble_eq_true rfl, Nat.le_of_ble_eq_true rfl⟩) w hA [0, 1] rfl (fun H locs w => ?_)
      refine lv_sipush (v := 10000) hx hb dX6_poseNow_118 (by decide) ?_
      refine lv_iadd hx hb dX6_poseNow_121 ?_
      exact fin _ _ _ _ _ w (by rw [pnum, if_neg c2]; rfl) dX6_poseNow_122
    · have c2 := lat_lt hn4 c2
      refine lv_iconst (v := (-1)) hx hb dX6_poseNow_108 (by decide) ?_
      refine lv_goto (tgt := 122) hx hb dX6_poseNow_109 (by decide) ?_
      exact fin _ _ _ _ _ w (by rw [pnum, if_pos c2]) dX6_poseNow_122
  · refine lv_aload_n hx hb dX6_poseNow_0 rfl (lv_at hl 0 rfl) ?_
    refine lv_iload_n hx hb dX6_poseNow_1 rfl (lv_at hl 1 rfl) ?_
    refine k_ciR (k_runV X w (met_X6_latest l D cI cJ cO ma za aa va ka ta y z len (nI k) hn hn4 s.heap.size) gX6_poseNow_X6_latest rfl rfl rfl 1 hdX6_latest ⟨Nat.le_of_ble_eq_true rfl, Nat.le_of_ble_eq_true rfl⟩ [0, 1] rfl rfl 0 6 rfl rfl rfl rfl hl.1 rfl (Nat.le_of_ble_eq_true rfl) dX6_poseNow_2 ⟨Nat.le_of_ble_eq_true rfl, Nat.le_of_ble_eq_true rfl⟩) w hA [0, 1] rfl (fun H locs w => ?_)
    refine lv_istore_n (lv' := [(3, .int (lat z (nI k) len)), (0, .ref ma), (1, .int (nI k)), (2, .int (nI 7))]) hx hb dX6_poseNow_5 rfl hl (by decide) rfl (fun ls hl => ?_)
    refine lv_iload_n hx hb dX6_poseNow_6 rfl (lv_at hl 3 rfl) ?_
    refine lv_tableOut (tgt := 123) hx hb dX6_poseNow_7 (by decide) (by decide) ?_
    refine lv_aload_n hx hb dX6_poseNow_123 rfl (lv_at hl 1 rfl) ?_
    refine lv_iload_n hx hb dX6_poseNow_124 rfl (lv_at hl 2 rfl) ?_
    refine k_ciR (k_runV X w (met_X6_readingsIn l D cI cJ cO ma za aa va ka ta y z len (nI k) hn hn4 H.size) gX6_poseNow_X6_readingsIn rfl rfl rfl 1 hdX6_readingsIn ⟨Nat.le_of_ble_eq_true rfl, Nat.le_of_ble_eq_true rfl⟩ [0, 1] rfl rfl 0 6 rfl rfl rfl rfl hl.1 rfl (Nat.le_of_ble_eq_true rfl) dX6_poseNow_125 ⟨Nat.le_of_ble_eq_true rfl, Nat.le_of_ble_eq_true rfl⟩) w hA [0, 1] rfl (fun H locs w => ?_)
    exact fin _ _ _ _ _ w (by rfl) dX6_poseNow_128
theorem hdX6_pose : yX6_pose.cls = RX6 ∧ yX6_pose.cls ≠ "java/lang/invoke/MethodHandle" ∧ yX6_pose.cls ≠ "java/lang/invoke/VarHandle" ∧ (parseMethodDescriptor yX6_pose.desc).map (fun d => d.parameters.length) = some 2 := ⟨rfl, by decide, by decide, by decide +kernel⟩
theorem iX6_pose_X6 : ∀ w ∈ wsX60, w ∈ wsX6_pose := fun _ h => List.mem_cons_of_mem _ (List.mem_append_right _ h)
set_option maxHeartbeats 4000000 in
set_option maxRecDepth 100000 in
theorem met_X6_pose (l : Launch) (D : va_G) (cI cJ cO : ClassId) (ma : Nat) (za : Nat) (aa : Nat) (va : Nat) (ka : Nat) (ta : Nat) (y : Nat → Int32) (z : Nat → Int32) (len : Nat) (k : Nat) (wh : Nat) (hob : okb z) (hk : k < 6) (hn : z 10 = nI len) (hn4 : len ≤ 40) (hw : wh < 8) : CI l D (TY cI cJ cO) yX6_pose wsX6_pose ({ frames := 4, cells := 0, slots := 0, locals := 85 }) [.ref ma, .int (nI k), .int (nI wh)] [oM ma za aa va ka ta y, aI cI za 225 0 z] (pnum z len k wh) [oM ma za aa va ka ta (upd y 0 0), aI cI za 225 0 z] := by
  refine CI.of (plainFor_of_name (by decide)) rfl (Nat.le_of_ble_eq_true rfl) (rfl) (fun p e s m below meth c A ls Q X hA w hl fin => ?_)
  obtain ⟨hx, hb, hml, hown, hts⟩ := id X.1
  have hl : lv_has ls 3 [(0, .ref ma), (1, .int (nI k)), (2, .int (nI wh))] := hl
  refine lv_aload_n hx hb dX6_pose_0 rfl (lv_at hl 0 rfl) ?_
  refine lv_iload_n hx hb dX6_pose_1 rfl (lv_at hl 1 rfl) ?_
  refine k_ciR (k_runS X w (met_X6_isPose l D cI cJ cO (nI k)  s.heap.size) gX6_pose_X6_isPose rfl rfl rfl 1 hdX6_isPose ⟨Nat.le_of_ble_eq_true rfl, Nat.le_of_ble_eq_true rfl⟩ [] rfl rfl rfl hl.1 rfl (Nat.le_of_ble_eq_true rfl) dX6_pose_2 ⟨Nat.le_of_ble_eq_true rfl, Nat.le_of_ble_eq_true rfl⟩) w hA [] rfl (fun H locs w => ?_)
  refine lv_if_ne (tgt := 12) hx hb dX6_pose_5 (by decide) (fun c1 => ?_) (fun c1 => absurd c1 (in5 hk))
  refine lv_iload_n hx hb dX6_pose_12 rfl (lv_at hl 2 rfl) ?_
  refine lv_iconst (v := 0) hx hb dX6_pose_13 (by decide) ?_
  refine lv_bipush (v := 7) hx hb dX6_pose_14 (by decide) ?_
  refine k_ciR (k_runS X w (met_X6_in l D cI cJ cO (nI wh) 0 7  H.size) gX6_pose_X6_in rfl rfl rfl 3 hdX6_in ⟨Nat.le_of_ble_eq_true rfl, Nat.le_of_ble_eq_true rfl⟩ [] rfl rfl rfl hl.1 rfl (Nat.le_of_ble_eq_true rfl) dX6_pose_16 ⟨Nat.le_of_ble_eq_true rfl, Nat.le_of_ble_eq_true rfl⟩) w hA [] rfl (fun H locs w => ?_)
  refine lv_if_eq (tgt := 26) hx hb dX6_pose_19 (by decide) (fun c2 => absurd c2 (inB_y (in_07 hw))) (fun c2 => ?_)
  refine lv_iconst (v := 0) hx hb dX6_pose_22 (by decide) ?_
  refine lv_goto (tgt := 27) hx hb dX6_pose_23 (by decide) ?_
  refine k_put X w 0 rfl rfl 0 (by decide) rfl iX6_pose_X6 (List.mem_of_getElem? (i := 1) rfl) tyX6_ok nmX6 rfl rfl (Nat.le_of_ble_eq_true rfl) (ws2 := [oM ma za aa va ka ta (upd y 0 0), aI cI za 225 0 z]) rfl dX6_pose_27 (fun H locs w => ?_)
  refine lv_aload_n hx hb dX6_pose_30 rfl (lv_at hl 0 rfl) ?_
  refine k_get X w 0 rfl rfl 0 (by decide) rfl iX6_pose_X6 (List.mem_of_getElem? (i := 1) rfl) (v := .int 0) (congrArg (fun t => some (Value.int t)) (upd_is _ _ _)) dX6_pose_31 ?_
  refine lv_if_le (tgt := 41) hx hb dX6_pose_34 (by decide) (fun c3 => ?_) (fun c3 => absurd c3 (by decide))
  refine lv_aload_n hx hb dX6_pose_41 rfl (lv_at hl 0 rfl) ?_
  refine lv_iload_n hx hb dX6_pose_42 rfl (lv_at hl 1 rfl) ?_
  refine lv_iload_n hx hb dX6_pose_43 rfl (lv_at hl 2 rfl) ?_
  refine k_ciR (k_runV X w (met_X6_poseNow l D cI cJ cO ma za aa va ka ta (upd y 0 0) z len k wh hob hk hn hn4 hw H.size) gX6_pose_X6_poseNow rfl rfl rfl 2 hdX6_poseNow ⟨Nat.le_of_ble_eq_true rfl, Nat.le_of_ble_eq_true rfl⟩ [0, 1] rfl rfl 0 6 rfl rfl rfl rfl hl.1 rfl (Nat.le_of_ble_eq_true rfl) dX6_pose_44 ⟨Nat.le_of_ble_eq_true rfl, Nat.le_of_ble_eq_true rfl⟩) w hA [0, 1] rfl (fun H locs w => ?_)
  exact fin _ _ _ _ _ w rfl dX6_pose_47
set_option maxHeartbeats 4000000 in
set_option maxRecDepth 100000 in
theorem met_X6_pose_t1 (l : Launch) (D : va_G) (cI cJ cO : ClassId) (ma : Nat) (za : Nat) (aa : Nat) (va : Nat) (ka : Nat) (ta : Nat) (y : Nat → Int32) (x : Int32) (u : Int32) (hin : ¬ inR x 0 5) : CI l D (TY cI cJ cO) yX6_pose wsX6_pose ({ frames := 2, cells := 0, slots := 0, locals := 42 }) [.ref ma, .int x, .int u] [oM ma za aa va ka ta y] 0 [oM ma za aa va ka ta (upd y 0 1)] := by
  refine CI.of (plainFor_of_name (by decide)) rfl (Nat.le_of_ble_eq_true rfl) (rfl) (fun p e s m below meth c A ls Q X hA w hl fin => ?_)
  obtain ⟨hx, hb, hml, hown, hts⟩ := id X.1
  have hl : lv_has ls 3 [(0, .ref ma), (1, .int x), (2, .int u)] := hl
  refine lv_aload_n hx hb dX6_pose_0 rfl (lv_at hl 0 rfl) ?_
  refine lv_iload_n hx hb dX6_pose_1 rfl (lv_at hl 1 rfl) ?_
  refine k_ciR (k_runS X w (met_X6_isPose l D cI cJ cO x  s.heap.size) gX6_pose_X6_isPose rfl rfl rfl 1 hdX6_isPose ⟨Nat.le_of_ble_eq_true rfl, Nat.le_of_ble_eq_true rfl⟩ [] rfl rfl rfl hl.1 rfl (Nat.le_of_ble_eq_true rfl) dX6_pose_2 ⟨Nat.le_of_ble_eq_true rfl, Nat.le_of_ble_eq_true rfl⟩) w hA [] rfl (fun H locs w => ?_)
  refine lv_if_ne (tgt := 12) hx hb dX6_pose_5 (by decide) (fun c1 => absurd (inB_n hin) c1) (fun c1 => ?_)
  refine lv_iconst (v := 1) hx hb dX6_pose_8 (by decide) ?_
  refine lv_goto (tgt := 27) hx hb dX6_pose_9 (by decide) ?_
  refine k_put X w 0 rfl rfl 0 (by decide) rfl iX6_pose_X6 (List.mem_of_getElem? (i := 1) rfl) tyX6_ok nmX6 rfl rfl (Nat.le_of_ble_eq_true rfl) (ws2 := [oM ma za aa va ka ta (upd y 0 1)]) rfl dX6_pose_27 (fun H locs w => ?_)
  refine lv_aload_n hx hb dX6_pose_30 rfl (lv_at hl 0 rfl) ?_
  refine k_get X w 0 rfl rfl 0 (by decide) rfl iX6_pose_X6 (List.mem_of_getElem? (i := 1) rfl) (v := .int 1) (congrArg (fun t => some (Value.int t)) (upd_is _ _ _)) dX6_pose_31 ?_
  refine lv_if_le (tgt := 41) hx hb dX6_pose_34 (by decide) (fun c2 => absurd c2 (by decide)) (fun c2 => ?_)
  refine lv_iconst (v := 0) hx hb dX6_pose_37 (by decide) ?_
  refine lv_goto (tgt := 47) hx hb dX6_pose_38 (by decide) ?_
  exact fin _ _ _ _ _ w rfl dX6_pose_47
set_option maxHeartbeats 4000000 in
set_option maxRecDepth 100000 in
theorem met_X6_pose_t2 (l : Launch) (D : va_G) (cI cJ cO : ClassId) (ma : Nat) (za : Nat) (aa : Nat) (va : Nat) (ka : Nat) (ta : Nat) (y : Nat → Int32) (k : Nat) (u : Int32) (hk : k < 6) (hin : ¬ inR u 0 7) : CI l D (TY cI cJ cO) yX6_pose wsX6_pose ({ frames := 2, cells := 0, slots := 0, locals := 42 }) [.ref ma, .int (nI k), .int u] [oM ma za aa va ka ta y] 0 [oM ma za aa va ka ta (upd y 0 2)] := by
  refine CI.of (plainFor_of_name (by decide)) rfl (Nat.le_of_ble_eq_true rfl) (rfl) (fun p e s m below meth c A ls Q X hA w hl fin => ?_)
  obtain ⟨hx, hb, hml, hown, hts⟩ := id X.1
  have hl : lv_has ls 3 [(0, .ref ma), (1, .int (nI k)), (2, .int u)] := hl
  refine lv_aload_n hx hb dX6_pose_0 rfl (lv_at hl 0 rfl) ?_
  refine lv_iload_n hx hb dX6_pose_1 rfl (lv_at hl 1 rfl) ?_
  refine k_ciR (k_runS X w (met_X6_isPose l D cI cJ cO (nI k)  s.heap.size) gX6_pose_X6_isPose rfl rfl rfl 1 hdX6_isPose ⟨Nat.le_of_ble_eq_true rfl, Nat.le_of_ble_eq_true rfl⟩ [] rfl rfl rfl hl.1 rfl (Nat.le_of_ble_eq_true rfl) dX6_pose_2 ⟨Nat.le_of_ble_eq_true rfl, Nat.le_of_ble_eq_true rfl⟩) w hA [] rfl (fun H locs w => ?_)
  refine lv_if_ne (tgt := 12) hx hb dX6_pose_5 (by decide) (fun c1 => ?_) (fun c1 => absurd c1 (in5 hk))
  refine lv_iload_n hx hb dX6_pose_12 rfl (lv_at hl 2 rfl) ?_
  refine lv_iconst (v := 0) hx hb dX6_pose_13 (by decide) ?_
  refine lv_bipush (v := 7) hx hb dX6_pose_14 (by decide) ?_
  refine k_ciR (k_runS X w (met_X6_in l D cI cJ cO u 0 7  H.size) gX6_pose_X6_in rfl rfl rfl 3 hdX6_in ⟨Nat.le_of_ble_eq_true rfl, Nat.le_of_ble_eq_true rfl⟩ [] rfl rfl rfl hl.1 rfl (Nat.le_of_ble_eq_true rfl) dX6_pose_16 ⟨Nat.le_of_ble_eq_true rfl, Nat.le_of_ble_eq_true rfl⟩) w hA [] rfl (fun H locs w => ?_)
  refine lv_if_eq (tgt := 26) hx hb dX6_pose_19 (by decide) (fun c2 => ?_) (fun c2 => absurd (inB_n hin) c2)
  refine lv_iconst (v := 2) hx hb dX6_pose_26 (by decide) ?_
  refine k_put X w 0 rfl rfl 0 (by decide) rfl iX6_pose_X6 (List.mem_of_getElem? (i := 1) rfl) tyX6_ok nmX6 rfl rfl (Nat.le_of_ble_eq_true rfl) (ws2 := [oM ma za aa va ka ta (upd y 0 2)]) rfl dX6_pose_27 (fun H locs w => ?_)
  refine lv_aload_n hx hb dX6_pose_30 rfl (lv_at hl 0 rfl) ?_
  refine k_get X w 0 rfl rfl 0 (by decide) rfl iX6_pose_X6 (List.mem_of_getElem? (i := 1) rfl) (v := .int 2) (congrArg (fun t => some (Value.int t)) (upd_is _ _ _)) dX6_pose_31 ?_
  refine lv_if_le (tgt := 41) hx hb dX6_pose_34 (by decide) (fun c3 => absurd c3 (by decide)) (fun c3 => ?_)
  refine lv_iconst (v := 0) hx hb dX6_pose_37 (by decide) ?_
  refine lv_goto (tgt := 47) hx hb dX6_pose_38 (by decide) ?_
  exact fin _ _ _ _ _ w rfl dX6_pose_47
theorem hdX6_readingNow : yX6_readingNow.cls = RX6 ∧ yX6_readingNow.cls ≠ "java/lang/invoke/MethodHandle" ∧ yX6_readingNow.cls ≠ "java/lang/invoke/VarHandle" ∧ (parseMethodDescriptor yX6_readingNow.desc).map (fun d => d.parameters.length) = some 2 := ⟨rfl, by decide, by decide, by decide +kernel⟩
set_option maxHeartbeats 4000000 in
set_option maxRecDepth 100000 in
theorem met_X6_readingNow (l : Launch) (D : va_G) (cI cJ cO : ClassId) (ma : Nat) (za : Nat) (aa : Nat) (va : Nat) (ka : Nat) (ta : Nat) (y : Nat → Int32) (z : Nat → Int32) (i : Nat) (wh : Nat) (hi : i < 40) (hw : wh < 5) : CI l D (TY cI cJ cO) yX6_readingNow wsX6_readingNow ({ frames := 1, cells := 0, slots := 0, locals := 22 }) [.ref ma, .int (nI i), .int (nI wh)] [oM ma za aa va ka ta y, aI cI za 225 0 z] (rnw z i wh) [oM ma za aa va ka ta y, aI cI za 225 0 z] := by
  refine CI.of (plainFor_of_name (by decide)) rfl (Nat.le_of_ble_eq_true rfl) (rfl) (fun p e s m below meth c A ls Q X hA w hl fin => ?_)
  obtain ⟨hx, hb, hml, hown, hts⟩ := id X.1
  have hl : lv_has ls 3 [(0, .ref ma), (1, .int (nI i)), (2, .int (nI wh))] := hl
  rcases (show wh = 0 ∨ wh = 1 ∨ wh = 2 ∨ wh = 3 ∨ wh = 4 by omega) with rfl | rfl | rfl | rfl | rfl
  · refine lv_aload_n hx hb dX6_readingNow_0 rfl (lv_at hl 0 rfl) ?_
    refine lv_iload_n hx hb dX6_readingNow_1 rfl (lv_at hl 1 rfl) ?_
    refine lv_iload_n hx hb dX6_readingNow_2 rfl (lv_at hl 2 rfl) ?_
    refine k_ciR (k_runV X w (met_X6_of l D cI cJ cO ma za aa va ka ta y z i 0 (by first | assumption | omega) (by first | assumption | omega) s.heap.size) gX6_readingNow_X6_of rfl rfl rfl 2 hdX6_of ⟨Nat.le_of_ble_eq_true rfl, Nat.le_of_ble_eq_true rfl⟩ [0, 1] rfl rfl 0 6 rfl rfl rfl rfl hl.1 rfl (Nat.le_of_ble_eq_true rfl) dX6_readingNow_3 ⟨Nat.le_of_ble_eq_true rfl, Nat.le_of_ble_eq_true rfl⟩) w hA [0, 1] rfl (fun H locs w => ?_)
    refine lv_iload_n hx hb dX6_readingNow_6 rfl (lv_at hl 2 rfl) ?_
    refine lv_iconst (v := 2) hx hb dX6_readingNow_7 (by decide) ?_
    refine lv_icmp_ne (tgt := 17) hx hb dX6_readingNow_8 (by decide) (fun c1 => ?_) (fun c1 => absurd c1 (by decide))
    refine lv_iconst (v := 0) hx hb dX6_readingNow_17 (by decide) ?_
    refine lv_iadd hx hb dX6_readingNow_18 ?_
    exact fin _ _ _ _ _ w (by rw [add_z]; rfl) dX6_readingNow_19
  · refine lv_aload_n hx hb dX6_readingNow_0 rfl (lv_at hl 0 rfl) ?_
    refine lv_iload_n hx hb dX6_readingNow_1 rfl (lv_at hl 1 rfl) ?_
    refine lv_iload_n hx hb dX6_readingNow_2 rfl (lv_at hl 2 rfl) ?_
    refine k_ciR (k_runV X w (met_X6_of l D cI cJ cO ma za aa va ka ta y z i 1 (by first | assumption | omega) (by first | assumption | omega) s.heap.size) gX6_readingNow_X6_of rfl rfl rfl 2 hdX6_of ⟨Nat.le_of_ble_eq_true rfl, Nat.le_of_ble_eq_true rfl⟩ [0, 1] rfl rfl 0 6 rfl rfl rfl rfl hl.1 rfl (Nat.le_of_ble_eq_true rfl) dX6_readingNow_3 ⟨Nat.le_of_ble_eq_true rfl, Nat.le_of_ble_eq_true rfl⟩) w hA [0, 1] rfl (fun H locs w => ?_)
    refine lv_iload_n hx hb dX6_readingNow_6 rfl (lv_at hl 2 rfl) ?_
    refine lv_iconst (v := 2) hx hb dX6_readingNow_7 (by decide) ?_
    refine lv_icmp_ne (tgt := 17) hx hb dX6_readingNow_8 (by decide) (fun c2 => ?_) (fun c2 => absurd c2 (by decide))
    refine lv_iconst (v := 0) hx hb dX6_readingNow_17 (by decide) ?_
    refine lv_iadd hx hb dX6_readingNow_18 ?_
    exact fin _ _ _ _ _ w (by rw [add_z]; rfl) dX6_readingNow_19
  · refine lv_aload_n hx hb dX6_readingNow_0 rfl (lv_at hl 0 rfl) ?_
    refine lv_iload_n hx hb dX6_readingNow_1 rfl (lv_at hl 1 rfl) ?_
    refine lv_iload_n hx hb dX6_readingNow_2 rfl (lv_at hl 2 rfl) ?_
    refine k_ciR (k_runV X w (met_X6_of l D cI cJ cO ma za aa va ka ta y z i 2 (by first | assumption | omega) (by first | assumption | omega) s.heap.size) gX6_readingNow_X6_of rfl rfl rfl 2 hdX6_of ⟨Nat.le_of_ble_eq_true rfl, Nat.le_of_ble_eq_true rfl⟩ [0, 1] rfl rfl 0 6 rfl rfl rfl rfl hl.1 rfl (Nat.le_of_ble_eq_true rfl) dX6_readingNow_3 ⟨Nat.le_of_ble_eq_true rfl, Nat.le_of_ble_eq_true rfl⟩) w hA [0, 1] rfl (fun H locs w => ?_)
    refine lv_iload_n hx hb dX6_readingNow_6 rfl (lv_at hl 2 rfl) ?_
    refine lv_iconst (v := 2) hx hb dX6_readingNow_7 (by decide) ?_
    refine lv_icmp_ne (tgt := 17) hx hb dX6_readingNow_8 (by decide) (fun c3 => absurd c3 (by decide)) (fun c3 => ?_)
    refine lv_sipush (v := 10000) hx hb dX6_readingNow_11 (by decide) ?_
    refine lv_goto (tgt := 18) hx hb dX6_readingNow_14 (by decide) ?_
    refine lv_iadd hx hb dX6_readingNow_18 ?_
    exact fin _ _ _ _ _ w (by rfl) dX6_readingNow_19
  · refine lv_aload_n hx hb dX6_readingNow_0 rfl (lv_at hl 0 rfl) ?_
    refine lv_iload_n hx hb dX6_readingNow_1 rfl (lv_at hl 1 rfl) ?_
    refine lv_iload_n hx hb dX6_readingNow_2 rfl (lv_at hl 2 rfl) ?_
    refine k_ciR (k_runV X w (met_X6_of l D cI cJ cO ma za aa va ka ta y z i 3 (by first | assumption | omega) (by first | assumption | omega) s.heap.size) gX6_readingNow_X6_of rfl rfl rfl 2 hdX6_of ⟨Nat.le_of_ble_eq_true rfl, Nat.le_of_ble_eq_true rfl⟩ [0, 1] rfl rfl 0 6 rfl rfl rfl rfl hl.1 rfl (Nat.le_of_ble_eq_true rfl) dX6_readingNow_3 ⟨Nat.le_of_ble_eq_true rfl, Nat.le_of_ble_eq_true rfl⟩) w hA [0, 1] rfl (fun H locs w => ?_)
    refine lv_iload_n hx hb dX6_readingNow_6 rfl (lv_at hl 2 rfl) ?_
    refine lv_iconst (v := 2) hx hb dX6_readingNow_7 (by decide) ?_
    refine lv_icmp_ne (tgt := 17) hx hb dX6_readingNow_8 (by decide) (fun c4 => ?_) (fun c4 => absurd c4 (by decide))
    refine lv_iconst (v := 0) hx hb dX6_readingNow_17 (by decide) ?_
    refine lv_iadd hx hb dX6_readingNow_18 ?_
    exact fin _ _ _ _ _ w (by rw [add_z]; rfl) dX6_readingNow_19
  · refine lv_aload_n hx hb dX6_readingNow_0 rfl (lv_at hl 0 rfl) ?_
    refine lv_iload_n hx hb dX6_readingNow_1 rfl (lv_at hl 1 rfl) ?_
    refine lv_iload_n hx hb dX6_readingNow_2 rfl (lv_at hl 2 rfl) ?_
    refine k_ciR (k_runV X w (met_X6_of l D cI cJ cO ma za aa va ka ta y z i 4 (by first | assumption | omega) (by first | assumption | omega) s.heap.size) gX6_readingNow_X6_of rfl rfl rfl 2 hdX6_of ⟨Nat.le_of_ble_eq_true rfl, Nat.le_of_ble_eq_true rfl⟩ [0, 1] rfl rfl 0 6 rfl rfl rfl rfl hl.1 rfl (Nat.le_of_ble_eq_true rfl) dX6_readingNow_3 ⟨Nat.le_of_ble_eq_true rfl, Nat.le_of_ble_eq_true rfl⟩) w hA [0, 1] rfl (fun H locs w => ?_)
    refine lv_iload_n hx hb dX6_readingNow_6 rfl (lv_at hl 2 rfl) ?_
    refine lv_iconst (v := 2) hx hb dX6_readingNow_7 (by decide) ?_
    refine lv_icmp_ne (tgt := 17) hx hb dX6_readingNow_8 (by decide) (fun c5 => ?_) (fun c5 => absurd c5 (by decide))
    refine lv_iconst (v := 0) hx hb dX6_readingNow_17 (by decide) ?_
    refine lv_iadd hx hb dX6_readingNow_18 ?_
    exact fin _ _ _ _ _ w (by rw [add_z]; rfl) dX6_readingNow_19
theorem hdX6_reading : yX6_reading.cls = RX6 ∧ yX6_reading.cls ≠ "java/lang/invoke/MethodHandle" ∧ yX6_reading.cls ≠ "java/lang/invoke/VarHandle" ∧ (parseMethodDescriptor yX6_reading.desc).map (fun d => d.parameters.length) = some 2 := ⟨rfl, by decide, by decide, by decide +kernel⟩
theorem iX6_reading_X6 : ∀ w ∈ wsX60, w ∈ wsX6_reading := fun _ h => List.mem_cons_of_mem _ (List.mem_append_right _ h)
set_option maxHeartbeats 4000000 in
set_option maxRecDepth 100000 in
theorem met_X6_reading (l : Launch) (D : va_G) (cI cJ cO : ClassId) (ma : Nat) (za : Nat) (aa : Nat) (va : Nat) (ka : Nat) (ta : Nat) (y : Nat → Int32) (z : Nat → Int32) (len : Nat) (i : Nat) (wh : Nat) (hi : i < 2 ^ 31) (hn : z 10 = nI len) (hn4 : len ≤ 40) (hw : wh < 5) : CI l D (TY cI cJ cO) yX6_reading wsX6_reading ({ frames := 2, cells := 0, slots := 0, locals := 44 }) [.ref ma, .int (nI i), .int (nI wh)] [oM ma za aa va ka ta y, aI cI za 225 0 z] (rnum z len i wh) [oM ma za aa va ka ta (upd y 0 0), aI cI za 225 0 z] := by
  refine CI.of (plainFor_of_name (by decide)) rfl (Nat.le_of_ble_eq_true rfl) (rfl) (fun p e s m below meth c A ls Q X hA w hl fin => ?_)
  obtain ⟨hx, hb, hml, hown, hts⟩ := id X.1
  have hl : lv_has ls 3 [(0, .ref ma), (1, .int (nI i)), (2, .int (nI wh))] := hl
  refine lv_aload_n hx hb dX6_reading_0 rfl (lv_at hl 0 rfl) ?_
  refine lv_iload_n hx hb dX6_reading_1 rfl (lv_at hl 1 rfl) ?_
  refine lv_if_lt (tgt := 18) hx hb dX6_reading_2 (by decide) (fun c1 => absurd c1 (nI_pos hi)) (fun c1 => ?_)
  refine lv_iload_n hx hb dX6_reading_5 rfl (lv_at hl 2 rfl) ?_
  refine lv_iconst (v := 0) hx hb dX6_reading_6 (by decide) ?_
  refine lv_iconst (v := 4) hx hb dX6_reading_7 (by decide) ?_
  refine k_ciR (k_runS X w (met_X6_in l D cI cJ cO (nI wh) 0 4  s.heap.size) gX6_reading_X6_in rfl rfl rfl 3 hdX6_in ⟨Nat.le_of_ble_eq_true rfl, Nat.le_of_ble_eq_true rfl⟩ [] rfl rfl rfl hl.1 rfl (Nat.le_of_ble_eq_true rfl) dX6_reading_8 ⟨Nat.le_of_ble_eq_true rfl, Nat.le_of_ble_eq_true rfl⟩) w hA [] rfl (fun H locs w => ?_)
  refine lv_if_eq (tgt := 18) hx hb dX6_reading_11 (by decide) (fun c2 => absurd c2 (inB_y (in_04 hw))) (fun c2 => ?_)
  refine lv_iconst (v := 0) hx hb dX6_reading_14 (by decide) ?_
  refine lv_goto (tgt := 19) hx hb dX6_reading_15 (by decide) ?_
  refine k_put X w 0 rfl rfl 0 (by decide) rfl iX6_reading_X6 (List.mem_of_getElem? (i := 1) rfl) tyX6_ok nmX6 rfl rfl (Nat.le_of_ble_eq_true rfl) (ws2 := [oM ma za aa va ka ta (upd y 0 0), aI cI za 225 0 z]) rfl dX6_reading_19 (fun H locs w => ?_)
  refine lv_aload_n hx hb dX6_reading_22 rfl (lv_at hl 0 rfl) ?_
  refine k_get X w 0 rfl rfl 0 (by decide) rfl iX6_reading_X6 (List.mem_of_getElem? (i := 1) rfl) (v := .int 0) (congrArg (fun t => some (Value.int t)) (upd_is _ _ _)) dX6_reading_23 ?_
  refine lv_if_le (tgt := 31) hx hb dX6_reading_26 (by decide) (fun c3 => ?_) (fun c3 => absurd c3 (by decide))
  refine lv_iload_n hx hb dX6_reading_31 rfl (lv_at hl 1 rfl) ?_
  refine lv_aload_n hx hb dX6_reading_32 rfl (lv_at hl 0 rfl) ?_
  refine k_get X w 0 rfl rfl 1 (by decide) rfl iX6_reading_X6 (List.mem_of_getElem? (i := 2) rfl) (v := .ref za) rfl dX6_reading_33 ?_
  refine lv_bipush (v := 10) hx hb dX6_reading_36 (by decide) ?_
  refine k_iald X w 1 0 rfl rfl 10 (kj := 10) rfl (by decide) (by decide) rfl (v := nI len) hn dX6_reading_38 ?_
  refine lv_icmp_ge (tgt := 51) hx hb dX6_reading_39 (by decide) (fun c4 => ?_) (fun c4 => ?_)
  · refine lv_iconst (v := (-1)) hx hb dX6_reading_51 (by decide) ?_
    exact fin _ _ _ _ _ w (by rw [rnum, if_neg (fun h => nI_ge h (by omega) c4)]) dX6_reading_52
  · have hil : i < len := Nat.lt_of_not_le (fun h => c4 (nI_le h hi))
    refine lv_aload_n hx hb dX6_reading_42 rfl (lv_at hl 0 rfl) ?_
    refine lv_iload_n hx hb dX6_reading_43 rfl (lv_at hl 1 rfl) ?_
    refine lv_iload_n hx hb dX6_reading_44 rfl (lv_at hl 2 rfl) ?_
    refine k_ciR (k_runV X w (met_X6_readingNow l D cI cJ cO ma za aa va ka ta (upd y 0 0) z i wh (by first | assumption | omega) (by first | assumption | omega) H.size) gX6_reading_X6_readingNow rfl rfl rfl 2 hdX6_readingNow ⟨Nat.le_of_ble_eq_true rfl, Nat.le_of_ble_eq_true rfl⟩ [0, 1] rfl rfl 0 6 rfl rfl rfl rfl hl.1 rfl (Nat.le_of_ble_eq_true rfl) dX6_reading_45 ⟨Nat.le_of_ble_eq_true rfl, Nat.le_of_ble_eq_true rfl⟩) w hA [0, 1] rfl (fun H locs w => ?_)
    refine lv_goto (tgt := 52) hx hb dX6_reading_48 (by decide) ?_
    exact fin _ _ _ _ _ w (by exact rnw_r hil) dX6_reading_52
set_option maxHeartbeats 4000000 in
set_option maxRecDepth 100000 in
theorem met_X6_reading_t1 (l : Launch) (D : va_G) (cI cJ cO : ClassId) (ma : Nat) (za : Nat) (aa : Nat) (va : Nat) (ka : Nat) (ta : Nat) (y : Nat → Int32) (x : Int32) (u : Int32) (hin : x < 0) : CI l D (TY cI cJ cO) yX6_reading wsX6_reading ({ frames := 0, cells := 0, slots := 0, locals := 0 }) [.ref ma, .int x, .int u] [oM ma za aa va ka ta y] 0 [oM ma za aa va ka ta (upd y 0 1)] := by
  refine CI.of (plainFor_of_name (by decide)) rfl (Nat.le_of_ble_eq_true rfl) (rfl) (fun p e s m below meth c A ls Q X hA w hl fin => ?_)
  obtain ⟨hx, hb, hml, hown, hts⟩ := id X.1
  have hl : lv_has ls 3 [(0, .ref ma), (1, .int x), (2, .int u)] := hl
  refine lv_aload_n hx hb dX6_reading_0 rfl (lv_at hl 0 rfl) ?_
  refine lv_iload_n hx hb dX6_reading_1 rfl (lv_at hl 1 rfl) ?_
  refine lv_if_lt (tgt := 18) hx hb dX6_reading_2 (by decide) (fun c1 => ?_) (fun c1 => absurd hin c1)
  refine lv_iconst (v := 1) hx hb dX6_reading_18 (by decide) ?_
  refine k_put X w 0 rfl rfl 0 (by decide) rfl iX6_reading_X6 (List.mem_of_getElem? (i := 1) rfl) tyX6_ok nmX6 rfl rfl (Nat.le_of_ble_eq_true rfl) (ws2 := [oM ma za aa va ka ta (upd y 0 1)]) rfl dX6_reading_19 (fun H locs w => ?_)
  refine lv_aload_n hx hb dX6_reading_22 rfl (lv_at hl 0 rfl) ?_
  refine k_get X w 0 rfl rfl 0 (by decide) rfl iX6_reading_X6 (List.mem_of_getElem? (i := 1) rfl) (v := .int 1) (congrArg (fun t => some (Value.int t)) (upd_is _ _ _)) dX6_reading_23 ?_
  refine lv_if_le (tgt := 31) hx hb dX6_reading_26 (by decide) (fun c2 => absurd c2 (by decide)) (fun c2 => ?_)
  refine lv_iconst (v := 0) hx hb dX6_reading_29 (by decide) ?_
  exact fin _ _ _ _ _ w rfl dX6_reading_30
set_option maxHeartbeats 4000000 in
set_option maxRecDepth 100000 in
theorem met_X6_reading_t2 (l : Launch) (D : va_G) (cI cJ cO : ClassId) (ma : Nat) (za : Nat) (aa : Nat) (va : Nat) (ka : Nat) (ta : Nat) (y : Nat → Int32) (x : Int32) (u : Int32) (hx0 : ¬ x < 0) (hin : ¬ inR u 0 4) : CI l D (TY cI cJ cO) yX6_reading wsX6_reading ({ frames := 1, cells := 0, slots := 0, locals := 22 }) [.ref ma, .int x, .int u] [oM ma za aa va ka ta y] 0 [oM ma za aa va ka ta (upd y 0 1)] := by
  refine CI.of (plainFor_of_name (by decide)) rfl (Nat.le_of_ble_eq_true rfl) (rfl) (fun p e s m below meth c A ls Q X hA w hl fin => ?_)
  obtain ⟨hx, hb, hml, hown, hts⟩ := id X.1
  have hl : lv_has ls 3 [(0, .ref ma), (1, .int x), (2, .int u)] := hl
  refine lv_aload_n hx hb dX6_reading_0 rfl (lv_at hl 0 rfl) ?_
  refine lv_iload_n hx hb dX6_reading_1 rfl (lv_at hl 1 rfl) ?_
  refine lv_if_lt (tgt := 18) hx hb dX6_reading_2 (by decide) (fun c1 => absurd c1 hx0) (fun c1 => ?_)
  refine lv_iload_n hx hb dX6_reading_5 rfl (lv_at hl 2 rfl) ?_
  refine lv_iconst (v := 0) hx hb dX6_reading_6 (by decide) ?_
  refine lv_iconst (v := 4) hx hb dX6_reading_7 (by decide) ?_
  refine k_ciR (k_runS X w (met_X6_in l D cI cJ cO u 0 4  s.heap.size) gX6_reading_X6_in rfl rfl rfl 3 hdX6_in ⟨Nat.le_of_ble_eq_true rfl, Nat.le_of_ble_eq_true rfl⟩ [] rfl rfl rfl hl.1 rfl (Nat.le_of_ble_eq_true rfl) dX6_reading_8 ⟨Nat.le_of_ble_eq_true rfl, Nat.le_of_ble_eq_true rfl⟩) w hA [] rfl (fun H locs w => ?_)
  refine lv_if_eq (tgt := 18) hx hb dX6_reading_11 (by decide) (fun c2 => ?_) (fun c2 => absurd (inB_n hin) c2)
  refine lv_iconst (v := 1) hx hb dX6_reading_18 (by decide) ?_
  refine k_put X w 0 rfl rfl 0 (by decide) rfl iX6_reading_X6 (List.mem_of_getElem? (i := 1) rfl) tyX6_ok nmX6 rfl rfl (Nat.le_of_ble_eq_true rfl) (ws2 := [oM ma za aa va ka ta (upd y 0 1)]) rfl dX6_reading_19 (fun H locs w => ?_)
  refine lv_aload_n hx hb dX6_reading_22 rfl (lv_at hl 0 rfl) ?_
  refine k_get X w 0 rfl rfl 0 (by decide) rfl iX6_reading_X6 (List.mem_of_getElem? (i := 1) rfl) (v := .int 1) (congrArg (fun t => some (Value.int t)) (upd_is _ _ _)) dX6_reading_23 ?_
  refine lv_if_le (tgt := 31) hx hb dX6_reading_26 (by decide) (fun c3 => absurd c3 (by decide)) (fun c3 => ?_)
  refine lv_iconst (v := 0) hx hb dX6_reading_29 (by decide) ?_
  exact fin _ _ _ _ _ w rfl dX6_reading_30
theorem hdX6_whyNoDay : yX6_whyNoDay.cls = RX6 ∧ yX6_whyNoDay.cls ≠ "java/lang/invoke/MethodHandle" ∧ yX6_whyNoDay.cls ≠ "java/lang/invoke/VarHandle" ∧ (parseMethodDescriptor yX6_whyNoDay.desc).map (fun d => d.parameters.length) = some 0 := ⟨rfl, by decide, by decide, by decide +kernel⟩
theorem iX6_whyNoDay_X6 : ∀ w ∈ wsX60, w ∈ wsX6_whyNoDay := fun _ h => List.mem_cons_of_mem _ (List.mem_append_right _ h)
set_option maxHeartbeats 4000000 in
set_option maxRecDepth 100000 in
theorem met_X6_whyNoDay (l : Launch) (D : va_G) (cI cJ cO : ClassId) (ma : Nat) (za : Nat) (aa : Nat) (va : Nat) (ka : Nat) (ta : Nat) (y : Nat → Int32) (z : Nat → Int32) (len : Nat) (hn : z 10 = nI len) (hn4 : len ≤ 40) (hp : okp z len) : CI l D (TY cI cJ cO) yX6_whyNoDay wsX6_whyNoDay ({ frames := 2, cells := 0, slots := 0, locals := 45 }) [.ref ma] [oM ma za aa va ka ta y, aI cI za 225 0 z] (whyDay z len) [oM ma za aa va ka ta y, aI cI za 225 0 z] := by
  refine CI.of (plainFor_of_name (by decide)) rfl (Nat.le_of_ble_eq_true rfl) (rfl) (fun p e s m below meth c A ls Q X hA w hl fin => ?_)
  obtain ⟨hx, hb, hml, hown, hts⟩ := id X.1
  have hl : lv_has ls 7 [(0, .ref ma)] := hl
  refine lv_iconst (v := 0) hx hb dX6_whyNoDay_0 (by decide) ?_
  refine lv_istore_n (lv' := [(1, .int 0), (0, .ref ma)]) hx hb dX6_whyNoDay_1 rfl hl (by decide) rfl (fun ls hl => ?_)
  refine lv_iconst (v := 0) hx hb dX6_whyNoDay_2 (by decide) ?_
  refine lv_istore_n (lv' := [(2, .int 0), (1, .int 0), (0, .ref ma)]) hx hb dX6_whyNoDay_3 rfl hl (by decide) rfl (fun ls hl => ?_)
  refine lv_iconst (v := 0) hx hb dX6_whyNoDay_4 (by decide) ?_
  refine lv_istore_n (lv' := [(3, .int 0), (2, .int 0), (1, .int 0), (0, .ref ma)]) hx hb dX6_whyNoDay_5 rfl hl (by decide) rfl (fun ls hl => ?_)
  refine lv_iconst (v := 0) hx hb dX6_whyNoDay_6 (by decide) ?_
  refine lv_istore (lv' := [(4, .int 0), (3, .int 0), (2, .int 0), (1, .int 0), (0, .ref ma)]) hx hb dX6_whyNoDay_7 hl (by decide) rfl (fun ls hl => ?_)
  have lp9 : ∀ (n : Nat) (pp : Nat) (ss : Bool) (ll : Int32) (gg : Int32), pp + n = 6 → ss = staR z len pp → ll = lowR z len pp → gg = higR z len pp → (∀ q, q < pp → ¬ lat z (nI q) len = -1) → ∀ (H : Heap) (locs : List Loc) (ls : Array Slot), wd D A s.heap H locs ([oM ma za aa va ka ta y, aI cI za 225 0 z]) → lv_has ls 7 [(4, .int (nI pp)), (1, .int (bI ss)), (2, .int ll), (3, .int gg), (0, .ref ma)] → W p l e ({ frames := 2, cells := 0, slots := 0, locals := 45 }) s m [.ref ma].toArray below meth c H locs 0 0 Q (F0 m 9 ls []) := by
    intro n
    induction n with
    | zero =>
      intro pp ss ll gg hi hs hl1 hg hqq H locs ls w hl
      refine lv_iload hx hb dX6_whyNoDay_9 (lv_at hl 0 rfl) ?_
      refine lv_bipush (v := 6) hx hb dX6_whyNoDay_11 (by decide) ?_
      refine lv_icmp_ge (tgt := 117) hx hb dX6_whyNoDay_13 (by decide) (fun c1 => ?_) (fun c1 => absurd (nI_le (a := 6) (b := pp) (by omega) (by omega)) c1)
      refine lv_iload_n hx hb dX6_whyNoDay_117 rfl (lv_at hl 1 rfl) ?_
      refine lv_if_eq (tgt := 126) hx hb dX6_whyNoDay_118 (by decide) (fun c2 => ?_) (fun c2 => ?_)
      · have c2 := bI_f c2
        refine lv_iload_n hx hb dX6_whyNoDay_126 rfl (lv_at hl 3 rfl) ?_
        refine lv_iload_n hx hb dX6_whyNoDay_127 rfl (lv_at hl 2 rfl) ?_
        refine lv_isub hx hb dX6_whyNoDay_128 ?_
        refine lv_aload_n hx hb dX6_whyNoDay_129 rfl (lv_at hl 4 rfl) ?_
        refine k_get X w 0 rfl rfl 1 (by decide) rfl iX6_whyNoDay_X6 (List.mem_of_getElem? (i := 1) rfl) (v := .ref za) rfl dX6_whyNoDay_130 ?_
        refine lv_bipush (v := 15) hx hb dX6_whyNoDay_133 (by decide) ?_
        refine k_iald X w 1 0 rfl rfl 15 (kj := 15) rfl (by decide) (by decide) rfl (v := z 15) rfl dX6_whyNoDay_135 ?_
        refine lv_icmp_le (tgt := 144) hx hb dX6_whyNoDay_136 (by decide) (fun c3 => ?_) (fun c3 => ?_)
        · refine lv_iconst (v := 0) hx hb dX6_whyNoDay_144 (by decide) ?_
          exact fin _ _ _ _ _ w (by have e6 : pp = 6 := (by omega); rw [e6] at hs hl1 hg hqq; rw [ref_end hp hqq, ← hs, ← hl1, ← hg]; simp [c2, c3]) dX6_whyNoDay_145
        · refine lv_bipush (v := 8) hx hb dX6_whyNoDay_139 (by decide) ?_
          refine lv_goto (tgt := 145) hx hb dX6_whyNoDay_141 (by decide) ?_
          exact fin _ _ _ _ _ w (by have e6 : pp = 6 := (by omega); rw [e6] at hs hl1 hg hqq; rw [ref_end hp hqq, ← hs, ← hl1, ← hg]; simp [c2, c3]) dX6_whyNoDay_145
      · have c2 := bI_t c2
        refine lv_bipush (v := 7) hx hb dX6_whyNoDay_121 (by decide) ?_
        refine lv_goto (tgt := 145) hx hb dX6_whyNoDay_123 (by decide) ?_
        exact fin _ _ _ _ _ w (by have e6 : pp = 6 := (by omega); rw [e6] at hs hl1 hg hqq; rw [ref_end hp hqq, ← hs, ← hl1, ← hg]; simp [c2]) dX6_whyNoDay_145
    | succ n ih =>
      intro pp ss ll gg hi hs hl1 hg hqq H locs ls w hl
      refine lv_iload hx hb dX6_whyNoDay_9 (lv_at hl 0 rfl) ?_
      refine lv_bipush (v := 6) hx hb dX6_whyNoDay_11 (by decide) ?_
      refine lv_icmp_ge (tgt := 117) hx hb dX6_whyNoDay_13 (by decide) (fun c4 => absurd c4 (nI_ge (a := pp) (b := 6) (by omega) (by decide))) (fun c4 => ?_)
      refine lv_aload_n hx hb dX6_whyNoDay_16 rfl (lv_at hl 4 rfl) ?_
      refine lv_iload hx hb dX6_whyNoDay_17 (lv_at hl 0 rfl) ?_
      refine k_ciR (k_runV X w (met_X6_latest l D cI cJ cO ma za aa va ka ta y z len (nI pp) hn hn4 H.size) gX6_whyNoDay_X6_latest rfl rfl rfl 1 hdX6_latest ⟨Nat.le_of_ble_eq_true rfl, Nat.le_of_ble_eq_true rfl⟩ [0, 1] rfl rfl 0 6 rfl rfl rfl rfl hl.1 rfl (Nat.le_of_ble_eq_true rfl) dX6_whyNoDay_19 ⟨Nat.le_of_ble_eq_true rfl, Nat.le_of_ble_eq_true rfl⟩) w hA [0, 1] rfl (fun H locs w => ?_)
      refine lv_istore (lv' := [(5, .int (lat z (nI pp) len)), (4, .int (nI pp)), (1, .int (bI ss)), (2, .int ll), (3, .int gg), (0, .ref ma)]) hx hb dX6_whyNoDay_22 hl (by decide) rfl (fun ls hl => ?_)
      refine lv_iload hx hb dX6_whyNoDay_24 (lv_at hl 0 rfl) ?_
      refine lv_if_ge (tgt := 32) hx hb dX6_whyNoDay_26 (by decide) (fun c5 => ?_) (fun c5 => ?_)
      · have c5 := lat_ge c5
        obtain ⟨ej, hj, hj2⟩ := lat_j c5
        rw [ej] at hl
        refine lv_aload_n hx hb dX6_whyNoDay_32 rfl (lv_at hl 5 rfl) ?_
        refine lv_iload hx hb dX6_whyNoDay_33 (lv_at hl 0 rfl) ?_
        refine lv_iconst (v := 2) hx hb dX6_whyNoDay_35 (by decide) ?_
        refine k_ciR (k_runV X w (met_X6_of l D cI cJ cO ma za aa va ka ta y z (latj z (nI pp) len) 2 (by first | assumption | omega) (by first | assumption | omega) H.size) gX6_whyNoDay_X6_of rfl rfl rfl 2 hdX6_of ⟨Nat.le_of_ble_eq_true rfl, Nat.le_of_ble_eq_true rfl⟩ [0, 1] rfl rfl 0 6 rfl rfl rfl rfl hl.1 rfl (Nat.le_of_ble_eq_true rfl) dX6_whyNoDay_36 ⟨Nat.le_of_ble_eq_true rfl, Nat.le_of_ble_eq_true rfl⟩) w hA [0, 1] rfl (fun H locs w => ?_)
        refine lv_istore (lv' := [(6, .int (z (25 + ((latj z (nI pp) len) * 5 + 2)))), (5, .int (nI (latj z (nI pp) len))), (4, .int (nI pp)), (1, .int (bI ss)), (2, .int ll), (3, .int gg), (0, .ref ma)]) hx hb dX6_whyNoDay_39 hl (by decide) rfl (fun ls hl => ?_)
        refine lv_iload_n hx hb dX6_whyNoDay_41 rfl (lv_at hl 3 rfl) ?_
        have K42 : ∀ (y7 : Int32) (H : Heap) (locs : List Loc) (ls : Array Slot), y7 = bI (ss || !decide (z 0 - hrj z len pp ≤ z 14)) → wd D A s.heap H locs ([oM ma za aa va ka ta y, aI cI za 225 0 z]) → lv_has ls 7 [(6, .int (z (25 + ((latj z (nI pp) len) * 5 + 2)))), (5, .int (nI (latj z (nI pp) len))), (4, .int (nI pp)), (1, .int (bI ss)), (2, .int ll), (3, .int gg), (0, .ref ma)] → W p l e ({ frames := 2, cells := 0, slots := 0, locals := 45 }) s m [.ref ma].toArray below meth c H locs 0 0 Q (F0 m 74 ls [.int y7]) := by
          intro y7 H locs ls ey7 w hl
          subst ey7
          refine lv_istore_n (lv' := [(1, .int (bI (ss || !decide (z 0 - hrj z len pp ≤ z 14)))), (6, .int (z (25 + ((latj z (nI pp) len) * 5 + 2)))), (5, .int (nI (latj z (nI pp) len))), (4, .int (nI pp)), (2, .int ll), (3, .int gg), (0, .ref ma)]) hx hb dX6_whyNoDay_74 rfl hl (by decide) rfl (fun ls hl => ?_)
          refine lv_iload hx hb dX6_whyNoDay_75 (lv_at hl 3 rfl) ?_
          have K77 : ∀ (y9 : Int32) (H : Heap) (locs : List Loc) (ls : Array Slot), y9 = lwN pp (rtj z len pp) ll → wd D A s.heap H locs ([oM ma za aa va ka ta y, aI cI za 225 0 z]) → lv_has ls 7 [(1, .int (bI (ss || !decide (z 0 - hrj z len pp ≤ z 14)))), (6, .int (z (25 + ((latj z (nI pp) len) * 5 + 2)))), (5, .int (nI (latj z (nI pp) len))), (4, .int (nI pp)), (2, .int ll), (3, .int gg), (0, .ref ma)] → W p l e ({ frames := 2, cells := 0, slots := 0, locals := 45 }) s m [.ref ma].toArray below meth c H locs 0 0 Q (F0 m 92 ls [.int y9]) := by
            intro y9 H locs ls ey9 w hl
            subst ey9
            refine lv_istore_n (lv' := [(2, .int (lwN pp (rtj z len pp) ll)), (1, .int (bI (ss || !decide (z 0 - hrj z len pp ≤ z 14)))), (6, .int (z (25 + ((latj z (nI pp) len) * 5 + 2)))), (5, .int (nI (latj z (nI pp) len))), (4, .int (nI pp)), (3, .int gg), (0, .ref ma)]) hx hb dX6_whyNoDay_92 rfl hl (by decide) rfl (fun ls hl => ?_)
            refine lv_iload hx hb dX6_whyNoDay_93 (lv_at hl 4 rfl) ?_
            have K95 : ∀ (y11 : Int32) (H : Heap) (locs : List Loc) (ls : Array Slot), y11 = hgN pp (rtj z len pp) gg → wd D A s.heap H locs ([oM ma za aa va ka ta y, aI cI za 225 0 z]) → lv_has ls 7 [(2, .int (lwN pp (rtj z len pp) ll)), (1, .int (bI (ss || !decide (z 0 - hrj z len pp ≤ z 14)))), (6, .int (z (25 + ((latj z (nI pp) len) * 5 + 2)))), (5, .int (nI (latj z (nI pp) len))), (4, .int (nI pp)), (3, .int gg), (0, .ref ma)] → W p l e ({ frames := 2, cells := 0, slots := 0, locals := 45 }) s m [.ref ma].toArray below meth c H locs 0 0 Q (F0 m 110 ls [.int y11]) := by
              intro y11 H locs ls ey11 w hl
              subst ey11
              refine lv_istore_n (lv' := [(3, .int (hgN pp (rtj z len pp) gg)), (2, .int (lwN pp (rtj z len pp) ll)), (1, .int (bI (ss || !decide (z 0 - hrj z len pp ≤ z 14)))), (6, .int (z (25 + ((latj z (nI pp) len) * 5 + 2)))), (5, .int (nI (latj z (nI pp) len))), (4, .int (nI pp)), (0, .ref ma)]) hx hb dX6_whyNoDay_110 rfl hl (by decide) rfl (fun ls hl => ?_)
              refine lv_iinc (v := nI (pp + 1)) (lv' := [(4, .int (nI (pp + 1))), (3, .int (hgN pp (rtj z len pp) gg)), (2, .int (lwN pp (rtj z len pp) ll)), (1, .int (bI (ss || !decide (z 0 - hrj z len pp ≤ z 14)))), (6, .int (z (25 + ((latj z (nI pp) len) * 5 + 2)))), (5, .int (nI (latj z (nI pp) len))), (0, .ref ma)]) hx hb dX6_whyNoDay_111 hl (k := 5) rfl (nI_1 _) (by decide) rfl (fun ls hl => ?_)
              refine lv_goto (tgt := 9) hx hb dX6_whyNoDay_114 (by decide) ?_
              exact ih (pp + 1) (ss || !decide (z 0 - hrj z len pp ≤ z 14)) (lwN pp (rtj z len pp) ll) (hgN pp (rtj z len pp) gg) (by omega) (by rw [hs]; rfl) (by rw [hl1]; rfl) (by rw [hg]; rfl) (lat_ext hqq c5) _ _ _ w (lv_sub hl [0, 3, 2, 1, 6] rfl)
            refine lv_if_eq (tgt := 104) hx hb dX6_whyNoDay_95 (by decide) (fun c10 => ?_) (fun c10 => ?_)
            · refine lv_iload hx hb dX6_whyNoDay_104 (lv_at hl 2 rfl) ?_
              refine lv_goto (tgt := 110) hx hb dX6_whyNoDay_106 (by decide) ?_
              exact K95 _ _ _ _ (by rw [hgN, if_pos (nI_z (by omega) c10)]; rfl) w hl
            · refine lv_iload hx hb dX6_whyNoDay_98 (lv_at hl 2 rfl) ?_
              refine lv_iload_n hx hb dX6_whyNoDay_100 rfl (lv_at hl 5 rfl) ?_
              refine lv_icmp_le (tgt := 109) hx hb dX6_whyNoDay_101 (by decide) (fun c12 => ?_) (fun c12 => ?_)
              · refine lv_iload_n hx hb dX6_whyNoDay_109 rfl (lv_at hl 5 rfl) ?_
                exact K95 _ _ _ _ (by rw [hgN, if_neg (fun h => c10 (by rw [h]; rfl)), if_pos (show rtj z len pp ≤ gg from c12)]) w hl
              · refine lv_iload hx hb dX6_whyNoDay_104 (lv_at hl 2 rfl) ?_
                refine lv_goto (tgt := 110) hx hb dX6_whyNoDay_106 (by decide) ?_
                exact K95 _ _ _ _ (by rw [hgN, if_neg (fun h => c10 (by rw [h]; rfl)), if_neg (show ¬ rtj z len pp ≤ gg from c12)]; rfl) w hl
          refine lv_if_eq (tgt := 86) hx hb dX6_whyNoDay_77 (by decide) (fun c8 => ?_) (fun c8 => ?_)
          · refine lv_iload hx hb dX6_whyNoDay_86 (lv_at hl 1 rfl) ?_
            refine lv_goto (tgt := 92) hx hb dX6_whyNoDay_88 (by decide) ?_
            exact K77 _ _ _ _ (by rw [lwN, if_pos (nI_z (by omega) c8)]; rfl) w hl
          · refine lv_iload hx hb dX6_whyNoDay_80 (lv_at hl 1 rfl) ?_
            refine lv_iload_n hx hb dX6_whyNoDay_82 rfl (lv_at hl 4 rfl) ?_
            refine lv_icmp_ge (tgt := 91) hx hb dX6_whyNoDay_83 (by decide) (fun c13 => ?_) (fun c13 => ?_)
            · refine lv_iload_n hx hb dX6_whyNoDay_91 rfl (lv_at hl 4 rfl) ?_
              exact K77 _ _ _ _ (by rw [lwN, if_neg (fun h => c8 (by rw [h]; rfl)), if_pos (show ll ≤ rtj z len pp from c13)]) w hl
            · refine lv_iload hx hb dX6_whyNoDay_86 (lv_at hl 1 rfl) ?_
              refine lv_goto (tgt := 92) hx hb dX6_whyNoDay_88 (by decide) ?_
              exact K77 _ _ _ _ (by rw [lwN, if_neg (fun h => c8 (by rw [h]; rfl)), if_neg (show ¬ ll ≤ rtj z len pp from c13)]; rfl) w hl
        refine lv_if_ne (tgt := 69) hx hb dX6_whyNoDay_42 (by decide) (fun c6 => ?_) (fun c6 => ?_)
        · have c6 := bI_t c6
          refine lv_iconst (v := 1) hx hb dX6_whyNoDay_69 (by decide) ?_
          refine lv_goto (tgt := 74) hx hb dX6_whyNoDay_70 (by decide) ?_
          exact K42 _ _ _ _ (by rw [c6]; rfl) w hl
        · have c6 := bI_f c6
          refine lv_aload_n hx hb dX6_whyNoDay_45 rfl (lv_at hl 6 rfl) ?_
          refine k_get X w 0 rfl rfl 1 (by decide) rfl iX6_whyNoDay_X6 (List.mem_of_getElem? (i := 1) rfl) (v := .ref za) rfl dX6_whyNoDay_46 ?_
          refine lv_iconst (v := 0) hx hb dX6_whyNoDay_49 (by decide) ?_
          refine k_iald X w 1 0 rfl rfl 0 (kj := 0) rfl (by decide) (by decide) rfl (v := z 0) rfl dX6_whyNoDay_50 ?_
          refine lv_aload_n hx hb dX6_whyNoDay_51 rfl (lv_at hl 6 rfl) ?_
          refine lv_iload hx hb dX6_whyNoDay_52 (lv_at hl 1 rfl) ?_
          refine lv_iconst (v := 0) hx hb dX6_whyNoDay_54 (by decide) ?_
          refine k_ciR (k_runV X w (met_X6_of l D cI cJ cO ma za aa va ka ta y z (latj z (nI pp) len) 0 (by first | assumption | omega) (by first | assumption | omega) H.size) gX6_whyNoDay_X6_of rfl rfl rfl 2 hdX6_of ⟨Nat.le_of_ble_eq_true rfl, Nat.le_of_ble_eq_true rfl⟩ [0, 1] rfl rfl 0 6 rfl rfl rfl rfl hl.1 rfl (Nat.le_of_ble_eq_true rfl) dX6_whyNoDay_55 ⟨Nat.le_of_ble_eq_true rfl, Nat.le_of_ble_eq_true rfl⟩) w hA [0, 1] rfl (fun H locs w => ?_)
          refine lv_isub hx hb dX6_whyNoDay_58 ?_
          refine lv_aload_n hx hb dX6_whyNoDay_59 rfl (lv_at hl 6 rfl) ?_
          refine k_get X w 0 rfl rfl 1 (by decide) rfl iX6_whyNoDay_X6 (List.mem_of_getElem? (i := 1) rfl) (v := .ref za) rfl dX6_whyNoDay_60 ?_
          refine lv_bipush (v := 14) hx hb dX6_whyNoDay_63 (by decide) ?_
          refine k_iald X w 1 0 rfl rfl 14 (kj := 14) rfl (by decide) (by decide) rfl (v := z 14) rfl dX6_whyNoDay_65 ?_
          refine lv_icmp_le (tgt := 73) hx hb dX6_whyNoDay_66 (by decide) (fun c14 => ?_) (fun c14 => ?_)
          · refine lv_iconst (v := 0) hx hb dX6_whyNoDay_73 (by decide) ?_
            exact K42 _ _ _ _ (by rw [c6, show decide (z 0 - hrj z len pp ≤ z 14) = true from decide_eq_true c14]; rfl) w hl
          · refine lv_iconst (v := 1) hx hb dX6_whyNoDay_69 (by decide) ?_
            refine lv_goto (tgt := 74) hx hb dX6_whyNoDay_70 (by decide) ?_
            exact K42 _ _ _ _ (by rw [c6, show decide (z 0 - hrj z len pp ≤ z 14) = false from decide_eq_false c14]; rfl) w hl
      · refine lv_bipush (v := 6) hx hb dX6_whyNoDay_29 (by decide) ?_
        exact fin _ _ _ _ _ w (by exact (ref_6 (by omega) hqq (lat_lt hn4 c5)).symm) dX6_whyNoDay_31
  exact lp9 6 0 false 0 0 (Nat.zero_add _) rfl rfl rfl (fun q h => absurd h (Nat.not_lt_zero q)) _ _ _ w (lv_sub hl [0, 3, 2, 1, 4] rfl)
theorem hdX6_daysRate : yX6_daysRate.cls = RX6 ∧ yX6_daysRate.cls ≠ "java/lang/invoke/MethodHandle" ∧ yX6_daysRate.cls ≠ "java/lang/invoke/VarHandle" ∧ (parseMethodDescriptor yX6_daysRate.desc).map (fun d => d.parameters.length) = some 0 := ⟨rfl, by decide, by decide, by decide +kernel⟩
set_option maxHeartbeats 4000000 in
set_option maxRecDepth 100000 in
theorem met_X6_daysRate (l : Launch) (D : va_G) (cI cJ cO : ClassId) (ma : Nat) (za : Nat) (aa : Nat) (va : Nat) (ka : Nat) (ta : Nat) (y : Nat → Int32) (z : Nat → Int32) (len : Nat) (hn : z 10 = nI len) (hn4 : len ≤ 40) (hp : okp z len) : CI l D (TY cI cJ cO) yX6_daysRate wsX6_daysRate ({ frames := 3, cells := 0, slots := 0, locals := 71 }) [.ref ma] [oM ma za aa va ka ta y, aI cI za 225 0 z] (dr1 z len) [oM ma za aa va ka ta y, aI cI za 225 0 z] := by
  refine CI.of (plainFor_of_name (by decide)) rfl (Nat.le_of_ble_eq_true rfl) (rfl) (fun p e s m below meth c A ls Q X hA w hl fin => ?_)
  obtain ⟨hx, hb, hml, hown, hts⟩ := id X.1
  have hl : lv_has ls 3 [(0, .ref ma)] := hl
  refine lv_aload_n hx hb dX6_daysRate_0 rfl (lv_at hl 0 rfl) ?_
  refine k_ciR (k_runV X w (met_X6_whyNoDay l D cI cJ cO ma za aa va ka ta y z len hn hn4 hp s.heap.size) gX6_daysRate_X6_whyNoDay rfl rfl rfl 0 hdX6_whyNoDay ⟨Nat.le_of_ble_eq_true rfl, Nat.le_of_ble_eq_true rfl⟩ [0, 1] rfl rfl 0 6 rfl rfl rfl rfl hl.1 rfl (Nat.le_of_ble_eq_true rfl) dX6_daysRate_1 ⟨Nat.le_of_ble_eq_true rfl, Nat.le_of_ble_eq_true rfl⟩) w hA [0, 1] rfl (fun H locs w => ?_)
  refine lv_if_le (tgt := 9) hx hb dX6_daysRate_4 (by decide) (fun c1 => ?_) (fun c1 => ?_)
  · have c1 := why_0 c1
    refine lv_iconst (v := 0) hx hb dX6_daysRate_9 (by decide) ?_
    refine lv_istore_n (lv' := [(1, .int 0), (0, .ref ma)]) hx hb dX6_daysRate_10 rfl hl (by decide) rfl (fun ls hl => ?_)
    refine lv_iconst (v := 0) hx hb dX6_daysRate_11 (by decide) ?_
    refine lv_istore_n (lv' := [(2, .int 0), (1, .int 0), (0, .ref ma)]) hx hb dX6_daysRate_12 rfl hl (by decide) rfl (fun ls hl => ?_)
    have lp13 : ∀ (n : Nat) (pp : Nat) (s1 : Int32), pp + n = 6 → s1 = sm z len pp → ∀ (H : Heap) (locs : List Loc) (ls : Array Slot), wd D A s.heap H locs ([oM ma za aa va ka ta y, aI cI za 225 0 z]) → lv_has ls 3 [(2, .int (nI pp)), (1, .int s1), (0, .ref ma)] → W p l e ({ frames := 3, cells := 0, slots := 0, locals := 71 }) s m [.ref ma].toArray below meth c H locs 0 0 Q (F0 m 13 ls []) := by
      intro n
      induction n with
      | zero =>
        intro pp s1 hi hs H locs ls w hl
        refine lv_iload_n hx hb dX6_daysRate_13 rfl (lv_at hl 0 rfl) ?_
        refine lv_bipush (v := 6) hx hb dX6_daysRate_14 (by decide) ?_
        refine lv_icmp_ge (tgt := 38) hx hb dX6_daysRate_16 (by decide) (fun c2 => ?_) (fun c2 => absurd (nI_le (a := 6) (b := pp) (by omega) (by omega)) c2)
        refine lv_iload_n hx hb dX6_daysRate_38 rfl (lv_at hl 1 rfl) ?_
        refine lv_bipush (v := 6) hx hb dX6_daysRate_39 (by decide) ?_
        refine k_ciR (k_runS X w (met_X6_divided l D cI cJ cO s1 6 (by decide) H.size) gX6_daysRate_X6_divided rfl rfl rfl 2 hdX6_divided ⟨Nat.le_of_ble_eq_true rfl, Nat.le_of_ble_eq_true rfl⟩ [] rfl rfl rfl hl.1 rfl (Nat.le_of_ble_eq_true rfl) dX6_daysRate_41 ⟨Nat.le_of_ble_eq_true rfl, Nat.le_of_ble_eq_true rfl⟩) w hA [] rfl (fun H locs w => ?_)
        rw [dvd_s hp c1 (show s1 = sm z len 6 by rw [hs, show pp = 6 by omega])]
        refine lv_sipush (v := 10000) hx hb dX6_daysRate_44 (by decide) ?_
        refine lv_iadd hx hb dX6_daysRate_47 ?_
        exact fin _ _ _ _ _ w (by rw [dr1, if_pos c1, hs, show pp = 6 by omega]) dX6_daysRate_48
      | succ n ih =>
        intro pp s1 hi hs H locs ls w hl
        refine lv_iload_n hx hb dX6_daysRate_13 rfl (lv_at hl 0 rfl) ?_
        refine lv_bipush (v := 6) hx hb dX6_daysRate_14 (by decide) ?_
        refine lv_icmp_ge (tgt := 38) hx hb dX6_daysRate_16 (by decide) (fun c3 => absurd c3 (nI_ge (a := pp) (b := 6) (by omega) (by decide))) (fun c3 => ?_)
        refine lv_iload_n hx hb dX6_daysRate_19 rfl (lv_at hl 1 rfl) ?_
        refine lv_aload_n hx hb dX6_daysRate_20 rfl (lv_at hl 2 rfl) ?_
        refine lv_aload_n hx hb dX6_daysRate_21 rfl (lv_at hl 2 rfl) ?_
        refine lv_iload_n hx hb dX6_daysRate_22 rfl (lv_at hl 0 rfl) ?_
        refine k_ciR (k_runV X w (met_X6_latest l D cI cJ cO ma za aa va ka ta y z len (nI pp) hn hn4 H.size) gX6_daysRate_X6_latest rfl rfl rfl 1 hdX6_latest ⟨Nat.le_of_ble_eq_true rfl, Nat.le_of_ble_eq_true rfl⟩ [0, 1] rfl rfl 0 6 rfl rfl rfl rfl hl.1 rfl (Nat.le_of_ble_eq_true rfl) dX6_daysRate_23 ⟨Nat.le_of_ble_eq_true rfl, Nat.le_of_ble_eq_true rfl⟩) w hA [0, 1] rfl (fun H locs w => ?_)
        obtain ⟨ej, hj, hj2⟩ := lat_j (day_ok c1 pp (by omega))
        rw [ej]
        refine lv_iconst (v := 2) hx hb dX6_daysRate_26 (by decide) ?_
        refine k_ciR (k_runV X w (met_X6_of l D cI cJ cO ma za aa va ka ta y z (latj z (nI pp) len) 2 (by first | assumption | omega) (by first | assumption | omega) H.size) gX6_daysRate_X6_of rfl rfl rfl 2 hdX6_of ⟨Nat.le_of_ble_eq_true rfl, Nat.le_of_ble_eq_true rfl⟩ [0, 1] rfl rfl 0 6 rfl rfl rfl rfl hl.1 rfl (Nat.le_of_ble_eq_true rfl) dX6_daysRate_27 ⟨Nat.le_of_ble_eq_true rfl, Nat.le_of_ble_eq_true rfl⟩) w hA [0, 1] rfl (fun H locs w => ?_)
        refine lv_iadd hx hb dX6_daysRate_30 ?_
        refine lv_istore_n (lv' := [(1, .int (s1 + (z (25 + ((latj z (nI pp) len) * 5 + 2))))), (2, .int (nI pp)), (0, .ref ma)]) hx hb dX6_daysRate_31 rfl hl (by decide) rfl (fun ls hl => ?_)
        refine lv_iinc (v := nI (pp + 1)) (lv' := [(2, .int (nI (pp + 1))), (1, .int (s1 + (z (25 + ((latj z (nI pp) len) * 5 + 2))))), (0, .ref ma)]) hx hb dX6_daysRate_32 hl (k := 1) rfl (nI_1 _) (by decide) rfl (fun ls hl => ?_)
        refine lv_goto (tgt := 13) hx hb dX6_daysRate_35 (by decide) ?_
        exact ih (pp + 1) (s1 + (z (25 + ((latj z (nI pp) len) * 5 + 2)))) (by omega) (by rw [hs]; rfl) _ _ _ w (lv_sub hl [0, 1, 2] rfl)
    exact lp13 6 0 0 (Nat.zero_add _) rfl _ _ _ w (lv_sub hl [0, 1, 2] rfl)
  · have c1 := why_n0 c1
    refine lv_iconst (v := (-1)) hx hb dX6_daysRate_7 (by decide) ?_
    exact fin _ _ _ _ _ w (by rw [dr1, if_neg c1]) dX6_daysRate_8
theorem hdX6_countNow : yX6_countNow.cls = RX6 ∧ yX6_countNow.cls ≠ "java/lang/invoke/MethodHandle" ∧ yX6_countNow.cls ≠ "java/lang/invoke/VarHandle" ∧ (parseMethodDescriptor yX6_countNow.desc).map (fun d => d.parameters.length) = some 1 := ⟨rfl, by decide, by decide, by decide +kernel⟩
theorem iX6_countNow_X6 : ∀ w ∈ wsX60, w ∈ wsX6_countNow := fun _ h => List.mem_cons_of_mem _ (List.mem_append_right _ h)
set_option maxHeartbeats 4000000 in
set_option maxRecDepth 100000 in
theorem met_X6_countNow (l : Launch) (D : va_G) (cI cJ cO : ClassId) (ma : Nat) (za : Nat) (aa : Nat) (va : Nat) (ka : Nat) (ta : Nat) (y : Nat → Int32) (z : Nat → Int32) (len : Nat) (k : Nat) (j : Nat) (hz : z 6 = nI k) (hkk : k < 6) (hn : z 10 = nI len) (hn4 : len ≤ 40) (hp : okp z len) (hdr : dr1 z len = dr2 z len) (hj : j < 21) : CI l D (TY cI cJ cO) yX6_countNow wsX6_countNow ({ frames := 4, cells := 0, slots := 0, locals := 93 }) [.ref ma, .int (nI j)] [oM ma za aa va ka ta y, aI cI za 225 0 z] (cnum z len k (y 1) j) [oM ma za aa va ka ta y, aI cI za 225 0 z] := by
  refine CI.of (plainFor_of_name (by decide)) rfl (Nat.le_of_ble_eq_true rfl) (rfl) (fun p e s m below meth c A ls Q X hA w hl fin => ?_)
  obtain ⟨hx, hb, hml, hown, hts⟩ := id X.1
  have hl : lv_has ls 2 [(0, .ref ma), (1, .int (nI j))] := hl
  rcases (show j = 0 ∨ j = 1 ∨ j = 2 ∨ j = 3 ∨ j = 4 ∨ j = 5 ∨ j = 6 ∨ j = 7 ∨ j = 8 ∨ j = 9 ∨ j = 10 ∨ j = 11 ∨ j = 12 ∨ j = 13 ∨ j = 14 ∨ j = 15 ∨ j = 16 ∨ j = 17 ∨ j = 18 ∨ j = 19 ∨ j = 20 by omega) with rfl | rfl | rfl | rfl | rfl | rfl | rfl | rfl | rfl | rfl | rfl | rfl | rfl | rfl | rfl | rfl | rfl | rfl | rfl | rfl | rfl
  · refine lv_iload_n hx hb dX6_countNow_0 rfl (lv_at hl 1 rfl) ?_
    refine lv_bipush (v := 16) hx hb dX6_countNow_1 (by decide) ?_
    refine lv_bipush (v := 19) hx hb dX6_countNow_3 (by decide) ?_
    refine k_ciR (k_runS X w (met_X6_in l D cI cJ cO (nI 0) 16 19  s.heap.size) gX6_countNow_X6_in rfl rfl rfl 3 hdX6_in ⟨Nat.le_of_ble_eq_true rfl, Nat.le_of_ble_eq_true rfl⟩ [] rfl rfl rfl hl.1 rfl (Nat.le_of_ble_eq_true rfl) dX6_countNow_5 ⟨Nat.le_of_ble_eq_true rfl, Nat.le_of_ble_eq_true rfl⟩) w hA [] rfl (fun H locs w => ?_)
    refine lv_if_eq (tgt := 24) hx hb dX6_countNow_8 (by decide) (fun c1 => ?_) (fun c1 => absurd (show bI (inB (nI 0) 16 19) = 0 by decide) c1)
    refine lv_iload_n hx hb dX6_countNow_24 rfl (lv_at hl 1 rfl) ?_
    refine lv_tableIn (off := 79) (tgt := 104) hx hb dX6_countNow_25 (by decide) (by decide) (by decide) (by decide) ?_
    refine lv_aload_n hx hb dX6_countNow_104 rfl (lv_at hl 0 rfl) ?_
    refine k_get X w 0 rfl rfl 1 (by decide) rfl iX6_countNow_X6 (List.mem_of_getElem? (i := 1) rfl) (v := .ref za) rfl dX6_countNow_105 ?_
    refine lv_iload_n hx hb dX6_countNow_108 rfl (lv_at hl 1 rfl) ?_
    refine k_iald X w 1 0 rfl rfl 0 (kj := 0) rfl (by decide) (by decide) rfl (v := z 0) rfl dX6_countNow_109 ?_
    exact fin _ _ _ _ _ w (by rfl) dX6_countNow_110
  · refine lv_iload_n hx hb dX6_countNow_0 rfl (lv_at hl 1 rfl) ?_
    refine lv_bipush (v := 16) hx hb dX6_countNow_1 (by decide) ?_
    refine lv_bipush (v := 19) hx hb dX6_countNow_3 (by decide) ?_
    refine k_ciR (k_runS X w (met_X6_in l D cI cJ cO (nI 1) 16 19  s.heap.size) gX6_countNow_X6_in rfl rfl rfl 3 hdX6_in ⟨Nat.le_of_ble_eq_true rfl, Nat.le_of_ble_eq_true rfl⟩ [] rfl rfl rfl hl.1 rfl (Nat.le_of_ble_eq_true rfl) dX6_countNow_5 ⟨Nat.le_of_ble_eq_true rfl, Nat.le_of_ble_eq_true rfl⟩) w hA [] rfl (fun H locs w => ?_)
    refine lv_if_eq (tgt := 24) hx hb dX6_countNow_8 (by decide) (fun c2 => ?_) (fun c2 => absurd (show bI (inB (nI 1) 16 19) = 0 by decide) c2)
    refine lv_iload_n hx hb dX6_countNow_24 rfl (lv_at hl 1 rfl) ?_
    refine lv_tableIn (off := 79) (tgt := 104) hx hb dX6_countNow_25 (by decide) (by decide) (by decide) (by decide) ?_
    refine lv_aload_n hx hb dX6_countNow_104 rfl (lv_at hl 0 rfl) ?_
    refine k_get X w 0 rfl rfl 1 (by decide) rfl iX6_countNow_X6 (List.mem_of_getElem? (i := 1) rfl) (v := .ref za) rfl dX6_countNow_105 ?_
    refine lv_iload_n hx hb dX6_countNow_108 rfl (lv_at hl 1 rfl) ?_
    refine k_iald X w 1 0 rfl rfl 1 (kj := 1) rfl (by decide) (by decide) rfl (v := z 1) rfl dX6_countNow_109 ?_
    exact fin _ _ _ _ _ w (by rfl) dX6_countNow_110
  · refine lv_iload_n hx hb dX6_countNow_0 rfl (lv_at hl 1 rfl) ?_
    refine lv_bipush (v := 16) hx hb dX6_countNow_1 (by decide) ?_
    refine lv_bipush (v := 19) hx hb dX6_countNow_3 (by decide) ?_
    refine k_ciR (k_runS X w (met_X6_in l D cI cJ cO (nI 2) 16 19  s.heap.size) gX6_countNow_X6_in rfl rfl rfl 3 hdX6_in ⟨Nat.le_of_ble_eq_true rfl, Nat.le_of_ble_eq_true rfl⟩ [] rfl rfl rfl hl.1 rfl (Nat.le_of_ble_eq_true rfl) dX6_countNow_5 ⟨Nat.le_of_ble_eq_true rfl, Nat.le_of_ble_eq_true rfl⟩) w hA [] rfl (fun H locs w => ?_)
    refine lv_if_eq (tgt := 24) hx hb dX6_countNow_8 (by decide) (fun c3 => ?_) (fun c3 => absurd (show bI (inB (nI 2) 16 19) = 0 by decide) c3)
    refine lv_iload_n hx hb dX6_countNow_24 rfl (lv_at hl 1 rfl) ?_
    refine lv_tableIn (off := 86) (tgt := 111) hx hb dX6_countNow_25 (by decide) (by decide) (by decide) (by decide) ?_
    refine lv_aload_n hx hb dX6_countNow_111 rfl (lv_at hl 0 rfl) ?_
    refine k_get X w 0 rfl rfl 1 (by decide) rfl iX6_countNow_X6 (List.mem_of_getElem? (i := 1) rfl) (v := .ref za) rfl dX6_countNow_112 ?_
    refine lv_iload_n hx hb dX6_countNow_115 rfl (lv_at hl 1 rfl) ?_
    refine k_iald X w 1 0 rfl rfl 2 (kj := 2) rfl (by decide) (by decide) rfl (v := z 2) rfl dX6_countNow_116 ?_
    refine lv_bipush (v := 100) hx hb dX6_countNow_117 (by decide) ?_
    refine lv_iadd hx hb dX6_countNow_119 ?_
    exact fin _ _ _ _ _ w (by rfl) dX6_countNow_120
  · refine lv_iload_n hx hb dX6_countNow_0 rfl (lv_at hl 1 rfl) ?_
    refine lv_bipush (v := 16) hx hb dX6_countNow_1 (by decide) ?_
    refine lv_bipush (v := 19) hx hb dX6_countNow_3 (by decide) ?_
    refine k_ciR (k_runS X w (met_X6_in l D cI cJ cO (nI 3) 16 19  s.heap.size) gX6_countNow_X6_in rfl rfl rfl 3 hdX6_in ⟨Nat.le_of_ble_eq_true rfl, Nat.le_of_ble_eq_true rfl⟩ [] rfl rfl rfl hl.1 rfl (Nat.le_of_ble_eq_true rfl) dX6_countNow_5 ⟨Nat.le_of_ble_eq_true rfl, Nat.le_of_ble_eq_true rfl⟩) w hA [] rfl (fun H locs w => ?_)
    refine lv_if_eq (tgt := 24) hx hb dX6_countNow_8 (by decide) (fun c4 => ?_) (fun c4 => absurd (show bI (inB (nI 3) 16 19) = 0 by decide) c4)
    refine lv_iload_n hx hb dX6_countNow_24 rfl (lv_at hl 1 rfl) ?_
    refine lv_tableIn (off := 86) (tgt := 111) hx hb dX6_countNow_25 (by decide) (by decide) (by decide) (by decide) ?_
    refine lv_aload_n hx hb dX6_countNow_111 rfl (lv_at hl 0 rfl) ?_
    refine k_get X w 0 rfl rfl 1 (by decide) rfl iX6_countNow_X6 (List.mem_of_getElem? (i := 1) rfl) (v := .ref za) rfl dX6_countNow_112 ?_
    refine lv_iload_n hx hb dX6_countNow_115 rfl (lv_at hl 1 rfl) ?_
    refine k_iald X w 1 0 rfl rfl 3 (kj := 3) rfl (by decide) (by decide) rfl (v := z 3) rfl dX6_countNow_116 ?_
    refine lv_bipush (v := 100) hx hb dX6_countNow_117 (by decide) ?_
    refine lv_iadd hx hb dX6_countNow_119 ?_
    exact fin _ _ _ _ _ w (by rfl) dX6_countNow_120
  · refine lv_iload_n hx hb dX6_countNow_0 rfl (lv_at hl 1 rfl) ?_
    refine lv_bipush (v := 16) hx hb dX6_countNow_1 (by decide) ?_
    refine lv_bipush (v := 19) hx hb dX6_countNow_3 (by decide) ?_
    refine k_ciR (k_runS X w (met_X6_in l D cI cJ cO (nI 4) 16 19  s.heap.size) gX6_countNow_X6_in rfl rfl rfl 3 hdX6_in ⟨Nat.le_of_ble_eq_true rfl, Nat.le_of_ble_eq_true rfl⟩ [] rfl rfl rfl hl.1 rfl (Nat.le_of_ble_eq_true rfl) dX6_countNow_5 ⟨Nat.le_of_ble_eq_true rfl, Nat.le_of_ble_eq_true rfl⟩) w hA [] rfl (fun H locs w => ?_)
    refine lv_if_eq (tgt := 24) hx hb dX6_countNow_8 (by decide) (fun c5 => ?_) (fun c5 => absurd (show bI (inB (nI 4) 16 19) = 0 by decide) c5)
    refine lv_iload_n hx hb dX6_countNow_24 rfl (lv_at hl 1 rfl) ?_
    refine lv_tableIn (off := 79) (tgt := 104) hx hb dX6_countNow_25 (by decide) (by decide) (by decide) (by decide) ?_
    refine lv_aload_n hx hb dX6_countNow_104 rfl (lv_at hl 0 rfl) ?_
    refine k_get X w 0 rfl rfl 1 (by decide) rfl iX6_countNow_X6 (List.mem_of_getElem? (i := 1) rfl) (v := .ref za) rfl dX6_countNow_105 ?_
    refine lv_iload_n hx hb dX6_countNow_108 rfl (lv_at hl 1 rfl) ?_
    refine k_iald X w 1 0 rfl rfl 4 (kj := 4) rfl (by decide) (by decide) rfl (v := z 4) rfl dX6_countNow_109 ?_
    exact fin _ _ _ _ _ w (by rfl) dX6_countNow_110
  · refine lv_iload_n hx hb dX6_countNow_0 rfl (lv_at hl 1 rfl) ?_
    refine lv_bipush (v := 16) hx hb dX6_countNow_1 (by decide) ?_
    refine lv_bipush (v := 19) hx hb dX6_countNow_3 (by decide) ?_
    refine k_ciR (k_runS X w (met_X6_in l D cI cJ cO (nI 5) 16 19  s.heap.size) gX6_countNow_X6_in rfl rfl rfl 3 hdX6_in ⟨Nat.le_of_ble_eq_true rfl, Nat.le_of_ble_eq_true rfl⟩ [] rfl rfl rfl hl.1 rfl (Nat.le_of_ble_eq_true rfl) dX6_countNow_5 ⟨Nat.le_of_ble_eq_true rfl, Nat.le_of_ble_eq_true rfl⟩) w hA [] rfl (fun H locs w => ?_)
    refine lv_if_eq (tgt := 24) hx hb dX6_countNow_8 (by decide) (fun c6 => ?_) (fun c6 => absurd (show bI (inB (nI 5) 16 19) = 0 by decide) c6)
    refine lv_iload_n hx hb dX6_countNow_24 rfl (lv_at hl 1 rfl) ?_
    refine lv_tableIn (off := 79) (tgt := 104) hx hb dX6_countNow_25 (by decide) (by decide) (by decide) (by decide) ?_
    refine lv_aload_n hx hb dX6_countNow_104 rfl (lv_at hl 0 rfl) ?_
    refine k_get X w 0 rfl rfl 1 (by decide) rfl iX6_countNow_X6 (List.mem_of_getElem? (i := 1) rfl) (v := .ref za) rfl dX6_countNow_105 ?_
    refine lv_iload_n hx hb dX6_countNow_108 rfl (lv_at hl 1 rfl) ?_
    refine k_iald X w 1 0 rfl rfl 5 (kj := 5) rfl (by decide) (by decide) rfl (v := z 5) rfl dX6_countNow_109 ?_
    exact fin _ _ _ _ _ w (by rfl) dX6_countNow_110
  · refine lv_iload_n hx hb dX6_countNow_0 rfl (lv_at hl 1 rfl) ?_
    refine lv_bipush (v := 16) hx hb dX6_countNow_1 (by decide) ?_
    refine lv_bipush (v := 19) hx hb dX6_countNow_3 (by decide) ?_
    refine k_ciR (k_runS X w (met_X6_in l D cI cJ cO (nI 6) 16 19  s.heap.size) gX6_countNow_X6_in rfl rfl rfl 3 hdX6_in ⟨Nat.le_of_ble_eq_true rfl, Nat.le_of_ble_eq_true rfl⟩ [] rfl rfl rfl hl.1 rfl (Nat.le_of_ble_eq_true rfl) dX6_countNow_5 ⟨Nat.le_of_ble_eq_true rfl, Nat.le_of_ble_eq_true rfl⟩) w hA [] rfl (fun H locs w => ?_)
    refine lv_if_eq (tgt := 24) hx hb dX6_countNow_8 (by decide) (fun c7 => ?_) (fun c7 => absurd (show bI (inB (nI 6) 16 19) = 0 by decide) c7)
    refine lv_iload_n hx hb dX6_countNow_24 rfl (lv_at hl 1 rfl) ?_
    refine lv_tableIn (off := 79) (tgt := 104) hx hb dX6_countNow_25 (by decide) (by decide) (by decide) (by decide) ?_
    refine lv_aload_n hx hb dX6_countNow_104 rfl (lv_at hl 0 rfl) ?_
    refine k_get X w 0 rfl rfl 1 (by decide) rfl iX6_countNow_X6 (List.mem_of_getElem? (i := 1) rfl) (v := .ref za) rfl dX6_countNow_105 ?_
    refine lv_iload_n hx hb dX6_countNow_108 rfl (lv_at hl 1 rfl) ?_
    refine k_iald X w 1 0 rfl rfl 6 (kj := 6) rfl (by decide) (by decide) rfl (v := z 6) rfl dX6_countNow_109 ?_
    exact fin _ _ _ _ _ w (by rfl) dX6_countNow_110
  · refine lv_iload_n hx hb dX6_countNow_0 rfl (lv_at hl 1 rfl) ?_
    refine lv_bipush (v := 16) hx hb dX6_countNow_1 (by decide) ?_
    refine lv_bipush (v := 19) hx hb dX6_countNow_3 (by decide) ?_
    refine k_ciR (k_runS X w (met_X6_in l D cI cJ cO (nI 7) 16 19  s.heap.size) gX6_countNow_X6_in rfl rfl rfl 3 hdX6_in ⟨Nat.le_of_ble_eq_true rfl, Nat.le_of_ble_eq_true rfl⟩ [] rfl rfl rfl hl.1 rfl (Nat.le_of_ble_eq_true rfl) dX6_countNow_5 ⟨Nat.le_of_ble_eq_true rfl, Nat.le_of_ble_eq_true rfl⟩) w hA [] rfl (fun H locs w => ?_)
    refine lv_if_eq (tgt := 24) hx hb dX6_countNow_8 (by decide) (fun c8 => ?_) (fun c8 => absurd (show bI (inB (nI 7) 16 19) = 0 by decide) c8)
    refine lv_iload_n hx hb dX6_countNow_24 rfl (lv_at hl 1 rfl) ?_
    refine lv_tableIn (off := 96) (tgt := 121) hx hb dX6_countNow_25 (by decide) (by decide) (by decide) (by decide) ?_
    refine lv_aload_n hx hb dX6_countNow_121 rfl (lv_at hl 0 rfl) ?_
    refine lv_aload_n hx hb dX6_countNow_122 rfl (lv_at hl 0 rfl) ?_
    refine k_get X w 0 rfl rfl 1 (by decide) rfl iX6_countNow_X6 (List.mem_of_getElem? (i := 1) rfl) (v := .ref za) rfl dX6_countNow_123 ?_
    refine lv_bipush (v := 6) hx hb dX6_countNow_126 (by decide) ?_
    refine k_iald X w 1 0 rfl rfl 6 (kj := 6) rfl (by decide) (by decide) rfl (v := z 6) rfl dX6_countNow_128 ?_
    refine k_ciR (k_runV X w (met_X6_goes l D cI cJ cO ma za aa va ka ta y z (z 6)  H.size) gX6_countNow_X6_goes rfl rfl rfl 1 hdX6_goes ⟨Nat.le_of_ble_eq_true rfl, Nat.le_of_ble_eq_true rfl⟩ [0, 1] rfl rfl 0 6 rfl rfl rfl rfl hl.1 rfl (Nat.le_of_ble_eq_true rfl) dX6_countNow_129 ⟨Nat.le_of_ble_eq_true rfl, Nat.le_of_ble_eq_true rfl⟩) w hA [0, 1] rfl (fun H locs w => ?_)
    refine lv_if_eq (tgt := 139) hx hb dX6_countNow_132 (by decide) (fun c9 => ?_) (fun c9 => ?_)
    · have c9 := bI_f c9
      refine lv_iconst (v := 0) hx hb dX6_countNow_139 (by decide) ?_
      exact fin _ _ _ _ _ w (by rw [hz] at c9; simp [cnum, bI, c9]) dX6_countNow_140
    · have c9 := bI_t c9
      refine lv_iconst (v := 1) hx hb dX6_countNow_135 (by decide) ?_
      refine lv_goto (tgt := 140) hx hb dX6_countNow_136 (by decide) ?_
      exact fin _ _ _ _ _ w (by rw [hz] at c9; simp [cnum, bI, c9]) dX6_countNow_140
  · refine lv_iload_n hx hb dX6_countNow_0 rfl (lv_at hl 1 rfl) ?_
    refine lv_bipush (v := 16) hx hb dX6_countNow_1 (by decide) ?_
    refine lv_bipush (v := 19) hx hb dX6_countNow_3 (by decide) ?_
    refine k_ciR (k_runS X w (met_X6_in l D cI cJ cO (nI 8) 16 19  s.heap.size) gX6_countNow_X6_in rfl rfl rfl 3 hdX6_in ⟨Nat.le_of_ble_eq_true rfl, Nat.le_of_ble_eq_true rfl⟩ [] rfl rfl rfl hl.1 rfl (Nat.le_of_ble_eq_true rfl) dX6_countNow_5 ⟨Nat.le_of_ble_eq_true rfl, Nat.le_of_ble_eq_true rfl⟩) w hA [] rfl (fun H locs w => ?_)
    refine lv_if_eq (tgt := 24) hx hb dX6_countNow_8 (by decide) (fun c10 => ?_) (fun c10 => absurd (show bI (inB (nI 8) 16 19) = 0 by decide) c10)
    refine lv_iload_n hx hb dX6_countNow_24 rfl (lv_at hl 1 rfl) ?_
    refine lv_tableIn (off := 116) (tgt := 141) hx hb dX6_countNow_25 (by decide) (by decide) (by decide) (by decide) ?_
    refine lv_aload_n hx hb dX6_countNow_141 rfl (lv_at hl 0 rfl) ?_
    refine k_get X w 0 rfl rfl 1 (by decide) rfl iX6_countNow_X6 (List.mem_of_getElem? (i := 1) rfl) (v := .ref za) rfl dX6_countNow_142 ?_
    refine lv_bipush (v := 7) hx hb dX6_countNow_145 (by decide) ?_
    refine k_iald X w 1 0 rfl rfl 7 (kj := 7) rfl (by decide) (by decide) rfl (v := z 7) rfl dX6_countNow_147 ?_
    refine lv_ldc (v := 1000000) hx hb hown (hts _ (List.mem_of_getElem? (i := 2) rfl)) dX6_countNow_148 ?_
    refine lv_iadd hx hb dX6_countNow_150 ?_
    exact fin _ _ _ _ _ w (by rfl) dX6_countNow_151
  · refine lv_iload_n hx hb dX6_countNow_0 rfl (lv_at hl 1 rfl) ?_
    refine lv_bipush (v := 16) hx hb dX6_countNow_1 (by decide) ?_
    refine lv_bipush (v := 19) hx hb dX6_countNow_3 (by decide) ?_
    refine k_ciR (k_runS X w (met_X6_in l D cI cJ cO (nI 9) 16 19  s.heap.size) gX6_countNow_X6_in rfl rfl rfl 3 hdX6_in ⟨Nat.le_of_ble_eq_true rfl, Nat.le_of_ble_eq_true rfl⟩ [] rfl rfl rfl hl.1 rfl (Nat.le_of_ble_eq_true rfl) dX6_countNow_5 ⟨Nat.le_of_ble_eq_true rfl, Nat.le_of_ble_eq_true rfl⟩) w hA [] rfl (fun H locs w => ?_)
    refine lv_if_eq (tgt := 24) hx hb dX6_countNow_8 (by decide) (fun c11 => ?_) (fun c11 => absurd (show bI (inB (nI 9) 16 19) = 0 by decide) c11)
    refine lv_iload_n hx hb dX6_countNow_24 rfl (lv_at hl 1 rfl) ?_
    refine lv_tableIn (off := 127) (tgt := 152) hx hb dX6_countNow_25 (by decide) (by decide) (by decide) (by decide) ?_
    refine lv_aload_n hx hb dX6_countNow_152 rfl (lv_at hl 0 rfl) ?_
    refine k_get X w 0 rfl rfl 1 (by decide) rfl iX6_countNow_X6 (List.mem_of_getElem? (i := 1) rfl) (v := .ref za) rfl dX6_countNow_153 ?_
    refine lv_bipush (v := 8) hx hb dX6_countNow_156 (by decide) ?_
    refine k_iald X w 1 0 rfl rfl 8 (kj := 8) rfl (by decide) (by decide) rfl (v := z 8) rfl dX6_countNow_158 ?_
    exact fin _ _ _ _ _ w (by rfl) dX6_countNow_159
  · refine lv_iload_n hx hb dX6_countNow_0 rfl (lv_at hl 1 rfl) ?_
    refine lv_bipush (v := 16) hx hb dX6_countNow_1 (by decide) ?_
    refine lv_bipush (v := 19) hx hb dX6_countNow_3 (by decide) ?_
    refine k_ciR (k_runS X w (met_X6_in l D cI cJ cO (nI 10) 16 19  s.heap.size) gX6_countNow_X6_in rfl rfl rfl 3 hdX6_in ⟨Nat.le_of_ble_eq_true rfl, Nat.le_of_ble_eq_true rfl⟩ [] rfl rfl rfl hl.1 rfl (Nat.le_of_ble_eq_true rfl) dX6_countNow_5 ⟨Nat.le_of_ble_eq_true rfl, Nat.le_of_ble_eq_true rfl⟩) w hA [] rfl (fun H locs w => ?_)
    refine lv_if_eq (tgt := 24) hx hb dX6_countNow_8 (by decide) (fun c12 => ?_) (fun c12 => absurd (show bI (inB (nI 10) 16 19) = 0 by decide) c12)
    refine lv_iload_n hx hb dX6_countNow_24 rfl (lv_at hl 1 rfl) ?_
    refine lv_tableIn (off := 79) (tgt := 104) hx hb dX6_countNow_25 (by decide) (by decide) (by decide) (by decide) ?_
    refine lv_aload_n hx hb dX6_countNow_104 rfl (lv_at hl 0 rfl) ?_
    refine k_get X w 0 rfl rfl 1 (by decide) rfl iX6_countNow_X6 (List.mem_of_getElem? (i := 1) rfl) (v := .ref za) rfl dX6_countNow_105 ?_
    refine lv_iload_n hx hb dX6_countNow_108 rfl (lv_at hl 1 rfl) ?_
    refine k_iald X w 1 0 rfl rfl 10 (kj := 10) rfl (by decide) (by decide) rfl (v := z 10) rfl dX6_countNow_109 ?_
    exact fin _ _ _ _ _ w (by rfl) dX6_countNow_110
  · refine lv_iload_n hx hb dX6_countNow_0 rfl (lv_at hl 1 rfl) ?_
    refine lv_bipush (v := 16) hx hb dX6_countNow_1 (by decide) ?_
    refine lv_bipush (v := 19) hx hb dX6_countNow_3 (by decide) ?_
    refine k_ciR (k_runS X w (met_X6_in l D cI cJ cO (nI 11) 16 19  s.heap.size) gX6_countNow_X6_in rfl rfl rfl 3 hdX6_in ⟨Nat.le_of_ble_eq_true rfl, Nat.le_of_ble_eq_true rfl⟩ [] rfl rfl rfl hl.1 rfl (Nat.le_of_ble_eq_true rfl) dX6_countNow_5 ⟨Nat.le_of_ble_eq_true rfl, Nat.le_of_ble_eq_true rfl⟩) w hA [] rfl (fun H locs w => ?_)
    refine lv_if_eq (tgt := 24) hx hb dX6_countNow_8 (by decide) (fun c13 => ?_) (fun c13 => absurd (show bI (inB (nI 11) 16 19) = 0 by decide) c13)
    refine lv_iload_n hx hb dX6_countNow_24 rfl (lv_at hl 1 rfl) ?_
    refine lv_tableIn (off := 79) (tgt := 104) hx hb dX6_countNow_25 (by decide) (by decide) (by decide) (by decide) ?_
    refine lv_aload_n hx hb dX6_countNow_104 rfl (lv_at hl 0 rfl) ?_
    refine k_get X w 0 rfl rfl 1 (by decide) rfl iX6_countNow_X6 (List.mem_of_getElem? (i := 1) rfl) (v := .ref za) rfl dX6_countNow_105 ?_
    refine lv_iload_n hx hb dX6_countNow_108 rfl (lv_at hl 1 rfl) ?_
    refine k_iald X w 1 0 rfl rfl 11 (kj := 11) rfl (by decide) (by decide) rfl (v := z 11) rfl dX6_countNow_109 ?_
    exact fin _ _ _ _ _ w (by rfl) dX6_countNow_110
  · refine lv_iload_n hx hb dX6_countNow_0 rfl (lv_at hl 1 rfl) ?_
    refine lv_bipush (v := 16) hx hb dX6_countNow_1 (by decide) ?_
    refine lv_bipush (v := 19) hx hb dX6_countNow_3 (by decide) ?_
    refine k_ciR (k_runS X w (met_X6_in l D cI cJ cO (nI 12) 16 19  s.heap.size) gX6_countNow_X6_in rfl rfl rfl 3 hdX6_in ⟨Nat.le_of_ble_eq_true rfl, Nat.le_of_ble_eq_true rfl⟩ [] rfl rfl rfl hl.1 rfl (Nat.le_of_ble_eq_true rfl) dX6_countNow_5 ⟨Nat.le_of_ble_eq_true rfl, Nat.le_of_ble_eq_true rfl⟩) w hA [] rfl (fun H locs w => ?_)
    refine lv_if_eq (tgt := 24) hx hb dX6_countNow_8 (by decide) (fun c14 => ?_) (fun c14 => absurd (show bI (inB (nI 12) 16 19) = 0 by decide) c14)
    refine lv_iload_n hx hb dX6_countNow_24 rfl (lv_at hl 1 rfl) ?_
    refine lv_tableIn (off := 135) (tgt := 160) hx hb dX6_countNow_25 (by decide) (by decide) (by decide) (by decide) ?_
    refine lv_aload_n hx hb dX6_countNow_160 rfl (lv_at hl 0 rfl) ?_
    refine k_ciR (k_runV X w (met_X6_daysRate l D cI cJ cO ma za aa va ka ta y z len hn hn4 hp H.size) gX6_countNow_X6_daysRate rfl rfl rfl 0 hdX6_daysRate ⟨Nat.le_of_ble_eq_true rfl, Nat.le_of_ble_eq_true rfl⟩ [0, 1] rfl rfl 0 6 rfl rfl rfl rfl hl.1 rfl (Nat.le_of_ble_eq_true rfl) dX6_countNow_161 ⟨Nat.le_of_ble_eq_true rfl, Nat.le_of_ble_eq_true rfl⟩) w hA [0, 1] rfl (fun H locs w => ?_)
    exact fin _ _ _ _ _ w (by rfl) dX6_countNow_164
  · refine lv_iload_n hx hb dX6_countNow_0 rfl (lv_at hl 1 rfl) ?_
    refine lv_bipush (v := 16) hx hb dX6_countNow_1 (by decide) ?_
    refine lv_bipush (v := 19) hx hb dX6_countNow_3 (by decide) ?_
    refine k_ciR (k_runS X w (met_X6_in l D cI cJ cO (nI 13) 16 19  s.heap.size) gX6_countNow_X6_in rfl rfl rfl 3 hdX6_in ⟨Nat.le_of_ble_eq_true rfl, Nat.le_of_ble_eq_true rfl⟩ [] rfl rfl rfl hl.1 rfl (Nat.le_of_ble_eq_true rfl) dX6_countNow_5 ⟨Nat.le_of_ble_eq_true rfl, Nat.le_of_ble_eq_true rfl⟩) w hA [] rfl (fun H locs w => ?_)
    refine lv_if_eq (tgt := 24) hx hb dX6_countNow_8 (by decide) (fun c15 => ?_) (fun c15 => absurd (show bI (inB (nI 13) 16 19) = 0 by decide) c15)
    refine lv_iload_n hx hb dX6_countNow_24 rfl (lv_at hl 1 rfl) ?_
    refine lv_tableIn (off := 135) (tgt := 160) hx hb dX6_countNow_25 (by decide) (by decide) (by decide) (by decide) ?_
    refine lv_aload_n hx hb dX6_countNow_160 rfl (lv_at hl 0 rfl) ?_
    refine k_ciR (k_runV X w (met_X6_daysRate l D cI cJ cO ma za aa va ka ta y z len hn hn4 hp H.size) gX6_countNow_X6_daysRate rfl rfl rfl 0 hdX6_daysRate ⟨Nat.le_of_ble_eq_true rfl, Nat.le_of_ble_eq_true rfl⟩ [0, 1] rfl rfl 0 6 rfl rfl rfl rfl hl.1 rfl (Nat.le_of_ble_eq_true rfl) dX6_countNow_161 ⟨Nat.le_of_ble_eq_true rfl, Nat.le_of_ble_eq_true rfl⟩) w hA [0, 1] rfl (fun H locs w => ?_)
    exact fin _ _ _ _ _ w (by exact hdr) dX6_countNow_164
  · refine lv_iload_n hx hb dX6_countNow_0 rfl (lv_at hl 1 rfl) ?_
    refine lv_bipush (v := 16) hx hb dX6_countNow_1 (by decide) ?_
    refine lv_bipush (v := 19) hx hb dX6_countNow_3 (by decide) ?_
    refine k_ciR (k_runS X w (met_X6_in l D cI cJ cO (nI 14) 16 19  s.heap.size) gX6_countNow_X6_in rfl rfl rfl 3 hdX6_in ⟨Nat.le_of_ble_eq_true rfl, Nat.le_of_ble_eq_true rfl⟩ [] rfl rfl rfl hl.1 rfl (Nat.le_of_ble_eq_true rfl) dX6_countNow_5 ⟨Nat.le_of_ble_eq_true rfl, Nat.le_of_ble_eq_true rfl⟩) w hA [] rfl (fun H locs w => ?_)
    refine lv_if_eq (tgt := 24) hx hb dX6_countNow_8 (by decide) (fun c16 => ?_) (fun c16 => absurd (show bI (inB (nI 14) 16 19) = 0 by decide) c16)
    refine lv_iload_n hx hb dX6_countNow_24 rfl (lv_at hl 1 rfl) ?_
    refine lv_tableIn (off := 140) (tgt := 165) hx hb dX6_countNow_25 (by decide) (by decide) (by decide) (by decide) ?_
    refine lv_aload_n hx hb dX6_countNow_165 rfl (lv_at hl 0 rfl) ?_
    refine k_ciR (k_runV X w (met_X6_whyNoDay l D cI cJ cO ma za aa va ka ta y z len hn hn4 hp H.size) gX6_countNow_X6_whyNoDay rfl rfl rfl 0 hdX6_whyNoDay ⟨Nat.le_of_ble_eq_true rfl, Nat.le_of_ble_eq_true rfl⟩ [0, 1] rfl rfl 0 6 rfl rfl rfl rfl hl.1 rfl (Nat.le_of_ble_eq_true rfl) dX6_countNow_166 ⟨Nat.le_of_ble_eq_true rfl, Nat.le_of_ble_eq_true rfl⟩) w hA [0, 1] rfl (fun H locs w => ?_)
    exact fin _ _ _ _ _ w (by rfl) dX6_countNow_169
  · refine lv_iload_n hx hb dX6_countNow_0 rfl (lv_at hl 1 rfl) ?_
    refine lv_bipush (v := 16) hx hb dX6_countNow_1 (by decide) ?_
    refine lv_bipush (v := 19) hx hb dX6_countNow_3 (by decide) ?_
    refine k_ciR (k_runS X w (met_X6_in l D cI cJ cO (nI 15) 16 19  s.heap.size) gX6_countNow_X6_in rfl rfl rfl 3 hdX6_in ⟨Nat.le_of_ble_eq_true rfl, Nat.le_of_ble_eq_true rfl⟩ [] rfl rfl rfl hl.1 rfl (Nat.le_of_ble_eq_true rfl) dX6_countNow_5 ⟨Nat.le_of_ble_eq_true rfl, Nat.le_of_ble_eq_true rfl⟩) w hA [] rfl (fun H locs w => ?_)
    refine lv_if_eq (tgt := 24) hx hb dX6_countNow_8 (by decide) (fun c17 => ?_) (fun c17 => absurd (show bI (inB (nI 15) 16 19) = 0 by decide) c17)
    refine lv_iload_n hx hb dX6_countNow_24 rfl (lv_at hl 1 rfl) ?_
    refine lv_tableIn (off := 145) (tgt := 170) hx hb dX6_countNow_25 (by decide) (by decide) (by decide) (by decide) ?_
    refine lv_aload_n hx hb dX6_countNow_170 rfl (lv_at hl 0 rfl) ?_
    refine k_get X w 0 rfl rfl 1 (by decide) rfl iX6_countNow_X6 (List.mem_of_getElem? (i := 1) rfl) (v := .ref za) rfl dX6_countNow_171 ?_
    refine lv_bipush (v := 9) hx hb dX6_countNow_174 (by decide) ?_
    refine k_iald X w 1 0 rfl rfl 9 (kj := 9) rfl (by decide) (by decide) rfl (v := z 9) rfl dX6_countNow_176 ?_
    exact fin _ _ _ _ _ w (by rfl) dX6_countNow_177
  · refine lv_iload_n hx hb dX6_countNow_0 rfl (lv_at hl 1 rfl) ?_
    refine lv_bipush (v := 16) hx hb dX6_countNow_1 (by decide) ?_
    refine lv_bipush (v := 19) hx hb dX6_countNow_3 (by decide) ?_
    refine k_ciR (k_runS X w (met_X6_in l D cI cJ cO (nI 16) 16 19  s.heap.size) gX6_countNow_X6_in rfl rfl rfl 3 hdX6_in ⟨Nat.le_of_ble_eq_true rfl, Nat.le_of_ble_eq_true rfl⟩ [] rfl rfl rfl hl.1 rfl (Nat.le_of_ble_eq_true rfl) dX6_countNow_5 ⟨Nat.le_of_ble_eq_true rfl, Nat.le_of_ble_eq_true rfl⟩) w hA [] rfl (fun H locs w => ?_)
    refine lv_if_eq (tgt := 24) hx hb dX6_countNow_8 (by decide) (fun c18 => absurd c18 (by decide)) (fun c18 => ?_)
    refine lv_aload_n hx hb dX6_countNow_11 rfl (lv_at hl 0 rfl) ?_
    refine k_get X w 0 rfl rfl 1 (by decide) rfl iX6_countNow_X6 (List.mem_of_getElem? (i := 1) rfl) (v := .ref za) rfl dX6_countNow_12 ?_
    refine lv_bipush (v := 12) hx hb dX6_countNow_15 (by decide) ?_
    refine lv_iload_n hx hb dX6_countNow_17 rfl (lv_at hl 1 rfl) ?_
    refine lv_iadd hx hb dX6_countNow_18 ?_
    refine lv_bipush (v := 16) hx hb dX6_countNow_19 (by decide) ?_
    refine lv_isub hx hb dX6_countNow_21 ?_
    refine k_iald X w 1 0 rfl rfl 12 (kj := 12) rfl (by decide) (by decide) (by decide) (v := z 12) rfl dX6_countNow_22 ?_
    exact fin _ _ _ _ _ w (by rfl) dX6_countNow_23
  · refine lv_iload_n hx hb dX6_countNow_0 rfl (lv_at hl 1 rfl) ?_
    refine lv_bipush (v := 16) hx hb dX6_countNow_1 (by decide) ?_
    refine lv_bipush (v := 19) hx hb dX6_countNow_3 (by decide) ?_
    refine k_ciR (k_runS X w (met_X6_in l D cI cJ cO (nI 17) 16 19  s.heap.size) gX6_countNow_X6_in rfl rfl rfl 3 hdX6_in ⟨Nat.le_of_ble_eq_true rfl, Nat.le_of_ble_eq_true rfl⟩ [] rfl rfl rfl hl.1 rfl (Nat.le_of_ble_eq_true rfl) dX6_countNow_5 ⟨Nat.le_of_ble_eq_true rfl, Nat.le_of_ble_eq_true rfl⟩) w hA [] rfl (fun H locs w => ?_)
    refine lv_if_eq (tgt := 24) hx hb dX6_countNow_8 (by decide) (fun c19 => absurd c19 (by decide)) (fun c19 => ?_)
    refine lv_aload_n hx hb dX6_countNow_11 rfl (lv_at hl 0 rfl) ?_
    refine k_get X w 0 rfl rfl 1 (by decide) rfl iX6_countNow_X6 (List.mem_of_getElem? (i := 1) rfl) (v := .ref za) rfl dX6_countNow_12 ?_
    refine lv_bipush (v := 12) hx hb dX6_countNow_15 (by decide) ?_
    refine lv_iload_n hx hb dX6_countNow_17 rfl (lv_at hl 1 rfl) ?_
    refine lv_iadd hx hb dX6_countNow_18 ?_
    refine lv_bipush (v := 16) hx hb dX6_countNow_19 (by decide) ?_
    refine lv_isub hx hb dX6_countNow_21 ?_
    refine k_iald X w 1 0 rfl rfl 13 (kj := 13) rfl (by decide) (by decide) (by decide) (v := z 13) rfl dX6_countNow_22 ?_
    exact fin _ _ _ _ _ w (by rfl) dX6_countNow_23
  · refine lv_iload_n hx hb dX6_countNow_0 rfl (lv_at hl 1 rfl) ?_
    refine lv_bipush (v := 16) hx hb dX6_countNow_1 (by decide) ?_
    refine lv_bipush (v := 19) hx hb dX6_countNow_3 (by decide) ?_
    refine k_ciR (k_runS X w (met_X6_in l D cI cJ cO (nI 18) 16 19  s.heap.size) gX6_countNow_X6_in rfl rfl rfl 3 hdX6_in ⟨Nat.le_of_ble_eq_true rfl, Nat.le_of_ble_eq_true rfl⟩ [] rfl rfl rfl hl.1 rfl (Nat.le_of_ble_eq_true rfl) dX6_countNow_5 ⟨Nat.le_of_ble_eq_true rfl, Nat.le_of_ble_eq_true rfl⟩) w hA [] rfl (fun H locs w => ?_)
    refine lv_if_eq (tgt := 24) hx hb dX6_countNow_8 (by decide) (fun c20 => absurd c20 (by decide)) (fun c20 => ?_)
    refine lv_aload_n hx hb dX6_countNow_11 rfl (lv_at hl 0 rfl) ?_
    refine k_get X w 0 rfl rfl 1 (by decide) rfl iX6_countNow_X6 (List.mem_of_getElem? (i := 1) rfl) (v := .ref za) rfl dX6_countNow_12 ?_
    refine lv_bipush (v := 12) hx hb dX6_countNow_15 (by decide) ?_
    refine lv_iload_n hx hb dX6_countNow_17 rfl (lv_at hl 1 rfl) ?_
    refine lv_iadd hx hb dX6_countNow_18 ?_
    refine lv_bipush (v := 16) hx hb dX6_countNow_19 (by decide) ?_
    refine lv_isub hx hb dX6_countNow_21 ?_
    refine k_iald X w 1 0 rfl rfl 14 (kj := 14) rfl (by decide) (by decide) (by decide) (v := z 14) rfl dX6_countNow_22 ?_
    exact fin _ _ _ _ _ w (by rfl) dX6_countNow_23
  · refine lv_iload_n hx hb dX6_countNow_0 rfl (lv_at hl 1 rfl) ?_
    refine lv_bipush (v := 16) hx hb dX6_countNow_1 (by decide) ?_
    refine lv_bipush (v := 19) hx hb dX6_countNow_3 (by decide) ?_
    refine k_ciR (k_runS X w (met_X6_in l D cI cJ cO (nI 19) 16 19  s.heap.size) gX6_countNow_X6_in rfl rfl rfl 3 hdX6_in ⟨Nat.le_of_ble_eq_true rfl, Nat.le_of_ble_eq_true rfl⟩ [] rfl rfl rfl hl.1 rfl (Nat.le_of_ble_eq_true rfl) dX6_countNow_5 ⟨Nat.le_of_ble_eq_true rfl, Nat.le_of_ble_eq_true rfl⟩) w hA [] rfl (fun H locs w => ?_)
    refine lv_if_eq (tgt := 24) hx hb dX6_countNow_8 (by decide) (fun c21 => absurd c21 (by decide)) (fun c21 => ?_)
    refine lv_aload_n hx hb dX6_countNow_11 rfl (lv_at hl 0 rfl) ?_
    refine k_get X w 0 rfl rfl 1 (by decide) rfl iX6_countNow_X6 (List.mem_of_getElem? (i := 1) rfl) (v := .ref za) rfl dX6_countNow_12 ?_
    refine lv_bipush (v := 12) hx hb dX6_countNow_15 (by decide) ?_
    refine lv_iload_n hx hb dX6_countNow_17 rfl (lv_at hl 1 rfl) ?_
    refine lv_iadd hx hb dX6_countNow_18 ?_
    refine lv_bipush (v := 16) hx hb dX6_countNow_19 (by decide) ?_
    refine lv_isub hx hb dX6_countNow_21 ?_
    refine k_iald X w 1 0 rfl rfl 15 (kj := 15) rfl (by decide) (by decide) (by decide) (v := z 15) rfl dX6_countNow_22 ?_
    exact fin _ _ _ _ _ w (by rfl) dX6_countNow_23
  · refine lv_iload_n hx hb dX6_countNow_0 rfl (lv_at hl 1 rfl) ?_
    refine lv_bipush (v := 16) hx hb dX6_countNow_1 (by decide) ?_
    refine lv_bipush (v := 19) hx hb dX6_countNow_3 (by decide) ?_
    refine k_ciR (k_runS X w (met_X6_in l D cI cJ cO (nI 20) 16 19  s.heap.size) gX6_countNow_X6_in rfl rfl rfl 3 hdX6_in ⟨Nat.le_of_ble_eq_true rfl, Nat.le_of_ble_eq_true rfl⟩ [] rfl rfl rfl hl.1 rfl (Nat.le_of_ble_eq_true rfl) dX6_countNow_5 ⟨Nat.le_of_ble_eq_true rfl, Nat.le_of_ble_eq_true rfl⟩) w hA [] rfl (fun H locs w => ?_)
    refine lv_if_eq (tgt := 24) hx hb dX6_countNow_8 (by decide) (fun c22 => ?_) (fun c22 => absurd (show bI (inB (nI 20) 16 19) = 0 by decide) c22)
    refine lv_iload_n hx hb dX6_countNow_24 rfl (lv_at hl 1 rfl) ?_
    refine lv_tableOut (tgt := 178) hx hb dX6_countNow_25 (by decide) (by decide) ?_
    refine lv_aload_n hx hb dX6_countNow_178 rfl (lv_at hl 0 rfl) ?_
    refine k_get X w 0 rfl rfl 4 (by decide) rfl iX6_countNow_X6 (List.mem_of_getElem? (i := 3) rfl) (v := .int (y 1)) rfl dX6_countNow_179 ?_
    exact fin _ _ _ _ _ w (by rfl) dX6_countNow_182
theorem hdX6_count : yX6_count.cls = RX6 ∧ yX6_count.cls ≠ "java/lang/invoke/MethodHandle" ∧ yX6_count.cls ≠ "java/lang/invoke/VarHandle" ∧ (parseMethodDescriptor yX6_count.desc).map (fun d => d.parameters.length) = some 1 := ⟨rfl, by decide, by decide, by decide +kernel⟩
theorem iX6_count_X6 : ∀ w ∈ wsX60, w ∈ wsX6_count := fun _ h => List.mem_cons_of_mem _ (List.mem_append_right _ h)
set_option maxHeartbeats 4000000 in
set_option maxRecDepth 100000 in
theorem met_X6_count (l : Launch) (D : va_G) (cI cJ cO : ClassId) (ma : Nat) (za : Nat) (aa : Nat) (va : Nat) (ka : Nat) (ta : Nat) (y : Nat → Int32) (z : Nat → Int32) (len : Nat) (k : Nat) (j : Nat) (hz : z 6 = nI k) (hkk : k < 6) (hn : z 10 = nI len) (hn4 : len ≤ 40) (hp : okp z len) (hdr : dr1 z len = dr2 z len) (hj : j < 21) : CI l D (TY cI cJ cO) yX6_count wsX6_count ({ frames := 5, cells := 0, slots := 0, locals := 114 }) [.ref ma, .int (nI j)] [oM ma za aa va ka ta y, aI cI za 225 0 z] (cnum z len k (y 1) j) [oM ma za aa va ka ta (upd y 0 0), aI cI za 225 0 z] := by
  refine CI.of (plainFor_of_name (by decide)) rfl (Nat.le_of_ble_eq_true rfl) (rfl) (fun p e s m below meth c A ls Q X hA w hl fin => ?_)
  obtain ⟨hx, hb, hml, hown, hts⟩ := id X.1
  have hl : lv_has ls 2 [(0, .ref ma), (1, .int (nI j))] := hl
  refine lv_aload_n hx hb dX6_count_0 rfl (lv_at hl 0 rfl) ?_
  refine lv_iload_n hx hb dX6_count_1 rfl (lv_at hl 1 rfl) ?_
  refine lv_iconst (v := 0) hx hb dX6_count_2 (by decide) ?_
  refine lv_bipush (v := 20) hx hb dX6_count_3 (by decide) ?_
  refine k_ciR (k_runS X w (met_X6_in l D cI cJ cO (nI j) 0 20  s.heap.size) gX6_count_X6_in rfl rfl rfl 3 hdX6_in ⟨Nat.le_of_ble_eq_true rfl, Nat.le_of_ble_eq_true rfl⟩ [] rfl rfl rfl hl.1 rfl (Nat.le_of_ble_eq_true rfl) dX6_count_5 ⟨Nat.le_of_ble_eq_true rfl, Nat.le_of_ble_eq_true rfl⟩) w hA [] rfl (fun H locs w => ?_)
  refine lv_if_eq (tgt := 15) hx hb dX6_count_8 (by decide) (fun c1 => absurd c1 (inB_y (in_20 hj))) (fun c1 => ?_)
  refine lv_iconst (v := 0) hx hb dX6_count_11 (by decide) ?_
  refine lv_goto (tgt := 16) hx hb dX6_count_12 (by decide) ?_
  refine k_put X w 0 rfl rfl 0 (by decide) rfl iX6_count_X6 (List.mem_of_getElem? (i := 1) rfl) tyX6_ok nmX6 rfl rfl (Nat.le_of_ble_eq_true rfl) (ws2 := [oM ma za aa va ka ta (upd y 0 0), aI cI za 225 0 z]) rfl dX6_count_16 (fun H locs w => ?_)
  refine lv_aload_n hx hb dX6_count_19 rfl (lv_at hl 0 rfl) ?_
  refine k_get X w 0 rfl rfl 0 (by decide) rfl iX6_count_X6 (List.mem_of_getElem? (i := 1) rfl) (v := .int 0) (congrArg (fun t => some (Value.int t)) (upd_is _ _ _)) dX6_count_20 ?_
  refine lv_if_le (tgt := 30) hx hb dX6_count_23 (by decide) (fun c2 => ?_) (fun c2 => absurd c2 (by decide))
  refine lv_aload_n hx hb dX6_count_30 rfl (lv_at hl 0 rfl) ?_
  refine lv_iload_n hx hb dX6_count_31 rfl (lv_at hl 1 rfl) ?_
  refine k_ciR (k_runV X w (met_X6_countNow l D cI cJ cO ma za aa va ka ta (upd y 0 0) z len k j hz hkk hn hn4 hp hdr hj H.size) gX6_count_X6_countNow rfl rfl rfl 1 hdX6_countNow ⟨Nat.le_of_ble_eq_true rfl, Nat.le_of_ble_eq_true rfl⟩ [0, 1] rfl rfl 0 6 rfl rfl rfl rfl hl.1 rfl (Nat.le_of_ble_eq_true rfl) dX6_count_32 ⟨Nat.le_of_ble_eq_true rfl, Nat.le_of_ble_eq_true rfl⟩) w hA [0, 1] rfl (fun H locs w => ?_)
  exact fin _ _ _ _ _ w (by rfl) dX6_count_35
set_option maxHeartbeats 4000000 in
set_option maxRecDepth 100000 in
theorem met_X6_count_t (l : Launch) (D : va_G) (cI cJ cO : ClassId) (ma : Nat) (za : Nat) (aa : Nat) (va : Nat) (ka : Nat) (ta : Nat) (y : Nat → Int32) (x : Int32) (hin : ¬ inR x 0 20) : CI l D (TY cI cJ cO) yX6_count wsX6_count ({ frames := 1, cells := 0, slots := 0, locals := 22 }) [.ref ma, .int x] [oM ma za aa va ka ta y] 0 [oM ma za aa va ka ta (upd y 0 1)] := by
  refine CI.of (plainFor_of_name (by decide)) rfl (Nat.le_of_ble_eq_true rfl) (rfl) (fun p e s m below meth c A ls Q X hA w hl fin => ?_)
  obtain ⟨hx, hb, hml, hown, hts⟩ := id X.1
  have hl : lv_has ls 2 [(0, .ref ma), (1, .int x)] := hl
  refine lv_aload_n hx hb dX6_count_0 rfl (lv_at hl 0 rfl) ?_
  refine lv_iload_n hx hb dX6_count_1 rfl (lv_at hl 1 rfl) ?_
  refine lv_iconst (v := 0) hx hb dX6_count_2 (by decide) ?_
  refine lv_bipush (v := 20) hx hb dX6_count_3 (by decide) ?_
  refine k_ciR (k_runS X w (met_X6_in l D cI cJ cO x 0 20  s.heap.size) gX6_count_X6_in rfl rfl rfl 3 hdX6_in ⟨Nat.le_of_ble_eq_true rfl, Nat.le_of_ble_eq_true rfl⟩ [] rfl rfl rfl hl.1 rfl (Nat.le_of_ble_eq_true rfl) dX6_count_5 ⟨Nat.le_of_ble_eq_true rfl, Nat.le_of_ble_eq_true rfl⟩) w hA [] rfl (fun H locs w => ?_)
  refine lv_if_eq (tgt := 15) hx hb dX6_count_8 (by decide) (fun c1 => ?_) (fun c1 => absurd (inB_n hin) c1)
  refine lv_iconst (v := 1) hx hb dX6_count_15 (by decide) ?_
  refine k_put X w 0 rfl rfl 0 (by decide) rfl iX6_count_X6 (List.mem_of_getElem? (i := 1) rfl) tyX6_ok nmX6 rfl rfl (Nat.le_of_ble_eq_true rfl) (ws2 := [oM ma za aa va ka ta (upd y 0 1)]) rfl dX6_count_16 (fun H locs w => ?_)
  refine lv_aload_n hx hb dX6_count_19 rfl (lv_at hl 0 rfl) ?_
  refine k_get X w 0 rfl rfl 0 (by decide) rfl iX6_count_X6 (List.mem_of_getElem? (i := 1) rfl) (v := .int 1) (congrArg (fun t => some (Value.int t)) (upd_is _ _ _)) dX6_count_20 ?_
  refine lv_if_le (tgt := 30) hx hb dX6_count_23 (by decide) (fun c2 => absurd c2 (by decide)) (fun c2 => ?_)
  refine lv_iconst (v := 0) hx hb dX6_count_26 (by decide) ?_
  refine lv_goto (tgt := 35) hx hb dX6_count_27 (by decide) ?_
  exact fin _ _ _ _ _ w rfl dX6_count_35
theorem hdX6_worn : yX6_worn.cls = RX6 ∧ yX6_worn.cls ≠ "java/lang/invoke/MethodHandle" ∧ yX6_worn.cls ≠ "java/lang/invoke/VarHandle" ∧ (parseMethodDescriptor yX6_worn.desc).map (fun d => d.parameters.length) = some 4 := ⟨rfl, by decide, by decide, by decide +kernel⟩
theorem iX6_worn_X6 : ∀ w ∈ wsX60, w ∈ wsX6_worn := fun _ h => List.mem_cons_of_mem _ (List.mem_append_right _ h)
set_option maxHeartbeats 4000000 in
set_option maxRecDepth 100000 in
theorem met_X6_worn (l : Launch) (D : va_G) (cI cJ cO : ClassId) (ma : Nat) (za : Nat) (aa : Nat) (va : Nat) (ka : Nat) (ta : Nat) (y : Nat → Int32) (z : Nat → Int32) (ad : Nat → Int32) (i : Nat) (j : Nat) (k : Nat) (wh : Nat) (hob : okb z) (hi : i < 6) (hj : j < 6) (hk : k < 6) (hw : wh < 2) : CI l D (TY cI cJ cO) yX6_worn wsX6_worn ({ frames := 4, cells := 0, slots := 0, locals := 88 }) [.ref ma, .int (nI i), .int (nI j), .int (nI k), .int (nI wh)] [oM ma za aa va ka ta y, aI cI za 225 0 z, aI cI aa 225 0 ad] (wornN z i j k wh) [oM ma za aa va ka ta y, aI cI za 225 0 z, aI cI aa 225 0 z] := by
  refine CI.of (plainFor_of_name (by decide)) rfl (Nat.le_of_ble_eq_true rfl) (rfl) (fun p e s m below meth c A ls Q X hA w hl fin => ?_)
  obtain ⟨hx, hb, hml, hown, hts⟩ := id X.1
  have hl : lv_has ls 7 [(0, .ref ma), (1, .int (nI i)), (2, .int (nI j)), (3, .int (nI k)), (4, .int (nI wh))] := hl
  rcases (show wh = 0 ∨ wh = 1 by omega) with rfl | rfl
  · refine lv_aload_n hx hb dX6_worn_0 rfl (lv_at hl 0 rfl) ?_
    refine k_cv (wr := []) (ws2 := [oM ma za aa va ka ta y, aI cI za 225 0 z, aI cI aa 225 0 z]) (k_runV X w (met_X6_putAside l D cI cJ cO ma za aa va ka ta y z ad  s.heap.size) gX6_worn_X6_putAside rfl rfl rfl 0 hdX6_putAside ⟨Nat.le_of_ble_eq_true rfl, Nat.le_of_ble_eq_true rfl⟩ [0, 1, 2] rfl rfl 0 6 rfl rfl rfl rfl hl.1 rfl (Nat.le_of_ble_eq_true rfl) dX6_worn_1 ⟨Nat.le_of_ble_eq_true rfl, Nat.le_of_ble_eq_true rfl⟩) w hA [0, 1, 2] [] rfl rfl rfl (by decide) [0, 1, 2] rfl rfl (fun H locs w => ?_)
    refine lv_aload_n hx hb dX6_worn_4 rfl (lv_at hl 0 rfl) ?_
    refine k_get X w 0 rfl rfl 1 (by decide) rfl iX6_worn_X6 (List.mem_of_getElem? (i := 1) rfl) (v := .ref za) rfl dX6_worn_5 ?_
    refine lv_bipush (v := 6) hx hb dX6_worn_8 (by decide) ?_
    refine lv_iload_n hx hb dX6_worn_10 rfl (lv_at hl 1 rfl) ?_
    refine k_iast X w 1 0 rfl rfl 6 (kj := 6) rfl (by decide) (by decide) rfl (ws2 := [oM ma za aa va ka ta y, aI cI za 225 0 (upd z 6 (nI i)), aI cI aa 225 0 z]) rfl dX6_worn_11 (fun H locs w => ?_)
    refine lv_aload_n hx hb dX6_worn_12 rfl (lv_at hl 0 rfl) ?_
    refine lv_bipush (v := 8) hx hb dX6_worn_13 (by decide) ?_
    refine k_ci (wr := [aI cI aa 225 0 z]) (ws2 := [oM ma za aa va ka ta y, aI cI za 225 0 (hoursF 8 (upd z 6 (nI i)) i), aI cI aa 225 0 z]) (k_runV X w (met_X6_hours l D cI cJ cO ma za aa va ka ta y (upd z 6 (nI i)) i 8 (okb_u (by omega) hob) (upd_is _ _ _) hi (by decide) H.size) gX6_worn_X6_hours rfl rfl rfl 1 hdX6_hours ⟨Nat.le_of_ble_eq_true rfl, Nat.le_of_ble_eq_true rfl⟩ [0, 1] rfl rfl 0 6 rfl rfl rfl rfl hl.1 rfl (Nat.le_of_ble_eq_true rfl) dX6_worn_15 ⟨Nat.le_of_ble_eq_true rfl, Nat.le_of_ble_eq_true rfl⟩) w hA [0, 1] [2] rfl rfl rfl (by decide) [1, 2, 0] rfl rfl (fun H locs w => ?_)
    obtain ⟨u1, e1⟩ : ∃ u, hoursF 8 (upd z 6 (nI i)) i = u := ⟨_, rfl⟩
    rw [e1] at w
    rw [e1, show (upd z 6 (nI i)) 9 = z 9 from rfl]
    have h1 : u1 = wz1 z i := by rw [← e1]; rfl
    have b1 : okb u1 := by rw [← e1]; exact hoursF_okb 8 (okb_u (by omega) hob)
    refine lv_istore (lv' := [(5, .int (u1 9 - z 9)), (0, .ref ma), (1, .int (nI i)), (2, .int (nI j)), (3, .int (nI k)), (4, .int (nI 0))]) hx hb dX6_worn_18 hl (by decide) rfl (fun ls hl => ?_)
    refine lv_aload_n hx hb dX6_worn_20 rfl (lv_at hl 1 rfl) ?_
    refine k_get X w 0 rfl rfl 1 (by decide) rfl iX6_worn_X6 (List.mem_of_getElem? (i := 1) rfl) (v := .ref za) rfl dX6_worn_21 ?_
    refine lv_bipush (v := 6) hx hb dX6_worn_24 (by decide) ?_
    refine lv_iload_n hx hb dX6_worn_26 rfl (lv_at hl 3 rfl) ?_
    refine k_iast X w 1 0 rfl rfl 6 (kj := 6) rfl (by decide) (by decide) rfl (ws2 := [oM ma za aa va ka ta y, aI cI za 225 0 (upd u1 6 (nI j)), aI cI aa 225 0 z]) rfl dX6_worn_27 (fun H locs w => ?_)
    refine lv_iload hx hb dX6_worn_28 (lv_at hl 0 rfl) ?_
    refine lv_aload_n hx hb dX6_worn_30 rfl (lv_at hl 1 rfl) ?_
    refine lv_bipush (v := 8) hx hb dX6_worn_31 (by decide) ?_
    refine k_ci (wr := [aI cI aa 225 0 z]) (ws2 := [oM ma za aa va ka ta y, aI cI za 225 0 (hoursF 8 (upd u1 6 (nI j)) j), aI cI aa 225 0 z]) (k_runV X w (met_X6_hours l D cI cJ cO ma za aa va ka ta y (upd u1 6 (nI j)) j 8 (okb_u (by omega) b1) (upd_is _ _ _) hj (by decide) H.size) gX6_worn_X6_hours rfl rfl rfl 1 hdX6_hours ⟨Nat.le_of_ble_eq_true rfl, Nat.le_of_ble_eq_true rfl⟩ [0, 1] rfl rfl 0 6 rfl rfl rfl rfl hl.1 rfl (Nat.le_of_ble_eq_true rfl) dX6_worn_33 ⟨Nat.le_of_ble_eq_true rfl, Nat.le_of_ble_eq_true rfl⟩) w hA [0, 1] [2] rfl rfl rfl (by decide) [1, 2, 0] rfl rfl (fun H locs w => ?_)
    obtain ⟨u2, e2⟩ : ∃ u, hoursF 8 (upd u1 6 (nI j)) j = u := ⟨_, rfl⟩
    rw [e2] at w
    rw [e2, show (upd u1 6 (nI j)) 9 = u1 9 from rfl]
    have h2 : u2 = wz2 z i j := by rw [← e2, h1]; rfl
    have b2 : okb u2 := by rw [← e2]; exact hoursF_okb 8 (okb_u (by omega) b1)
    refine lv_iadd hx hb dX6_worn_36 ?_
    refine lv_istore (lv' := [(5, .int ((u1 9 - z 9) + (u2 9 - u1 9))), (0, .ref ma), (1, .int (nI i)), (2, .int (nI j)), (3, .int (nI k)), (4, .int (nI 0))]) hx hb dX6_worn_37 hl (by decide) rfl (fun ls hl => ?_)
    refine lv_aload_n hx hb dX6_worn_39 rfl (lv_at hl 1 rfl) ?_
    refine k_get X w 0 rfl rfl 1 (by decide) rfl iX6_worn_X6 (List.mem_of_getElem? (i := 1) rfl) (v := .ref za) rfl dX6_worn_40 ?_
    refine lv_bipush (v := 6) hx hb dX6_worn_43 (by decide) ?_
    refine lv_iload_n hx hb dX6_worn_45 rfl (lv_at hl 4 rfl) ?_
    refine k_iast X w 1 0 rfl rfl 6 (kj := 6) rfl (by decide) (by decide) rfl (ws2 := [oM ma za aa va ka ta y, aI cI za 225 0 (upd u2 6 (nI k)), aI cI aa 225 0 z]) rfl dX6_worn_46 (fun H locs w => ?_)
    refine lv_iload hx hb dX6_worn_47 (lv_at hl 0 rfl) ?_
    refine lv_aload_n hx hb dX6_worn_49 rfl (lv_at hl 1 rfl) ?_
    refine lv_bipush (v := 8) hx hb dX6_worn_50 (by decide) ?_
    refine k_ci (wr := [aI cI aa 225 0 z]) (ws2 := [oM ma za aa va ka ta y, aI cI za 225 0 (hoursF 8 (upd u2 6 (nI k)) k), aI cI aa 225 0 z]) (k_runV X w (met_X6_hours l D cI cJ cO ma za aa va ka ta y (upd u2 6 (nI k)) k 8 (okb_u (by omega) b2) (upd_is _ _ _) hk (by decide) H.size) gX6_worn_X6_hours rfl rfl rfl 1 hdX6_hours ⟨Nat.le_of_ble_eq_true rfl, Nat.le_of_ble_eq_true rfl⟩ [0, 1] rfl rfl 0 6 rfl rfl rfl rfl hl.1 rfl (Nat.le_of_ble_eq_true rfl) dX6_worn_52 ⟨Nat.le_of_ble_eq_true rfl, Nat.le_of_ble_eq_true rfl⟩) w hA [0, 1] [2] rfl rfl rfl (by decide) [1, 2, 0] rfl rfl (fun H locs w => ?_)
    obtain ⟨u3, e3⟩ : ∃ u, hoursF 8 (upd u2 6 (nI k)) k = u := ⟨_, rfl⟩
    rw [e3] at w
    rw [e3, show (upd u2 6 (nI k)) 9 = u2 9 from rfl]
    have h3 : u3 = wz3 z i j k := by rw [← e3, h2]; rfl
    have b3 : okb u3 := by rw [← e3]; exact hoursF_okb 8 (okb_u (by omega) b2)
    refine lv_iadd hx hb dX6_worn_55 ?_
    refine lv_istore (lv' := [(5, .int (((u1 9 - z 9) + (u2 9 - u1 9)) + (u3 9 - u2 9))), (0, .ref ma), (1, .int (nI i)), (2, .int (nI j)), (3, .int (nI k)), (4, .int (nI 0))]) hx hb dX6_worn_56 hl (by decide) rfl (fun ls hl => ?_)
    refine lv_aload_n hx hb dX6_worn_58 rfl (lv_at hl 1 rfl) ?_
    refine k_get X w 0 rfl rfl 1 (by decide) rfl iX6_worn_X6 (List.mem_of_getElem? (i := 1) rfl) (v := .ref za) rfl dX6_worn_59 ?_
    refine lv_bipush (v := 7) hx hb dX6_worn_62 (by decide) ?_
    refine k_iald X w 1 0 rfl rfl 7 (kj := 7) rfl (by decide) (by decide) rfl (v := u3 7) rfl dX6_worn_64 ?_
    refine lv_aload_n hx hb dX6_worn_65 rfl (lv_at hl 1 rfl) ?_
    refine k_get X w 0 rfl rfl 2 (by decide) rfl iX6_worn_X6 (List.mem_of_getElem? (i := 2) rfl) (v := .ref aa) rfl dX6_worn_66 ?_
    refine lv_bipush (v := 7) hx hb dX6_worn_69 (by decide) ?_
    refine k_iald X w 2 0 rfl rfl 7 (kj := 7) rfl (by decide) (by decide) rfl (v := z 7) rfl dX6_worn_71 ?_
    refine lv_isub hx hb dX6_worn_72 ?_
    refine lv_istore (lv' := [(6, .int ((u3 7) - (z 7))), (5, .int (((u1 9 - z 9) + (u2 9 - u1 9)) + (u3 9 - u2 9))), (0, .ref ma), (1, .int (nI i)), (2, .int (nI j)), (3, .int (nI k)), (4, .int (nI 0))]) hx hb dX6_worn_73 hl (by decide) rfl (fun ls hl => ?_)
    refine lv_aload_n hx hb dX6_worn_75 rfl (lv_at hl 2 rfl) ?_
    refine k_cv (wr := []) (ws2 := [oM ma za aa va ka ta y, aI cI za 225 0 z, aI cI aa 225 0 z]) (k_runV X w (met_X6_putBack l D cI cJ cO ma za aa va ka ta y u3 z  H.size) gX6_worn_X6_putBack rfl rfl rfl 0 hdX6_putBack ⟨Nat.le_of_ble_eq_true rfl, Nat.le_of_ble_eq_true rfl⟩ [0, 1, 2] rfl rfl 0 6 rfl rfl rfl rfl hl.1 rfl (Nat.le_of_ble_eq_true rfl) dX6_worn_76 ⟨Nat.le_of_ble_eq_true rfl, Nat.le_of_ble_eq_true rfl⟩) w hA [0, 1, 2] [] rfl rfl rfl (by decide) [0, 1, 2] rfl rfl (fun H locs w => ?_)
    refine lv_iload hx hb dX6_worn_79 (lv_at hl 6 rfl) ?_
    refine lv_if_ne (tgt := 92) hx hb dX6_worn_81 (by decide) (fun c1 => absurd c1 (by decide)) (fun c1 => ?_)
    refine lv_iload hx hb dX6_worn_84 (lv_at hl 0 rfl) ?_
    refine lv_ldc (v := 100000) hx hb hown (hts _ (List.mem_of_getElem? (i := 3) rfl)) dX6_worn_86 ?_
    refine lv_iadd hx hb dX6_worn_88 ?_
    refine lv_goto (tgt := 94) hx hb dX6_worn_89 (by decide) ?_
    exact fin _ _ _ _ _ w (by rw [h3]; rfl) dX6_worn_94
  · refine lv_aload_n hx hb dX6_worn_0 rfl (lv_at hl 0 rfl) ?_
    refine k_cv (wr := []) (ws2 := [oM ma za aa va ka ta y, aI cI za 225 0 z, aI cI aa 225 0 z]) (k_runV X w (met_X6_putAside l D cI cJ cO ma za aa va ka ta y z ad  s.heap.size) gX6_worn_X6_putAside rfl rfl rfl 0 hdX6_putAside ⟨Nat.le_of_ble_eq_true rfl, Nat.le_of_ble_eq_true rfl⟩ [0, 1, 2] rfl rfl 0 6 rfl rfl rfl rfl hl.1 rfl (Nat.le_of_ble_eq_true rfl) dX6_worn_1 ⟨Nat.le_of_ble_eq_true rfl, Nat.le_of_ble_eq_true rfl⟩) w hA [0, 1, 2] [] rfl rfl rfl (by decide) [0, 1, 2] rfl rfl (fun H locs w => ?_)
    refine lv_aload_n hx hb dX6_worn_4 rfl (lv_at hl 0 rfl) ?_
    refine k_get X w 0 rfl rfl 1 (by decide) rfl iX6_worn_X6 (List.mem_of_getElem? (i := 1) rfl) (v := .ref za) rfl dX6_worn_5 ?_
    refine lv_bipush (v := 6) hx hb dX6_worn_8 (by decide) ?_
    refine lv_iload_n hx hb dX6_worn_10 rfl (lv_at hl 1 rfl) ?_
    refine k_iast X w 1 0 rfl rfl 6 (kj := 6) rfl (by decide) (by decide) rfl (ws2 := [oM ma za aa va ka ta y, aI cI za 225 0 (upd z 6 (nI i)), aI cI aa 225 0 z]) rfl dX6_worn_11 (fun H locs w => ?_)
    refine lv_aload_n hx hb dX6_worn_12 rfl (lv_at hl 0 rfl) ?_
    refine lv_bipush (v := 8) hx hb dX6_worn_13 (by decide) ?_
    refine k_ci (wr := [aI cI aa 225 0 z]) (ws2 := [oM ma za aa va ka ta y, aI cI za 225 0 (hoursF 8 (upd z 6 (nI i)) i), aI cI aa 225 0 z]) (k_runV X w (met_X6_hours l D cI cJ cO ma za aa va ka ta y (upd z 6 (nI i)) i 8 (okb_u (by omega) hob) (upd_is _ _ _) hi (by decide) H.size) gX6_worn_X6_hours rfl rfl rfl 1 hdX6_hours ⟨Nat.le_of_ble_eq_true rfl, Nat.le_of_ble_eq_true rfl⟩ [0, 1] rfl rfl 0 6 rfl rfl rfl rfl hl.1 rfl (Nat.le_of_ble_eq_true rfl) dX6_worn_15 ⟨Nat.le_of_ble_eq_true rfl, Nat.le_of_ble_eq_true rfl⟩) w hA [0, 1] [2] rfl rfl rfl (by decide) [1, 2, 0] rfl rfl (fun H locs w => ?_)
    obtain ⟨u1, e1⟩ : ∃ u, hoursF 8 (upd z 6 (nI i)) i = u := ⟨_, rfl⟩
    rw [e1] at w
    rw [e1, show (upd z 6 (nI i)) 9 = z 9 from rfl]
    have h1 : u1 = wz1 z i := by rw [← e1]; rfl
    have b1 : okb u1 := by rw [← e1]; exact hoursF_okb 8 (okb_u (by omega) hob)
    refine lv_istore (lv' := [(5, .int (u1 9 - z 9)), (0, .ref ma), (1, .int (nI i)), (2, .int (nI j)), (3, .int (nI k)), (4, .int (nI 1))]) hx hb dX6_worn_18 hl (by decide) rfl (fun ls hl => ?_)
    refine lv_aload_n hx hb dX6_worn_20 rfl (lv_at hl 1 rfl) ?_
    refine k_get X w 0 rfl rfl 1 (by decide) rfl iX6_worn_X6 (List.mem_of_getElem? (i := 1) rfl) (v := .ref za) rfl dX6_worn_21 ?_
    refine lv_bipush (v := 6) hx hb dX6_worn_24 (by decide) ?_
    refine lv_iload_n hx hb dX6_worn_26 rfl (lv_at hl 3 rfl) ?_
    refine k_iast X w 1 0 rfl rfl 6 (kj := 6) rfl (by decide) (by decide) rfl (ws2 := [oM ma za aa va ka ta y, aI cI za 225 0 (upd u1 6 (nI j)), aI cI aa 225 0 z]) rfl dX6_worn_27 (fun H locs w => ?_)
    refine lv_iload hx hb dX6_worn_28 (lv_at hl 0 rfl) ?_
    refine lv_aload_n hx hb dX6_worn_30 rfl (lv_at hl 1 rfl) ?_
    refine lv_bipush (v := 8) hx hb dX6_worn_31 (by decide) ?_
    refine k_ci (wr := [aI cI aa 225 0 z]) (ws2 := [oM ma za aa va ka ta y, aI cI za 225 0 (hoursF 8 (upd u1 6 (nI j)) j), aI cI aa 225 0 z]) (k_runV X w (met_X6_hours l D cI cJ cO ma za aa va ka ta y (upd u1 6 (nI j)) j 8 (okb_u (by omega) b1) (upd_is _ _ _) hj (by decide) H.size) gX6_worn_X6_hours rfl rfl rfl 1 hdX6_hours ⟨Nat.le_of_ble_eq_true rfl, Nat.le_of_ble_eq_true rfl⟩ [0, 1] rfl rfl 0 6 rfl rfl rfl rfl hl.1 rfl (Nat.le_of_ble_eq_true rfl) dX6_worn_33 ⟨Nat.le_of_ble_eq_true rfl, Nat.le_of_ble_eq_true rfl⟩) w hA [0, 1] [2] rfl rfl rfl (by decide) [1, 2, 0] rfl rfl (fun H locs w => ?_)
    obtain ⟨u2, e2⟩ : ∃ u, hoursF 8 (upd u1 6 (nI j)) j = u := ⟨_, rfl⟩
    rw [e2] at w
    rw [e2, show (upd u1 6 (nI j)) 9 = u1 9 from rfl]
    have h2 : u2 = wz2 z i j := by rw [← e2, h1]; rfl
    have b2 : okb u2 := by rw [← e2]; exact hoursF_okb 8 (okb_u (by omega) b1)
    refine lv_iadd hx hb dX6_worn_36 ?_
    refine lv_istore (lv' := [(5, .int ((u1 9 - z 9) + (u2 9 - u1 9))), (0, .ref ma), (1, .int (nI i)), (2, .int (nI j)), (3, .int (nI k)), (4, .int (nI 1))]) hx hb dX6_worn_37 hl (by decide) rfl (fun ls hl => ?_)
    refine lv_aload_n hx hb dX6_worn_39 rfl (lv_at hl 1 rfl) ?_
    refine k_get X w 0 rfl rfl 1 (by decide) rfl iX6_worn_X6 (List.mem_of_getElem? (i := 1) rfl) (v := .ref za) rfl dX6_worn_40 ?_
    refine lv_bipush (v := 6) hx hb dX6_worn_43 (by decide) ?_
    refine lv_iload_n hx hb dX6_worn_45 rfl (lv_at hl 4 rfl) ?_
    refine k_iast X w 1 0 rfl rfl 6 (kj := 6) rfl (by decide) (by decide) rfl (ws2 := [oM ma za aa va ka ta y, aI cI za 225 0 (upd u2 6 (nI k)), aI cI aa 225 0 z]) rfl dX6_worn_46 (fun H locs w => ?_)
    refine lv_iload hx hb dX6_worn_47 (lv_at hl 0 rfl) ?_
    refine lv_aload_n hx hb dX6_worn_49 rfl (lv_at hl 1 rfl) ?_
    refine lv_bipush (v := 8) hx hb dX6_worn_50 (by decide) ?_
    refine k_ci (wr := [aI cI aa 225 0 z]) (ws2 := [oM ma za aa va ka ta y, aI cI za 225 0 (hoursF 8 (upd u2 6 (nI k)) k), aI cI aa 225 0 z]) (k_runV X w (met_X6_hours l D cI cJ cO ma za aa va ka ta y (upd u2 6 (nI k)) k 8 (okb_u (by omega) b2) (upd_is _ _ _) hk (by decide) H.size) gX6_worn_X6_hours rfl rfl rfl 1 hdX6_hours ⟨Nat.le_of_ble_eq_true rfl, Nat.le_of_ble_eq_true rfl⟩ [0, 1] rfl rfl 0 6 rfl rfl rfl rfl hl.1 rfl (Nat.le_of_ble_eq_true rfl) dX6_worn_52 ⟨Nat.le_of_ble_eq_true rfl, Nat.le_of_ble_eq_true rfl⟩) w hA [0, 1] [2] rfl rfl rfl (by decide) [1, 2, 0] rfl rfl (fun H locs w => ?_)
    obtain ⟨u3, e3⟩ : ∃ u, hoursF 8 (upd u2 6 (nI k)) k = u := ⟨_, rfl⟩
    rw [e3] at w
    rw [e3, show (upd u2 6 (nI k)) 9 = u2 9 from rfl]
    have h3 : u3 = wz3 z i j k := by rw [← e3, h2]; rfl
    have b3 : okb u3 := by rw [← e3]; exact hoursF_okb 8 (okb_u (by omega) b2)
    refine lv_iadd hx hb dX6_worn_55 ?_
    refine lv_istore (lv' := [(5, .int (((u1 9 - z 9) + (u2 9 - u1 9)) + (u3 9 - u2 9))), (0, .ref ma), (1, .int (nI i)), (2, .int (nI j)), (3, .int (nI k)), (4, .int (nI 1))]) hx hb dX6_worn_56 hl (by decide) rfl (fun ls hl => ?_)
    refine lv_aload_n hx hb dX6_worn_58 rfl (lv_at hl 1 rfl) ?_
    refine k_get X w 0 rfl rfl 1 (by decide) rfl iX6_worn_X6 (List.mem_of_getElem? (i := 1) rfl) (v := .ref za) rfl dX6_worn_59 ?_
    refine lv_bipush (v := 7) hx hb dX6_worn_62 (by decide) ?_
    refine k_iald X w 1 0 rfl rfl 7 (kj := 7) rfl (by decide) (by decide) rfl (v := u3 7) rfl dX6_worn_64 ?_
    refine lv_aload_n hx hb dX6_worn_65 rfl (lv_at hl 1 rfl) ?_
    refine k_get X w 0 rfl rfl 2 (by decide) rfl iX6_worn_X6 (List.mem_of_getElem? (i := 2) rfl) (v := .ref aa) rfl dX6_worn_66 ?_
    refine lv_bipush (v := 7) hx hb dX6_worn_69 (by decide) ?_
    refine k_iald X w 2 0 rfl rfl 7 (kj := 7) rfl (by decide) (by decide) rfl (v := z 7) rfl dX6_worn_71 ?_
    refine lv_isub hx hb dX6_worn_72 ?_
    refine lv_istore (lv' := [(6, .int ((u3 7) - (z 7))), (5, .int (((u1 9 - z 9) + (u2 9 - u1 9)) + (u3 9 - u2 9))), (0, .ref ma), (1, .int (nI i)), (2, .int (nI j)), (3, .int (nI k)), (4, .int (nI 1))]) hx hb dX6_worn_73 hl (by decide) rfl (fun ls hl => ?_)
    refine lv_aload_n hx hb dX6_worn_75 rfl (lv_at hl 2 rfl) ?_
    refine k_cv (wr := []) (ws2 := [oM ma za aa va ka ta y, aI cI za 225 0 z, aI cI aa 225 0 z]) (k_runV X w (met_X6_putBack l D cI cJ cO ma za aa va ka ta y u3 z  H.size) gX6_worn_X6_putBack rfl rfl rfl 0 hdX6_putBack ⟨Nat.le_of_ble_eq_true rfl, Nat.le_of_ble_eq_true rfl⟩ [0, 1, 2] rfl rfl 0 6 rfl rfl rfl rfl hl.1 rfl (Nat.le_of_ble_eq_true rfl) dX6_worn_76 ⟨Nat.le_of_ble_eq_true rfl, Nat.le_of_ble_eq_true rfl⟩) w hA [0, 1, 2] [] rfl rfl rfl (by decide) [0, 1, 2] rfl rfl (fun H locs w => ?_)
    refine lv_iload hx hb dX6_worn_79 (lv_at hl 6 rfl) ?_
    refine lv_if_ne (tgt := 92) hx hb dX6_worn_81 (by decide) (fun c2 => ?_) (fun c2 => absurd c2 (by decide))
    refine lv_iload hx hb dX6_worn_92 (lv_at hl 1 rfl) ?_
    exact fin _ _ _ _ _ w (by rw [h1, h2, h3]; rfl) dX6_worn_94
theorem hdX6_ifWorn : yX6_ifWorn.cls = RX6 ∧ yX6_ifWorn.cls ≠ "java/lang/invoke/MethodHandle" ∧ yX6_ifWorn.cls ≠ "java/lang/invoke/VarHandle" ∧ (parseMethodDescriptor yX6_ifWorn.desc).map (fun d => d.parameters.length) = some 4 := ⟨rfl, by decide, by decide, by decide +kernel⟩
theorem iX6_ifWorn_X6 : ∀ w ∈ wsX60, w ∈ wsX6_ifWorn := fun _ h => List.mem_cons_of_mem _ (List.mem_append_right _ h)
set_option maxHeartbeats 4000000 in
set_option maxRecDepth 100000 in
theorem met_X6_ifWorn (l : Launch) (D : va_G) (cI cJ cO : ClassId) (ma : Nat) (za : Nat) (aa : Nat) (va : Nat) (ka : Nat) (ta : Nat) (y : Nat → Int32) (z : Nat → Int32) (ad : Nat → Int32) (i : Nat) (j : Nat) (k : Nat) (wh : Nat) (hob : okb z) (hi : i < 6) (hj : j < 6) (hk : k < 6) (hw : wh < 2) : CI l D (TY cI cJ cO) yX6_ifWorn wsX6_ifWorn ({ frames := 5, cells := 0, slots := 0, locals := 114 }) [.ref ma, .int (nI i), .int (nI j), .int (nI k), .int (nI wh)] [oM ma za aa va ka ta y, aI cI za 225 0 z, aI cI aa 225 0 ad] (wornN z i j k wh) [oM ma za aa va ka ta (upd y 0 0), aI cI za 225 0 z, aI cI aa 225 0 z] := by
  refine CI.of (plainFor_of_name (by decide)) rfl (Nat.le_of_ble_eq_true rfl) (rfl) (fun p e s m below meth c A ls Q X hA w hl fin => ?_)
  obtain ⟨hx, hb, hml, hown, hts⟩ := id X.1
  have hl : lv_has ls 5 [(0, .ref ma), (1, .int (nI i)), (2, .int (nI j)), (3, .int (nI k)), (4, .int (nI wh))] := hl
  refine lv_aload_n hx hb dX6_ifWorn_0 rfl (lv_at hl 0 rfl) ?_
  refine lv_iload_n hx hb dX6_ifWorn_1 rfl (lv_at hl 1 rfl) ?_
  refine k_ciR (k_runS X w (met_X6_isPose l D cI cJ cO (nI i)  s.heap.size) gX6_ifWorn_X6_isPose rfl rfl rfl 1 hdX6_isPose ⟨Nat.le_of_ble_eq_true rfl, Nat.le_of_ble_eq_true rfl⟩ [] rfl rfl rfl hl.1 rfl (Nat.le_of_ble_eq_true rfl) dX6_ifWorn_2 ⟨Nat.le_of_ble_eq_true rfl, Nat.le_of_ble_eq_true rfl⟩) w hA [] rfl (fun H locs w => ?_)
  refine lv_if_eq (tgt := 22) hx hb dX6_ifWorn_5 (by decide) (fun c1 => absurd c1 (in5 hi)) (fun c1 => ?_)
  refine lv_iload_n hx hb dX6_ifWorn_8 rfl (lv_at hl 2 rfl) ?_
  refine k_ciR (k_runS X w (met_X6_isPose l D cI cJ cO (nI j)  H.size) gX6_ifWorn_X6_isPose rfl rfl rfl 1 hdX6_isPose ⟨Nat.le_of_ble_eq_true rfl, Nat.le_of_ble_eq_true rfl⟩ [] rfl rfl rfl hl.1 rfl (Nat.le_of_ble_eq_true rfl) dX6_ifWorn_9 ⟨Nat.le_of_ble_eq_true rfl, Nat.le_of_ble_eq_true rfl⟩) w hA [] rfl (fun H locs w => ?_)
  refine lv_if_eq (tgt := 22) hx hb dX6_ifWorn_12 (by decide) (fun c2 => absurd c2 (in5 hj)) (fun c2 => ?_)
  refine lv_iload_n hx hb dX6_ifWorn_15 rfl (lv_at hl 3 rfl) ?_
  refine k_ciR (k_runS X w (met_X6_isPose l D cI cJ cO (nI k)  H.size) gX6_ifWorn_X6_isPose rfl rfl rfl 1 hdX6_isPose ⟨Nat.le_of_ble_eq_true rfl, Nat.le_of_ble_eq_true rfl⟩ [] rfl rfl rfl hl.1 rfl (Nat.le_of_ble_eq_true rfl) dX6_ifWorn_16 ⟨Nat.le_of_ble_eq_true rfl, Nat.le_of_ble_eq_true rfl⟩) w hA [] rfl (fun H locs w => ?_)
  refine lv_if_ne (tgt := 26) hx hb dX6_ifWorn_19 (by decide) (fun c3 => ?_) (fun c3 => absurd c3 (in5 hk))
  refine lv_iload hx hb dX6_ifWorn_26 (lv_at hl 4 rfl) ?_
  refine lv_iconst (v := 0) hx hb dX6_ifWorn_28 (by decide) ?_
  refine lv_iconst (v := 1) hx hb dX6_ifWorn_29 (by decide) ?_
  refine k_ciR (k_runS X w (met_X6_in l D cI cJ cO (nI wh) 0 1  H.size) gX6_ifWorn_X6_in rfl rfl rfl 3 hdX6_in ⟨Nat.le_of_ble_eq_true rfl, Nat.le_of_ble_eq_true rfl⟩ [] rfl rfl rfl hl.1 rfl (Nat.le_of_ble_eq_true rfl) dX6_ifWorn_30 ⟨Nat.le_of_ble_eq_true rfl, Nat.le_of_ble_eq_true rfl⟩) w hA [] rfl (fun H locs w => ?_)
  refine lv_if_eq (tgt := 40) hx hb dX6_ifWorn_33 (by decide) (fun c4 => absurd c4 (inB_y (in_01 hw))) (fun c4 => ?_)
  refine lv_iconst (v := 0) hx hb dX6_ifWorn_36 (by decide) ?_
  refine lv_goto (tgt := 41) hx hb dX6_ifWorn_37 (by decide) ?_
  refine k_put X w 0 rfl rfl 0 (by decide) rfl iX6_ifWorn_X6 (List.mem_of_getElem? (i := 1) rfl) tyX6_ok nmX6 rfl rfl (Nat.le_of_ble_eq_true rfl) (ws2 := [oM ma za aa va ka ta (upd y 0 0), aI cI za 225 0 z, aI cI aa 225 0 ad]) rfl dX6_ifWorn_41 (fun H locs w => ?_)
  refine lv_aload_n hx hb dX6_ifWorn_44 rfl (lv_at hl 0 rfl) ?_
  refine k_get X w 0 rfl rfl 0 (by decide) rfl iX6_ifWorn_X6 (List.mem_of_getElem? (i := 1) rfl) (v := .int 0) (congrArg (fun t => some (Value.int t)) (upd_is _ _ _)) dX6_ifWorn_45 ?_
  refine lv_if_le (tgt := 55) hx hb dX6_ifWorn_48 (by decide) (fun c5 => ?_) (fun c5 => absurd c5 (by decide))
  refine lv_aload_n hx hb dX6_ifWorn_55 rfl (lv_at hl 0 rfl) ?_
  refine lv_iload_n hx hb dX6_ifWorn_56 rfl (lv_at hl 1 rfl) ?_
  refine lv_iload_n hx hb dX6_ifWorn_57 rfl (lv_at hl 2 rfl) ?_
  refine lv_iload_n hx hb dX6_ifWorn_58 rfl (lv_at hl 3 rfl) ?_
  refine lv_iload hx hb dX6_ifWorn_59 (lv_at hl 4 rfl) ?_
  refine k_ci (wr := []) (ws2 := [oM ma za aa va ka ta (upd y 0 0), aI cI za 225 0 z, aI cI aa 225 0 z]) (k_runV X w (met_X6_worn l D cI cJ cO ma za aa va ka ta (upd y 0 0) z ad i j k wh hob hi hj hk hw H.size) gX6_ifWorn_X6_worn rfl rfl rfl 4 hdX6_worn ⟨Nat.le_of_ble_eq_true rfl, Nat.le_of_ble_eq_true rfl⟩ [0, 1, 2] rfl rfl 0 6 rfl rfl rfl rfl hl.1 rfl (Nat.le_of_ble_eq_true rfl) dX6_ifWorn_61 ⟨Nat.le_of_ble_eq_true rfl, Nat.le_of_ble_eq_true rfl⟩) w hA [0, 1, 2] [] rfl rfl rfl (by decide) [0, 1, 2] rfl rfl (fun H locs w => ?_)
  exact fin _ _ _ _ _ w rfl dX6_ifWorn_64
set_option maxHeartbeats 4000000 in
set_option maxRecDepth 100000 in
theorem met_X6_ifWorn_t1 (l : Launch) (D : va_G) (cI cJ cO : ClassId) (ma : Nat) (za : Nat) (aa : Nat) (va : Nat) (ka : Nat) (ta : Nat) (y : Nat → Int32) (x : Int32) (u : Int32) (v : Int32) (wh : Int32) (hin : ¬ inR x 0 5) : CI l D (TY cI cJ cO) yX6_ifWorn wsX6_ifWorn ({ frames := 2, cells := 0, slots := 0, locals := 42 }) [.ref ma, .int x, .int u, .int v, .int wh] [oM ma za aa va ka ta y] 0 [oM ma za aa va ka ta (upd y 0 1)] := by
  refine CI.of (plainFor_of_name (by decide)) rfl (Nat.le_of_ble_eq_true rfl) (rfl) (fun p e s m below meth c A ls Q X hA w hl fin => ?_)
  obtain ⟨hx, hb, hml, hown, hts⟩ := id X.1
  have hl : lv_has ls 5 [(0, .ref ma), (1, .int x), (2, .int u), (3, .int v), (4, .int wh)] := hl
  refine lv_aload_n hx hb dX6_ifWorn_0 rfl (lv_at hl 0 rfl) ?_
  refine lv_iload_n hx hb dX6_ifWorn_1 rfl (lv_at hl 1 rfl) ?_
  refine k_ciR (k_runS X w (met_X6_isPose l D cI cJ cO x  s.heap.size) gX6_ifWorn_X6_isPose rfl rfl rfl 1 hdX6_isPose ⟨Nat.le_of_ble_eq_true rfl, Nat.le_of_ble_eq_true rfl⟩ [] rfl rfl rfl hl.1 rfl (Nat.le_of_ble_eq_true rfl) dX6_ifWorn_2 ⟨Nat.le_of_ble_eq_true rfl, Nat.le_of_ble_eq_true rfl⟩) w hA [] rfl (fun H locs w => ?_)
  refine lv_if_eq (tgt := 22) hx hb dX6_ifWorn_5 (by decide) (fun c1 => ?_) (fun c1 => absurd (inB_n hin) c1)
  refine lv_iconst (v := 1) hx hb dX6_ifWorn_22 (by decide) ?_
  refine lv_goto (tgt := 41) hx hb dX6_ifWorn_23 (by decide) ?_
  refine k_put X w 0 rfl rfl 0 (by decide) rfl iX6_ifWorn_X6 (List.mem_of_getElem? (i := 1) rfl) tyX6_ok nmX6 rfl rfl (Nat.le_of_ble_eq_true rfl) (ws2 := [oM ma za aa va ka ta (upd y 0 1)]) rfl dX6_ifWorn_41 (fun H locs w => ?_)
  refine lv_aload_n hx hb dX6_ifWorn_44 rfl (lv_at hl 0 rfl) ?_
  refine k_get X w 0 rfl rfl 0 (by decide) rfl iX6_ifWorn_X6 (List.mem_of_getElem? (i := 1) rfl) (v := .int 1) (congrArg (fun t => some (Value.int t)) (upd_is _ _ _)) dX6_ifWorn_45 ?_
  refine lv_if_le (tgt := 55) hx hb dX6_ifWorn_48 (by decide) (fun c2 => absurd c2 (by decide)) (fun c2 => ?_)
  refine lv_iconst (v := 0) hx hb dX6_ifWorn_51 (by decide) ?_
  refine lv_goto (tgt := 64) hx hb dX6_ifWorn_52 (by decide) ?_
  exact fin _ _ _ _ _ w rfl dX6_ifWorn_64
set_option maxHeartbeats 4000000 in
set_option maxRecDepth 100000 in
theorem met_X6_ifWorn_t2 (l : Launch) (D : va_G) (cI cJ cO : ClassId) (ma : Nat) (za : Nat) (aa : Nat) (va : Nat) (ka : Nat) (ta : Nat) (y : Nat → Int32) (x : Int32) (u : Int32) (v : Int32) (wh : Int32) (hx2 : inR x 0 5) (hin : ¬ inR u 0 5) : CI l D (TY cI cJ cO) yX6_ifWorn wsX6_ifWorn ({ frames := 2, cells := 0, slots := 0, locals := 42 }) [.ref ma, .int x, .int u, .int v, .int wh] [oM ma za aa va ka ta y] 0 [oM ma za aa va ka ta (upd y 0 1)] := by
  refine CI.of (plainFor_of_name (by decide)) rfl (Nat.le_of_ble_eq_true rfl) (rfl) (fun p e s m below meth c A ls Q X hA w hl fin => ?_)
  obtain ⟨hx, hb, hml, hown, hts⟩ := id X.1
  have hl : lv_has ls 5 [(0, .ref ma), (1, .int x), (2, .int u), (3, .int v), (4, .int wh)] := hl
  refine lv_aload_n hx hb dX6_ifWorn_0 rfl (lv_at hl 0 rfl) ?_
  refine lv_iload_n hx hb dX6_ifWorn_1 rfl (lv_at hl 1 rfl) ?_
  refine k_ciR (k_runS X w (met_X6_isPose l D cI cJ cO x  s.heap.size) gX6_ifWorn_X6_isPose rfl rfl rfl 1 hdX6_isPose ⟨Nat.le_of_ble_eq_true rfl, Nat.le_of_ble_eq_true rfl⟩ [] rfl rfl rfl hl.1 rfl (Nat.le_of_ble_eq_true rfl) dX6_ifWorn_2 ⟨Nat.le_of_ble_eq_true rfl, Nat.le_of_ble_eq_true rfl⟩) w hA [] rfl (fun H locs w => ?_)
  refine lv_if_eq (tgt := 22) hx hb dX6_ifWorn_5 (by decide) (fun c1 => absurd c1 (inB_y hx2)) (fun c1 => ?_)
  refine lv_iload_n hx hb dX6_ifWorn_8 rfl (lv_at hl 2 rfl) ?_
  refine k_ciR (k_runS X w (met_X6_isPose l D cI cJ cO u  H.size) gX6_ifWorn_X6_isPose rfl rfl rfl 1 hdX6_isPose ⟨Nat.le_of_ble_eq_true rfl, Nat.le_of_ble_eq_true rfl⟩ [] rfl rfl rfl hl.1 rfl (Nat.le_of_ble_eq_true rfl) dX6_ifWorn_9 ⟨Nat.le_of_ble_eq_true rfl, Nat.le_of_ble_eq_true rfl⟩) w hA [] rfl (fun H locs w => ?_)
  refine lv_if_eq (tgt := 22) hx hb dX6_ifWorn_12 (by decide) (fun c2 => ?_) (fun c2 => absurd (inB_n hin) c2)
  refine lv_iconst (v := 1) hx hb dX6_ifWorn_22 (by decide) ?_
  refine lv_goto (tgt := 41) hx hb dX6_ifWorn_23 (by decide) ?_
  refine k_put X w 0 rfl rfl 0 (by decide) rfl iX6_ifWorn_X6 (List.mem_of_getElem? (i := 1) rfl) tyX6_ok nmX6 rfl rfl (Nat.le_of_ble_eq_true rfl) (ws2 := [oM ma za aa va ka ta (upd y 0 1)]) rfl dX6_ifWorn_41 (fun H locs w => ?_)
  refine lv_aload_n hx hb dX6_ifWorn_44 rfl (lv_at hl 0 rfl) ?_
  refine k_get X w 0 rfl rfl 0 (by decide) rfl iX6_ifWorn_X6 (List.mem_of_getElem? (i := 1) rfl) (v := .int 1) (congrArg (fun t => some (Value.int t)) (upd_is _ _ _)) dX6_ifWorn_45 ?_
  refine lv_if_le (tgt := 55) hx hb dX6_ifWorn_48 (by decide) (fun c3 => absurd c3 (by decide)) (fun c3 => ?_)
  refine lv_iconst (v := 0) hx hb dX6_ifWorn_51 (by decide) ?_
  refine lv_goto (tgt := 64) hx hb dX6_ifWorn_52 (by decide) ?_
  exact fin _ _ _ _ _ w rfl dX6_ifWorn_64
set_option maxHeartbeats 4000000 in
set_option maxRecDepth 100000 in
theorem met_X6_ifWorn_t3 (l : Launch) (D : va_G) (cI cJ cO : ClassId) (ma : Nat) (za : Nat) (aa : Nat) (va : Nat) (ka : Nat) (ta : Nat) (y : Nat → Int32) (x : Int32) (u : Int32) (v : Int32) (wh : Int32) (hx2 : inR x 0 5) (hu : inR u 0 5) (hin : ¬ inR v 0 5) : CI l D (TY cI cJ cO) yX6_ifWorn wsX6_ifWorn ({ frames := 2, cells := 0, slots := 0, locals := 42 }) [.ref ma, .int x, .int u, .int v, .int wh] [oM ma za aa va ka ta y] 0 [oM ma za aa va ka ta (upd y 0 1)] := by
  refine CI.of (plainFor_of_name (by decide)) rfl (Nat.le_of_ble_eq_true rfl) (rfl) (fun p e s m below meth c A ls Q X hA w hl fin => ?_)
  obtain ⟨hx, hb, hml, hown, hts⟩ := id X.1
  have hl : lv_has ls 5 [(0, .ref ma), (1, .int x), (2, .int u), (3, .int v), (4, .int wh)] := hl
  refine lv_aload_n hx hb dX6_ifWorn_0 rfl (lv_at hl 0 rfl) ?_
  refine lv_iload_n hx hb dX6_ifWorn_1 rfl (lv_at hl 1 rfl) ?_
  refine k_ciR (k_runS X w (met_X6_isPose l D cI cJ cO x  s.heap.size) gX6_ifWorn_X6_isPose rfl rfl rfl 1 hdX6_isPose ⟨Nat.le_of_ble_eq_true rfl, Nat.le_of_ble_eq_true rfl⟩ [] rfl rfl rfl hl.1 rfl (Nat.le_of_ble_eq_true rfl) dX6_ifWorn_2 ⟨Nat.le_of_ble_eq_true rfl, Nat.le_of_ble_eq_true rfl⟩) w hA [] rfl (fun H locs w => ?_)
  refine lv_if_eq (tgt := 22) hx hb dX6_ifWorn_5 (by decide) (fun c1 => absurd c1 (inB_y hx2)) (fun c1 => ?_)
  refine lv_iload_n hx hb dX6_ifWorn_8 rfl (lv_at hl 2 rfl) ?_
  refine k_ciR (k_runS X w (met_X6_isPose l D cI cJ cO u  H.size) gX6_ifWorn_X6_isPose rfl rfl rfl 1 hdX6_isPose ⟨Nat.le_of_ble_eq_true rfl, Nat.le_of_ble_eq_true rfl⟩ [] rfl rfl rfl hl.1 rfl (Nat.le_of_ble_eq_true rfl) dX6_ifWorn_9 ⟨Nat.le_of_ble_eq_true rfl, Nat.le_of_ble_eq_true rfl⟩) w hA [] rfl (fun H locs w => ?_)
  refine lv_if_eq (tgt := 22) hx hb dX6_ifWorn_12 (by decide) (fun c2 => absurd c2 (inB_y hu)) (fun c2 => ?_)
  refine lv_iload_n hx hb dX6_ifWorn_15 rfl (lv_at hl 3 rfl) ?_
  refine k_ciR (k_runS X w (met_X6_isPose l D cI cJ cO v  H.size) gX6_ifWorn_X6_isPose rfl rfl rfl 1 hdX6_isPose ⟨Nat.le_of_ble_eq_true rfl, Nat.le_of_ble_eq_true rfl⟩ [] rfl rfl rfl hl.1 rfl (Nat.le_of_ble_eq_true rfl) dX6_ifWorn_16 ⟨Nat.le_of_ble_eq_true rfl, Nat.le_of_ble_eq_true rfl⟩) w hA [] rfl (fun H locs w => ?_)
  refine lv_if_ne (tgt := 26) hx hb dX6_ifWorn_19 (by decide) (fun c3 => absurd (inB_n hin) c3) (fun c3 => ?_)
  refine lv_iconst (v := 1) hx hb dX6_ifWorn_22 (by decide) ?_
  refine lv_goto (tgt := 41) hx hb dX6_ifWorn_23 (by decide) ?_
  refine k_put X w 0 rfl rfl 0 (by decide) rfl iX6_ifWorn_X6 (List.mem_of_getElem? (i := 1) rfl) tyX6_ok nmX6 rfl rfl (Nat.le_of_ble_eq_true rfl) (ws2 := [oM ma za aa va ka ta (upd y 0 1)]) rfl dX6_ifWorn_41 (fun H locs w => ?_)
  refine lv_aload_n hx hb dX6_ifWorn_44 rfl (lv_at hl 0 rfl) ?_
  refine k_get X w 0 rfl rfl 0 (by decide) rfl iX6_ifWorn_X6 (List.mem_of_getElem? (i := 1) rfl) (v := .int 1) (congrArg (fun t => some (Value.int t)) (upd_is _ _ _)) dX6_ifWorn_45 ?_
  refine lv_if_le (tgt := 55) hx hb dX6_ifWorn_48 (by decide) (fun c4 => absurd c4 (by decide)) (fun c4 => ?_)
  refine lv_iconst (v := 0) hx hb dX6_ifWorn_51 (by decide) ?_
  refine lv_goto (tgt := 64) hx hb dX6_ifWorn_52 (by decide) ?_
  exact fin _ _ _ _ _ w rfl dX6_ifWorn_64
set_option maxHeartbeats 4000000 in
set_option maxRecDepth 100000 in
theorem met_X6_ifWorn_t4 (l : Launch) (D : va_G) (cI cJ cO : ClassId) (ma : Nat) (za : Nat) (aa : Nat) (va : Nat) (ka : Nat) (ta : Nat) (y : Nat → Int32) (x : Int32) (u : Int32) (v : Int32) (wh : Int32) (hx2 : inR x 0 5) (hu : inR u 0 5) (hv : inR v 0 5) (hin : ¬ inR wh 0 1) : CI l D (TY cI cJ cO) yX6_ifWorn wsX6_ifWorn ({ frames := 2, cells := 0, slots := 0, locals := 42 }) [.ref ma, .int x, .int u, .int v, .int wh] [oM ma za aa va ka ta y] 0 [oM ma za aa va ka ta (upd y 0 2)] := by
  refine CI.of (plainFor_of_name (by decide)) rfl (Nat.le_of_ble_eq_true rfl) (rfl) (fun p e s m below meth c A ls Q X hA w hl fin => ?_)
  obtain ⟨hx, hb, hml, hown, hts⟩ := id X.1
  have hl : lv_has ls 5 [(0, .ref ma), (1, .int x), (2, .int u), (3, .int v), (4, .int wh)] := hl
  refine lv_aload_n hx hb dX6_ifWorn_0 rfl (lv_at hl 0 rfl) ?_
  refine lv_iload_n hx hb dX6_ifWorn_1 rfl (lv_at hl 1 rfl) ?_
  refine k_ciR (k_runS X w (met_X6_isPose l D cI cJ cO x  s.heap.size) gX6_ifWorn_X6_isPose rfl rfl rfl 1 hdX6_isPose ⟨Nat.le_of_ble_eq_true rfl, Nat.le_of_ble_eq_true rfl⟩ [] rfl rfl rfl hl.1 rfl (Nat.le_of_ble_eq_true rfl) dX6_ifWorn_2 ⟨Nat.le_of_ble_eq_true rfl, Nat.le_of_ble_eq_true rfl⟩) w hA [] rfl (fun H locs w => ?_)
  refine lv_if_eq (tgt := 22) hx hb dX6_ifWorn_5 (by decide) (fun c1 => absurd c1 (inB_y hx2)) (fun c1 => ?_)
  refine lv_iload_n hx hb dX6_ifWorn_8 rfl (lv_at hl 2 rfl) ?_
  refine k_ciR (k_runS X w (met_X6_isPose l D cI cJ cO u  H.size) gX6_ifWorn_X6_isPose rfl rfl rfl 1 hdX6_isPose ⟨Nat.le_of_ble_eq_true rfl, Nat.le_of_ble_eq_true rfl⟩ [] rfl rfl rfl hl.1 rfl (Nat.le_of_ble_eq_true rfl) dX6_ifWorn_9 ⟨Nat.le_of_ble_eq_true rfl, Nat.le_of_ble_eq_true rfl⟩) w hA [] rfl (fun H locs w => ?_)
  refine lv_if_eq (tgt := 22) hx hb dX6_ifWorn_12 (by decide) (fun c2 => absurd c2 (inB_y hu)) (fun c2 => ?_)
  refine lv_iload_n hx hb dX6_ifWorn_15 rfl (lv_at hl 3 rfl) ?_
  refine k_ciR (k_runS X w (met_X6_isPose l D cI cJ cO v  H.size) gX6_ifWorn_X6_isPose rfl rfl rfl 1 hdX6_isPose ⟨Nat.le_of_ble_eq_true rfl, Nat.le_of_ble_eq_true rfl⟩ [] rfl rfl rfl hl.1 rfl (Nat.le_of_ble_eq_true rfl) dX6_ifWorn_16 ⟨Nat.le_of_ble_eq_true rfl, Nat.le_of_ble_eq_true rfl⟩) w hA [] rfl (fun H locs w => ?_)
  refine lv_if_ne (tgt := 26) hx hb dX6_ifWorn_19 (by decide) (fun c3 => ?_) (fun c3 => absurd c3 (inB_y hv))
  refine lv_iload hx hb dX6_ifWorn_26 (lv_at hl 4 rfl) ?_
  refine lv_iconst (v := 0) hx hb dX6_ifWorn_28 (by decide) ?_
  refine lv_iconst (v := 1) hx hb dX6_ifWorn_29 (by decide) ?_
  refine k_ciR (k_runS X w (met_X6_in l D cI cJ cO wh 0 1  H.size) gX6_ifWorn_X6_in rfl rfl rfl 3 hdX6_in ⟨Nat.le_of_ble_eq_true rfl, Nat.le_of_ble_eq_true rfl⟩ [] rfl rfl rfl hl.1 rfl (Nat.le_of_ble_eq_true rfl) dX6_ifWorn_30 ⟨Nat.le_of_ble_eq_true rfl, Nat.le_of_ble_eq_true rfl⟩) w hA [] rfl (fun H locs w => ?_)
  refine lv_if_eq (tgt := 40) hx hb dX6_ifWorn_33 (by decide) (fun c4 => ?_) (fun c4 => absurd (inB_n hin) c4)
  refine lv_iconst (v := 2) hx hb dX6_ifWorn_40 (by decide) ?_
  refine k_put X w 0 rfl rfl 0 (by decide) rfl iX6_ifWorn_X6 (List.mem_of_getElem? (i := 1) rfl) tyX6_ok nmX6 rfl rfl (Nat.le_of_ble_eq_true rfl) (ws2 := [oM ma za aa va ka ta (upd y 0 2)]) rfl dX6_ifWorn_41 (fun H locs w => ?_)
  refine lv_aload_n hx hb dX6_ifWorn_44 rfl (lv_at hl 0 rfl) ?_
  refine k_get X w 0 rfl rfl 0 (by decide) rfl iX6_ifWorn_X6 (List.mem_of_getElem? (i := 1) rfl) (v := .int 2) (congrArg (fun t => some (Value.int t)) (upd_is _ _ _)) dX6_ifWorn_45 ?_
  refine lv_if_le (tgt := 55) hx hb dX6_ifWorn_48 (by decide) (fun c5 => absurd c5 (by decide)) (fun c5 => ?_)
  refine lv_iconst (v := 0) hx hb dX6_ifWorn_51 (by decide) ?_
  refine lv_goto (tgt := 64) hx hb dX6_ifWorn_52 (by decide) ?_
  exact fin _ _ _ _ _ w rfl dX6_ifWorn_64
theorem hdX6_findRegulator : yX6_findRegulator.cls = RX6 ∧ yX6_findRegulator.cls ≠ "java/lang/invoke/MethodHandle" ∧ yX6_findRegulator.cls ≠ "java/lang/invoke/VarHandle" ∧ (parseMethodDescriptor yX6_findRegulator.desc).map (fun d => d.parameters.length) = some 0 := ⟨rfl, by decide, by decide, by decide +kernel⟩
theorem iX6_findRegulator_X6 : ∀ w ∈ wsX60, w ∈ wsX6_findRegulator := fun _ h => List.mem_cons_of_mem _ (List.mem_append_right _ h)
set_option maxHeartbeats 4000000 in
set_option maxRecDepth 100000 in
theorem met_X6_findRegulator (l : Launch) (D : va_G) (cI cJ cO : ClassId) (ma : Nat) (za : Nat) (aa : Nat) (va : Nat) (ka : Nat) (ta : Nat) (y : Nat → Int32) (z : Nat → Int32) (hob : okb z) : CI l D (TY cI cJ cO) yX6_findRegulator wsX6_findRegulator ({ frames := 2, cells := 0, slots := 0, locals := 44 }) [.ref ma] [oM ma za aa va ka ta y, aI cI za 225 0 z] (bestN z) [oM ma za aa va ka ta y, aI cI za 225 0 z] := by
  refine CI.of (plainFor_of_name (by decide)) rfl (Nat.le_of_ble_eq_true rfl) (rfl) (fun p e s m below meth c A ls Q X hA w hl fin => ?_)
  obtain ⟨hx, hb, hml, hown, hts⟩ := id X.1
  have hl : lv_has ls 4 [(0, .ref ma)] := hl
  refine lv_iconst (v := 0) hx hb dX6_findRegulator_0 (by decide) ?_
  refine lv_istore_n (lv' := [(1, .int 0), (0, .ref ma)]) hx hb dX6_findRegulator_1 rfl hl (by decide) rfl (fun ls hl => ?_)
  refine lv_iconst (v := 0) hx hb dX6_findRegulator_2 (by decide) ?_
  refine lv_istore_n (lv' := [(2, .int 0), (1, .int 0), (0, .ref ma)]) hx hb dX6_findRegulator_3 rfl hl (by decide) rfl (fun ls hl => ?_)
  have lp4 : ∀ (n : Nat) (pp : Nat) (oo : Int32), pp + n = 6 → oo = oth z pp → ∀ (H : Heap) (locs : List Loc) (ls : Array Slot), wd D A s.heap H locs ([oM ma za aa va ka ta y, aI cI za 225 0 z]) → lv_has ls 4 [(2, .int (nI pp)), (1, .int oo), (0, .ref ma)] → W p l e ({ frames := 2, cells := 0, slots := 0, locals := 44 }) s m [.ref ma].toArray below meth c H locs 0 0 Q (F0 m 4 ls []) := by
    intro n
    induction n with
    | zero =>
      intro pp oo hi ho H locs ls w hl
      refine lv_iload_n hx hb dX6_findRegulator_4 rfl (lv_at hl 0 rfl) ?_
      refine lv_bipush (v := 6) hx hb dX6_findRegulator_5 (by decide) ?_
      refine lv_icmp_ge (tgt := 31) hx hb dX6_findRegulator_7 (by decide) (fun c1 => ?_) (fun c1 => absurd (nI_le (a := 6) (b := pp) (by omega) (by omega)) c1)
      refine lv_bipush (v := (-99)) hx hb dX6_findRegulator_31 (by decide) ?_
      refine lv_istore_n (lv' := [(2, .int (-99)), (1, .int oo), (0, .ref ma)]) hx hb dX6_findRegulator_33 rfl hl (by decide) rfl (fun ls hl => ?_)
      refine lv_bipush (v := (-98)) hx hb dX6_findRegulator_34 (by decide) ?_
      refine lv_istore_n (lv' := [(3, .int (-98)), (2, .int (-99)), (1, .int oo), (0, .ref ma)]) hx hb dX6_findRegulator_36 rfl hl (by decide) rfl (fun ls hl => ?_)
      have lp37 : ∀ (n2 : Nat) (i : Nat) (bb : Int32), i + n2 = 199 → brl oo n2 i bb + 100 = bestN z → ∀ (H : Heap) (locs : List Loc) (ls : Array Slot), wd D A s.heap H locs ([oM ma za aa va ka ta y, aI cI za 225 0 z]) → lv_has ls 4 [(3, .int (nI i - 99)), (2, .int bb), (1, .int oo), (0, .ref ma)] → W p l e ({ frames := 2, cells := 0, slots := 0, locals := 44 }) s m [.ref ma].toArray below meth c H locs 0 0 Q (F0 m 37 ls []) := by
        intro n2
        induction n2 with
        | zero =>
          intro i bb hi2 he H locs ls w hl
          refine lv_iload_n hx hb dX6_findRegulator_37 rfl (lv_at hl 0 rfl) ?_
          refine lv_bipush (v := 99) hx hb dX6_findRegulator_38 (by decide) ?_
          refine lv_icmp_gt (tgt := 76) hx hb dX6_findRegulator_40 (by decide) (fun c2 => ?_) (fun c2 => absurd (show 99 < nI i - 99 by rw [show i = 199 by omega]; exact gt99y) c2)
          refine lv_iload_n hx hb dX6_findRegulator_76 rfl (lv_at hl 1 rfl) ?_
          refine lv_bipush (v := 100) hx hb dX6_findRegulator_77 (by decide) ?_
          refine lv_iadd hx hb dX6_findRegulator_79 ?_
          exact fin _ _ _ _ _ w (by exact he) dX6_findRegulator_80
        | succ n2 ih2 =>
          intro i bb hi2 he H locs ls w hl
          refine lv_iload_n hx hb dX6_findRegulator_37 rfl (lv_at hl 0 rfl) ?_
          refine lv_bipush (v := 99) hx hb dX6_findRegulator_38 (by decide) ?_
          refine lv_icmp_gt (tgt := 76) hx hb dX6_findRegulator_40 (by decide) (fun c3 => absurd c3 (gt99 (by omega))) (fun c3 => ?_)
          refine lv_iload_n hx hb dX6_findRegulator_43 rfl (lv_at hl 2 rfl) ?_
          refine lv_bipush (v := 6) hx hb dX6_findRegulator_44 (by decide) ?_
          refine lv_iload_n hx hb dX6_findRegulator_46 rfl (lv_at hl 0 rfl) ?_
          refine lv_imul hx hb dX6_findRegulator_47 ?_
          refine lv_iadd hx hb dX6_findRegulator_48 ?_
          refine k_ciR (k_runS X w (met_X6_amount l D cI cJ cO (oo + (6 * (nI i - 99)))  H.size) gX6_findRegulator_X6_amount rfl rfl rfl 1 hdX6_amount ⟨Nat.le_of_ble_eq_true rfl, Nat.le_of_ble_eq_true rfl⟩ [] rfl rfl rfl hl.1 rfl (Nat.le_of_ble_eq_true rfl) dX6_findRegulator_49 ⟨Nat.le_of_ble_eq_true rfl, Nat.le_of_ble_eq_true rfl⟩) w hA [] rfl (fun H locs w => ?_)
          refine lv_iload_n hx hb dX6_findRegulator_52 rfl (lv_at hl 2 rfl) ?_
          refine lv_bipush (v := 6) hx hb dX6_findRegulator_53 (by decide) ?_
          refine lv_iload_n hx hb dX6_findRegulator_55 rfl (lv_at hl 1 rfl) ?_
          refine lv_imul hx hb dX6_findRegulator_56 ?_
          refine lv_iadd hx hb dX6_findRegulator_57 ?_
          refine k_ciR (k_runS X w (met_X6_amount l D cI cJ cO (oo + (6 * bb))  H.size) gX6_findRegulator_X6_amount rfl rfl rfl 1 hdX6_amount ⟨Nat.le_of_ble_eq_true rfl, Nat.le_of_ble_eq_true rfl⟩ [] rfl rfl rfl hl.1 rfl (Nat.le_of_ble_eq_true rfl) dX6_findRegulator_58 ⟨Nat.le_of_ble_eq_true rfl, Nat.le_of_ble_eq_true rfl⟩) w hA [] rfl (fun H locs w => ?_)
          refine lv_icmp_ge (tgt := 68) hx hb dX6_findRegulator_61 (by decide) (fun c4 => ?_) (fun c4 => ?_)
          · refine lv_iload_n hx hb dX6_findRegulator_68 rfl (lv_at hl 1 rfl) ?_
            refine lv_istore_n (lv' := [(2, .int bb), (3, .int (nI i - 99)), (1, .int oo), (0, .ref ma)]) hx hb dX6_findRegulator_69 rfl hl (by decide) rfl (fun ls hl => ?_)
            refine lv_iinc (v := nI (i + 1) - 99) (lv' := [(3, .int (nI (i + 1) - 99)), (2, .int bb), (1, .int oo), (0, .ref ma)]) hx hb dX6_findRegulator_70 hl (k := 1) rfl (i99 _) (by decide) rfl (fun ls hl => ?_)
            refine lv_goto (tgt := 37) hx hb dX6_findRegulator_73 (by decide) ?_
            exact ih2 (i + 1) bb (by omega) ((congrArg (fun t => t + 100) (brl_k c4)).symm.trans he) _ _ _ w (lv_sub hl [0, 1, 2, 3] rfl)
          · refine lv_iload_n hx hb dX6_findRegulator_64 rfl (lv_at hl 0 rfl) ?_
            refine lv_goto (tgt := 69) hx hb dX6_findRegulator_65 (by decide) ?_
            refine lv_istore_n (lv' := [(2, .int (nI i - 99)), (3, .int (nI i - 99)), (1, .int oo), (0, .ref ma)]) hx hb dX6_findRegulator_69 rfl hl (by decide) rfl (fun ls hl => ?_)
            refine lv_iinc (v := nI (i + 1) - 99) (lv' := [(3, .int (nI (i + 1) - 99)), (2, .int (nI i - 99)), (1, .int oo), (0, .ref ma)]) hx hb dX6_findRegulator_70 hl (k := 1) rfl (i99 _) (by decide) rfl (fun ls hl => ?_)
            refine lv_goto (tgt := 37) hx hb dX6_findRegulator_73 (by decide) ?_
            exact ih2 (i + 1) (nI i - 99) (by omega) ((congrArg (fun t => t + 100) (brl_s c4)).symm.trans he) _ _ _ w (lv_sub hl [0, 1, 2, 3] rfl)
      exact lp37 198 1 (-99) (by decide) (by rw [ho, show pp = 6 by omega]; exact bestN_1 z) _ _ _ w (lv_sub hl [0, 1, 2, 3] rfl)
    | succ n ih =>
      intro pp oo hi ho H locs ls w hl
      refine lv_iload_n hx hb dX6_findRegulator_4 rfl (lv_at hl 0 rfl) ?_
      refine lv_bipush (v := 6) hx hb dX6_findRegulator_5 (by decide) ?_
      refine lv_icmp_ge (tgt := 31) hx hb dX6_findRegulator_7 (by decide) (fun c2 => absurd c2 (nI_ge (a := pp) (b := 6) (by omega) (by decide))) (fun c2 => ?_)
      refine lv_iload_n hx hb dX6_findRegulator_10 rfl (lv_at hl 1 rfl) ?_
      refine lv_aload_n hx hb dX6_findRegulator_11 rfl (lv_at hl 2 rfl) ?_
      refine lv_iload_n hx hb dX6_findRegulator_12 rfl (lv_at hl 0 rfl) ?_
      refine k_ciR (k_runV X w (met_X6_rate l D cI cJ cO ma za aa va ka ta y z pp hob (by omega) H.size) gX6_findRegulator_X6_rate rfl rfl rfl 1 hdX6_rate ⟨Nat.le_of_ble_eq_true rfl, Nat.le_of_ble_eq_true rfl⟩ [0, 1] rfl rfl 0 6 rfl rfl rfl rfl hl.1 rfl (Nat.le_of_ble_eq_true rfl) dX6_findRegulator_13 ⟨Nat.le_of_ble_eq_true rfl, Nat.le_of_ble_eq_true rfl⟩) w hA [0, 1] rfl (fun H locs w => ?_)
      refine lv_aload_n hx hb dX6_findRegulator_16 rfl (lv_at hl 2 rfl) ?_
      refine k_get X w 0 rfl rfl 1 (by decide) rfl iX6_findRegulator_X6 (List.mem_of_getElem? (i := 1) rfl) (v := .ref za) rfl dX6_findRegulator_17 ?_
      refine lv_iconst (v := 2) hx hb dX6_findRegulator_20 (by decide) ?_
      refine k_iald X w 1 0 rfl rfl 2 (kj := 2) rfl (by decide) (by decide) rfl (v := z 2) rfl dX6_findRegulator_21 ?_
      refine lv_isub hx hb dX6_findRegulator_22 ?_
      refine lv_iadd hx hb dX6_findRegulator_23 ?_
      refine lv_istore_n (lv' := [(1, .int (oo + ((rate z pp) - (z 2)))), (2, .int (nI pp)), (0, .ref ma)]) hx hb dX6_findRegulator_24 rfl hl (by decide) rfl (fun ls hl => ?_)
      refine lv_iinc (v := nI (pp + 1)) (lv' := [(2, .int (nI (pp + 1))), (1, .int (oo + ((rate z pp) - (z 2)))), (0, .ref ma)]) hx hb dX6_findRegulator_25 hl (k := 1) rfl (nI_1 _) (by decide) rfl (fun ls hl => ?_)
      refine lv_goto (tgt := 4) hx hb dX6_findRegulator_28 (by decide) ?_
      exact ih (pp + 1) (oo + ((rate z pp) - (z 2))) (by omega) (by rw [ho]; rfl) _ _ _ w (lv_sub hl [0, 1, 2] rfl)
  exact lp4 6 0 0 (Nat.zero_add _) rfl _ _ _ w (lv_sub hl [0, 1, 2] rfl)
theorem hdX6_bestRegulator : yX6_bestRegulator.cls = RX6 ∧ yX6_bestRegulator.cls ≠ "java/lang/invoke/MethodHandle" ∧ yX6_bestRegulator.cls ≠ "java/lang/invoke/VarHandle" ∧ (parseMethodDescriptor yX6_bestRegulator.desc).map (fun d => d.parameters.length) = some 0 := ⟨rfl, by decide, by decide, by decide +kernel⟩
theorem iX6_bestRegulator_X6 : ∀ w ∈ wsX60, w ∈ wsX6_bestRegulator := fun _ h => List.mem_cons_of_mem _ (List.mem_append_right _ h)
set_option maxHeartbeats 4000000 in
set_option maxRecDepth 100000 in
theorem met_X6_bestRegulator (l : Launch) (D : va_G) (cI cJ cO : ClassId) (ma : Nat) (za : Nat) (aa : Nat) (va : Nat) (ka : Nat) (ta : Nat) (y : Nat → Int32) (z : Nat → Int32) (hob : okb z) : CI l D (TY cI cJ cO) yX6_bestRegulator wsX6_bestRegulator ({ frames := 3, cells := 0, slots := 0, locals := 67 }) [.ref ma] [oM ma za aa va ka ta y, aI cI za 225 0 z] (bestN z) [oM ma za aa va ka ta (upd y 0 0), aI cI za 225 0 z] := by
  refine CI.of (plainFor_of_name (by decide)) rfl (Nat.le_of_ble_eq_true rfl) (rfl) (fun p e s m below meth c A ls Q X hA w hl fin => ?_)
  obtain ⟨hx, hb, hml, hown, hts⟩ := id X.1
  have hl : lv_has ls 1 [(0, .ref ma)] := hl
  refine lv_aload_n hx hb dX6_bestRegulator_0 rfl (lv_at hl 0 rfl) ?_
  refine lv_iconst (v := 0) hx hb dX6_bestRegulator_1 (by decide) ?_
  refine k_put X w 0 rfl rfl 0 (by decide) rfl iX6_bestRegulator_X6 (List.mem_of_getElem? (i := 1) rfl) tyX6_ok nmX6 rfl rfl (Nat.le_of_ble_eq_true rfl) (ws2 := [oM ma za aa va ka ta (upd y 0 0), aI cI za 225 0 z]) rfl dX6_bestRegulator_2 (fun H locs w => ?_)
  refine lv_aload_n hx hb dX6_bestRegulator_5 rfl (lv_at hl 0 rfl) ?_
  refine k_ciR (k_runV X w (met_X6_findRegulator l D cI cJ cO ma za aa va ka ta (upd y 0 0) z hob H.size) gX6_bestRegulator_X6_findRegulator rfl rfl rfl 0 hdX6_findRegulator ⟨Nat.le_of_ble_eq_true rfl, Nat.le_of_ble_eq_true rfl⟩ [0, 1] rfl rfl 0 6 rfl rfl rfl rfl hl.1 rfl (Nat.le_of_ble_eq_true rfl) dX6_bestRegulator_6 ⟨Nat.le_of_ble_eq_true rfl, Nat.le_of_ble_eq_true rfl⟩) w hA [0, 1] rfl (fun H locs w => ?_)
  exact fin _ _ _ _ _ w rfl dX6_bestRegulator_9
theorem hdX6_stopsNow : yX6_stopsNow.cls = RX6 ∧ yX6_stopsNow.cls ≠ "java/lang/invoke/MethodHandle" ∧ yX6_stopsNow.cls ≠ "java/lang/invoke/VarHandle" ∧ (parseMethodDescriptor yX6_stopsNow.desc).map (fun d => d.parameters.length) = some 1 := ⟨rfl, by decide, by decide, by decide +kernel⟩
theorem iX6_stopsNow_X6 : ∀ w ∈ wsX60, w ∈ wsX6_stopsNow := fun _ h => List.mem_cons_of_mem _ (List.mem_append_right _ h)
set_option maxHeartbeats 4000000 in
set_option maxRecDepth 100000 in
theorem met_X6_stopsNow (l : Launch) (D : va_G) (cI cJ cO : ClassId) (ma : Nat) (za : Nat) (aa : Nat) (va : Nat) (ka : Nat) (ta : Nat) (y : Nat → Int32) (z : Nat → Int32) (ad : Nat → Int32) (k : Nat) (hob : okb z) (hk : k < 6) : CI l D (TY cI cJ cO) yX6_stopsNow wsX6_stopsNow ({ frames := 3, cells := 0, slots := 0, locals := 65 }) [.ref ma, .int (nI k)] [oM ma za aa va ka ta y, aI cI za 225 0 z, aI cI aa 225 0 ad] (untilN z k) [oM ma za aa va ka ta y, aI cI za 225 0 z, aI cI aa 225 0 z] := by
  refine CI.of (plainFor_of_name (by decide)) rfl (Nat.le_of_ble_eq_true rfl) (rfl) (fun p e s m below meth c A ls Q X hA w hl fin => ?_)
  obtain ⟨hx, hb, hml, hown, hts⟩ := id X.1
  have hl : lv_has ls 3 [(0, .ref ma), (1, .int (nI k))] := hl
  refine lv_aload_n hx hb dX6_stopsNow_0 rfl (lv_at hl 0 rfl) ?_
  refine k_cv (wr := []) (ws2 := [oM ma za aa va ka ta y, aI cI za 225 0 z, aI cI aa 225 0 z]) (k_runV X w (met_X6_putAside l D cI cJ cO ma za aa va ka ta y z ad  s.heap.size) gX6_stopsNow_X6_putAside rfl rfl rfl 0 hdX6_putAside ⟨Nat.le_of_ble_eq_true rfl, Nat.le_of_ble_eq_true rfl⟩ [0, 1, 2] rfl rfl 0 6 rfl rfl rfl rfl hl.1 rfl (Nat.le_of_ble_eq_true rfl) dX6_stopsNow_1 ⟨Nat.le_of_ble_eq_true rfl, Nat.le_of_ble_eq_true rfl⟩) w hA [0, 1, 2] [] rfl rfl rfl (by decide) [0, 1, 2] rfl rfl (fun H locs w => ?_)
  refine lv_aload_n hx hb dX6_stopsNow_4 rfl (lv_at hl 0 rfl) ?_
  refine k_get X w 0 rfl rfl 1 (by decide) rfl iX6_stopsNow_X6 (List.mem_of_getElem? (i := 1) rfl) (v := .ref za) rfl dX6_stopsNow_5 ?_
  refine lv_bipush (v := 6) hx hb dX6_stopsNow_8 (by decide) ?_
  refine lv_iload_n hx hb dX6_stopsNow_10 rfl (lv_at hl 1 rfl) ?_
  refine k_iast X w 1 0 rfl rfl 6 (kj := 6) rfl (by decide) (by decide) rfl (ws2 := [oM ma za aa va ka ta y, aI cI za 225 0 (upd z 6 (nI k)), aI cI aa 225 0 z]) rfl dX6_stopsNow_11 (fun H locs w => ?_)
  refine lv_iconst (v := 0) hx hb dX6_stopsNow_12 (by decide) ?_
  refine lv_istore_n (lv' := [(2, .int 0), (0, .ref ma), (1, .int (nI k))]) hx hb dX6_stopsNow_13 rfl hl (by decide) rfl (fun ls hl => ?_)
  have lp14 : ∀ (n : Nat) (cc : Nat) (zz : Nat → Int32), cc + n = 48 → zz 6 = nI k → okb zz → (zz 1).toInt + (cc : Int) ≤ 48 → zz 9 = z 9 + nI cc → hoursF n zz k 9 = utr z k 9 → ∀ (H : Heap) (locs : List Loc) (ls : Array Slot), wd D A s.heap H locs ([oM ma za aa va ka ta y, aI cI za 225 0 zz, aI cI aa 225 0 z]) → lv_has ls 3 [(2, .int (nI cc)), (0, .ref ma), (1, .int (nI k))] → W p l e ({ frames := 3, cells := 0, slots := 0, locals := 65 }) s m [.ref ma, .int (nI k)].toArray below meth c H locs 0 0 Q (F0 m 14 ls []) := by
    intro n
    induction n with
    | zero =>
      intro cc zz hi hzz hbb hl1 h9 he H locs ls w hl
      refine lv_aload_n hx hb dX6_stopsNow_14 rfl (lv_at hl 1 rfl) ?_
      refine lv_iload_n hx hb dX6_stopsNow_15 rfl (lv_at hl 2 rfl) ?_
      refine k_ciR (k_runV X w (met_X6_goes l D cI cJ cO ma za aa va ka ta y zz (nI k)  H.size) gX6_stopsNow_X6_goes rfl rfl rfl 1 hdX6_goes ⟨Nat.le_of_ble_eq_true rfl, Nat.le_of_ble_eq_true rfl⟩ [0, 1] rfl rfl 0 6 rfl rfl rfl rfl hl.1 rfl (Nat.le_of_ble_eq_true rfl) dX6_stopsNow_16 ⟨Nat.le_of_ble_eq_true rfl, Nat.le_of_ble_eq_true rfl⟩) w hA [0, 1] rfl (fun H locs w => ?_)
      refine lv_if_eq (tgt := 32) hx hb dX6_stopsNow_19 (by decide) (fun c1 => ?_) (fun c1 => absurd (show bI (goes zz (nI k)) = 0 by rw [goes_0 (by omega)]; rfl) c1)
      have c1 := bI_f c1
      refine lv_aload_n hx hb dX6_stopsNow_32 rfl (lv_at hl 1 rfl) ?_
      refine k_cv (wr := []) (ws2 := [oM ma za aa va ka ta y, aI cI za 225 0 z, aI cI aa 225 0 z]) (k_runV X w (met_X6_putBack l D cI cJ cO ma za aa va ka ta y zz z  H.size) gX6_stopsNow_X6_putBack rfl rfl rfl 0 hdX6_putBack ⟨Nat.le_of_ble_eq_true rfl, Nat.le_of_ble_eq_true rfl⟩ [0, 1, 2] rfl rfl 0 6 rfl rfl rfl rfl hl.1 rfl (Nat.le_of_ble_eq_true rfl) dX6_stopsNow_33 ⟨Nat.le_of_ble_eq_true rfl, Nat.le_of_ble_eq_true rfl⟩) w hA [0, 1, 2] [] rfl rfl rfl (by decide) [0, 1, 2] rfl rfl (fun H locs w => ?_)
      refine lv_iload_n hx hb dX6_stopsNow_36 rfl (lv_at hl 0 rfl) ?_
      exact fin _ _ _ _ _ w (by exact untilN_e c1 h9 he) dX6_stopsNow_37
    | succ n ih =>
      intro cc zz hi hzz hbb hl1 h9 he H locs ls w hl
      refine lv_aload_n hx hb dX6_stopsNow_14 rfl (lv_at hl 1 rfl) ?_
      refine lv_iload_n hx hb dX6_stopsNow_15 rfl (lv_at hl 2 rfl) ?_
      refine k_ciR (k_runV X w (met_X6_goes l D cI cJ cO ma za aa va ka ta y zz (nI k)  H.size) gX6_stopsNow_X6_goes rfl rfl rfl 1 hdX6_goes ⟨Nat.le_of_ble_eq_true rfl, Nat.le_of_ble_eq_true rfl⟩ [0, 1] rfl rfl 0 6 rfl rfl rfl rfl hl.1 rfl (Nat.le_of_ble_eq_true rfl) dX6_stopsNow_16 ⟨Nat.le_of_ble_eq_true rfl, Nat.le_of_ble_eq_true rfl⟩) w hA [0, 1] rfl (fun H locs w => ?_)
      refine lv_if_eq (tgt := 32) hx hb dX6_stopsNow_19 (by decide) (fun c2 => ?_) (fun c2 => ?_)
      · have c2 := bI_f c2
        refine lv_aload_n hx hb dX6_stopsNow_32 rfl (lv_at hl 1 rfl) ?_
        refine k_cv (wr := []) (ws2 := [oM ma za aa va ka ta y, aI cI za 225 0 z, aI cI aa 225 0 z]) (k_runV X w (met_X6_putBack l D cI cJ cO ma za aa va ka ta y zz z  H.size) gX6_stopsNow_X6_putBack rfl rfl rfl 0 hdX6_putBack ⟨Nat.le_of_ble_eq_true rfl, Nat.le_of_ble_eq_true rfl⟩ [0, 1, 2] rfl rfl 0 6 rfl rfl rfl rfl hl.1 rfl (Nat.le_of_ble_eq_true rfl) dX6_stopsNow_33 ⟨Nat.le_of_ble_eq_true rfl, Nat.le_of_ble_eq_true rfl⟩) w hA [0, 1, 2] [] rfl rfl rfl (by decide) [0, 1, 2] rfl rfl (fun H locs w => ?_)
        refine lv_iload_n hx hb dX6_stopsNow_36 rfl (lv_at hl 0 rfl) ?_
        exact fin _ _ _ _ _ w (by exact untilN_e c2 h9 he) dX6_stopsNow_37
      · have c2 := bI_t c2
        refine lv_aload_n hx hb dX6_stopsNow_22 rfl (lv_at hl 1 rfl) ?_
        refine k_cv (wr := [aI cI aa 225 0 z]) (ws2 := [oM ma za aa va ka ta y, aI cI za 225 0 (hourF zz k), aI cI aa 225 0 z]) (k_runV X w (met_X6_hour l D cI cJ cO ma za aa va ka ta y zz k hbb hzz hk H.size) gX6_stopsNow_X6_hour rfl rfl rfl 0 hdX6_hour ⟨Nat.le_of_ble_eq_true rfl, Nat.le_of_ble_eq_true rfl⟩ [0, 1] rfl rfl 0 6 rfl rfl rfl rfl hl.1 rfl (Nat.le_of_ble_eq_true rfl) dX6_stopsNow_23 ⟨Nat.le_of_ble_eq_true rfl, Nat.le_of_ble_eq_true rfl⟩) w hA [0, 1] [2] rfl rfl rfl (by decide) [1, 2, 0] rfl rfl (fun H locs w => ?_)
        refine lv_iinc (v := nI (cc + 1)) (lv' := [(2, .int (nI (cc + 1))), (0, .ref ma), (1, .int (nI k))]) hx hb dX6_stopsNow_26 hl (k := 0) rfl (nI_1 _) (by decide) rfl (fun ls hl => ?_)
        refine lv_goto (tgt := 14) hx hb dX6_stopsNow_29 (by decide) ?_
        exact ih (cc + 1) (hourF zz k) (by omega) ((hourF_6 _ _).trans hzz) (hourF_okb hbb) (until_s c2 hbb hl1) (until_9 c2 h9) he _ _ _ w (lv_sub hl [0, 1, 2] rfl)
  exact lp14 48 0 (upd z 6 (nI k)) (Nat.zero_add _) (upd_is _ _ _) (okb_u (by omega) hob) (show (z 1).toInt + ((0 : Nat) : Int) ≤ 48 by have := hob.1.2; omega) (add_z _).symm rfl _ _ _ w (lv_sub hl [0, 1, 2] rfl)
theorem hdX6_stopsIn : yX6_stopsIn.cls = RX6 ∧ yX6_stopsIn.cls ≠ "java/lang/invoke/MethodHandle" ∧ yX6_stopsIn.cls ≠ "java/lang/invoke/VarHandle" ∧ (parseMethodDescriptor yX6_stopsIn.desc).map (fun d => d.parameters.length) = some 1 := ⟨rfl, by decide, by decide, by decide +kernel⟩
theorem iX6_stopsIn_X6 : ∀ w ∈ wsX60, w ∈ wsX6_stopsIn := fun _ h => List.mem_cons_of_mem _ (List.mem_append_right _ h)
set_option maxHeartbeats 4000000 in
set_option maxRecDepth 100000 in
theorem met_X6_stopsIn (l : Launch) (D : va_G) (cI cJ cO : ClassId) (ma : Nat) (za : Nat) (aa : Nat) (va : Nat) (ka : Nat) (ta : Nat) (y : Nat → Int32) (z : Nat → Int32) (ad : Nat → Int32) (k : Nat) (hob : okb z) (hk : k < 6) : CI l D (TY cI cJ cO) yX6_stopsIn wsX6_stopsIn ({ frames := 4, cells := 0, slots := 0, locals := 87 }) [.ref ma, .int (nI k)] [oM ma za aa va ka ta y, aI cI za 225 0 z, aI cI aa 225 0 ad] (untilN z k) [oM ma za aa va ka ta (upd y 0 0), aI cI za 225 0 z, aI cI aa 225 0 z] := by
  refine CI.of (plainFor_of_name (by decide)) rfl (Nat.le_of_ble_eq_true rfl) (rfl) (fun p e s m below meth c A ls Q X hA w hl fin => ?_)
  obtain ⟨hx, hb, hml, hown, hts⟩ := id X.1
  have hl : lv_has ls 2 [(0, .ref ma), (1, .int (nI k))] := hl
  refine lv_aload_n hx hb dX6_stopsIn_0 rfl (lv_at hl 0 rfl) ?_
  refine lv_iload_n hx hb dX6_stopsIn_1 rfl (lv_at hl 1 rfl) ?_
  refine k_ciR (k_runS X w (met_X6_isPose l D cI cJ cO (nI k)  s.heap.size) gX6_stopsIn_X6_isPose rfl rfl rfl 1 hdX6_isPose ⟨Nat.le_of_ble_eq_true rfl, Nat.le_of_ble_eq_true rfl⟩ [] rfl rfl rfl hl.1 rfl (Nat.le_of_ble_eq_true rfl) dX6_stopsIn_2 ⟨Nat.le_of_ble_eq_true rfl, Nat.le_of_ble_eq_true rfl⟩) w hA [] rfl (fun H locs w => ?_)
  refine lv_if_eq (tgt := 12) hx hb dX6_stopsIn_5 (by decide) (fun c1 => absurd c1 (in5 hk)) (fun c1 => ?_)
  refine lv_iconst (v := 0) hx hb dX6_stopsIn_8 (by decide) ?_
  refine lv_goto (tgt := 13) hx hb dX6_stopsIn_9 (by decide) ?_
  refine k_put X w 0 rfl rfl 0 (by decide) rfl iX6_stopsIn_X6 (List.mem_of_getElem? (i := 1) rfl) tyX6_ok nmX6 rfl rfl (Nat.le_of_ble_eq_true rfl) (ws2 := [oM ma za aa va ka ta (upd y 0 0), aI cI za 225 0 z, aI cI aa 225 0 ad]) rfl dX6_stopsIn_13 (fun H locs w => ?_)
  refine lv_aload_n hx hb dX6_stopsIn_16 rfl (lv_at hl 0 rfl) ?_
  refine k_get X w 0 rfl rfl 0 (by decide) rfl iX6_stopsIn_X6 (List.mem_of_getElem? (i := 1) rfl) (v := .int 0) (congrArg (fun t => some (Value.int t)) (upd_is _ _ _)) dX6_stopsIn_17 ?_
  refine lv_if_le (tgt := 27) hx hb dX6_stopsIn_20 (by decide) (fun c2 => ?_) (fun c2 => absurd c2 (by decide))
  refine lv_aload_n hx hb dX6_stopsIn_27 rfl (lv_at hl 0 rfl) ?_
  refine lv_iload_n hx hb dX6_stopsIn_28 rfl (lv_at hl 1 rfl) ?_
  refine k_ci (wr := []) (ws2 := [oM ma za aa va ka ta (upd y 0 0), aI cI za 225 0 z, aI cI aa 225 0 z]) (k_runV X w (met_X6_stopsNow l D cI cJ cO ma za aa va ka ta (upd y 0 0) z ad k hob hk H.size) gX6_stopsIn_X6_stopsNow rfl rfl rfl 1 hdX6_stopsNow ⟨Nat.le_of_ble_eq_true rfl, Nat.le_of_ble_eq_true rfl⟩ [0, 1, 2] rfl rfl 0 6 rfl rfl rfl rfl hl.1 rfl (Nat.le_of_ble_eq_true rfl) dX6_stopsIn_29 ⟨Nat.le_of_ble_eq_true rfl, Nat.le_of_ble_eq_true rfl⟩) w hA [0, 1, 2] [] rfl rfl rfl (by decide) [0, 1, 2] rfl rfl (fun H locs w => ?_)
  exact fin _ _ _ _ _ w rfl dX6_stopsIn_32
set_option maxHeartbeats 4000000 in
set_option maxRecDepth 100000 in
theorem met_X6_stopsIn_t (l : Launch) (D : va_G) (cI cJ cO : ClassId) (ma : Nat) (za : Nat) (aa : Nat) (va : Nat) (ka : Nat) (ta : Nat) (y : Nat → Int32) (x : Int32) (hin : ¬ inR x 0 5) : CI l D (TY cI cJ cO) yX6_stopsIn wsX6_stopsIn ({ frames := 2, cells := 0, slots := 0, locals := 42 }) [.ref ma, .int x] [oM ma za aa va ka ta y] 0 [oM ma za aa va ka ta (upd y 0 1)] := by
  refine CI.of (plainFor_of_name (by decide)) rfl (Nat.le_of_ble_eq_true rfl) (rfl) (fun p e s m below meth c A ls Q X hA w hl fin => ?_)
  obtain ⟨hx, hb, hml, hown, hts⟩ := id X.1
  have hl : lv_has ls 2 [(0, .ref ma), (1, .int x)] := hl
  refine lv_aload_n hx hb dX6_stopsIn_0 rfl (lv_at hl 0 rfl) ?_
  refine lv_iload_n hx hb dX6_stopsIn_1 rfl (lv_at hl 1 rfl) ?_
  refine k_ciR (k_runS X w (met_X6_isPose l D cI cJ cO x  s.heap.size) gX6_stopsIn_X6_isPose rfl rfl rfl 1 hdX6_isPose ⟨Nat.le_of_ble_eq_true rfl, Nat.le_of_ble_eq_true rfl⟩ [] rfl rfl rfl hl.1 rfl (Nat.le_of_ble_eq_true rfl) dX6_stopsIn_2 ⟨Nat.le_of_ble_eq_true rfl, Nat.le_of_ble_eq_true rfl⟩) w hA [] rfl (fun H locs w => ?_)
  refine lv_if_eq (tgt := 12) hx hb dX6_stopsIn_5 (by decide) (fun c1 => ?_) (fun c1 => absurd (inB_n hin) c1)
  refine lv_iconst (v := 1) hx hb dX6_stopsIn_12 (by decide) ?_
  refine k_put X w 0 rfl rfl 0 (by decide) rfl iX6_stopsIn_X6 (List.mem_of_getElem? (i := 1) rfl) tyX6_ok nmX6 rfl rfl (Nat.le_of_ble_eq_true rfl) (ws2 := [oM ma za aa va ka ta (upd y 0 1)]) rfl dX6_stopsIn_13 (fun H locs w => ?_)
  refine lv_aload_n hx hb dX6_stopsIn_16 rfl (lv_at hl 0 rfl) ?_
  refine k_get X w 0 rfl rfl 0 (by decide) rfl iX6_stopsIn_X6 (List.mem_of_getElem? (i := 1) rfl) (v := .int 1) (congrArg (fun t => some (Value.int t)) (upd_is _ _ _)) dX6_stopsIn_17 ?_
  refine lv_if_le (tgt := 27) hx hb dX6_stopsIn_20 (by decide) (fun c2 => absurd c2 (by decide)) (fun c2 => ?_)
  refine lv_iconst (v := 0) hx hb dX6_stopsIn_23 (by decide) ?_
  refine lv_goto (tgt := 32) hx hb dX6_stopsIn_24 (by decide) ?_
  exact fin _ _ _ _ _ w rfl dX6_stopsIn_32
theorem hdX6_findNight : yX6_findNight.cls = RX6 ∧ yX6_findNight.cls ≠ "java/lang/invoke/MethodHandle" ∧ yX6_findNight.cls ≠ "java/lang/invoke/VarHandle" ∧ (parseMethodDescriptor yX6_findNight.desc).map (fun d => d.parameters.length) = some 0 := ⟨rfl, by decide, by decide, by decide +kernel⟩
theorem iX6_findNight_X6 : ∀ w ∈ wsX60, w ∈ wsX6_findNight := fun _ h => List.mem_cons_of_mem _ (List.mem_append_right _ h)
set_option maxHeartbeats 4000000 in
set_option maxRecDepth 100000 in
theorem met_X6_findNight (l : Launch) (D : va_G) (cI cJ cO : ClassId) (ma : Nat) (za : Nat) (aa : Nat) (va : Nat) (ka : Nat) (ta : Nat) (y : Nat → Int32) (z : Nat → Int32) (ad : Nat → Int32) (hob : okb z) (hE : ¬ 2000000000 ≤ am (wz1 z 0 7)) : CI l D (TY cI cJ cO) yX6_findNight wsX6_findNight ({ frames := 4, cells := 0, slots := 0, locals := 88 }) [.ref ma] [oM ma za aa va ka ta y, aI cI za 225 0 z, aI cI aa 225 0 ad] (nightN z) [oM ma za aa va ka ta y, aI cI za 225 0 z, aI cI aa 225 0 (ntA z ad 6)] := by
  refine CI.of (plainFor_of_name (by decide)) rfl (Nat.le_of_ble_eq_true rfl) (rfl) (fun p e s m below meth c A ls Q X hA w hl fin => ?_)
  obtain ⟨hx, hb, hml, hown, hts⟩ := id X.1
  have hl : lv_has ls 5 [(0, .ref ma)] := hl
  refine lv_iconst (v := 0) hx hb dX6_findNight_0 (by decide) ?_
  refine lv_istore_n (lv' := [(1, .int 0), (0, .ref ma)]) hx hb dX6_findNight_1 rfl hl (by decide) rfl (fun ls hl => ?_)
  refine lv_iconst (v := 0) hx hb dX6_findNight_2 (by decide) ?_
  refine lv_istore_n (lv' := [(2, .int 0), (1, .int 0), (0, .ref ma)]) hx hb dX6_findNight_3 rfl hl (by decide) rfl (fun ls hl => ?_)
  refine lv_iconst (v := 0) hx hb dX6_findNight_4 (by decide) ?_
  refine lv_istore_n (lv' := [(3, .int 0), (2, .int 0), (1, .int 0), (0, .ref ma)]) hx hb dX6_findNight_5 rfl hl (by decide) rfl (fun ls hl => ?_)
  have lp6 : ∀ (n : Nat) (pp : Nat) (bb : Int32) (ll : Int32), pp + n = 6 → ngl z n pp bb (if pp = 0 then 2000000000 else ll) = nightN z → ∀ (H : Heap) (locs : List Loc) (ls : Array Slot), wd D A s.heap H locs ([oM ma za aa va ka ta y, aI cI za 225 0 z, aI cI aa 225 0 (ntA z ad pp)]) → lv_has ls 5 [(3, .int (nI pp)), (1, .int bb), (2, .int ll), (0, .ref ma)] → W p l e ({ frames := 4, cells := 0, slots := 0, locals := 88 }) s m [.ref ma].toArray below meth c H locs 0 0 Q (F0 m 6 ls []) := by
    intro n
    induction n with
    | zero =>
      intro pp bb ll hi he H locs ls w hl
      refine lv_iload_n hx hb dX6_findNight_6 rfl (lv_at hl 0 rfl) ?_
      refine lv_bipush (v := 6) hx hb dX6_findNight_7 (by decide) ?_
      refine lv_icmp_ge (tgt := 68) hx hb dX6_findNight_9 (by decide) (fun c1 => ?_) (fun c1 => absurd (nI_le (a := 6) (b := pp) (by omega) (by omega)) c1)
      refine lv_iload_n hx hb dX6_findNight_68 rfl (lv_at hl 1 rfl) ?_
      have ez : ntA z ad pp = ntA z ad 6 := by rw [show pp = 6 by omega]
      rw [ez] at w
      exact fin _ _ _ _ _ w (by exact he) dX6_findNight_69
    | succ n ih =>
      intro pp bb ll hi he H locs ls w hl
      refine lv_iload_n hx hb dX6_findNight_6 rfl (lv_at hl 0 rfl) ?_
      refine lv_bipush (v := 6) hx hb dX6_findNight_7 (by decide) ?_
      refine lv_icmp_ge (tgt := 68) hx hb dX6_findNight_9 (by decide) (fun c2 => absurd c2 (nI_ge (a := pp) (b := 6) (by omega) (by decide))) (fun c2 => ?_)
      refine lv_aload_n hx hb dX6_findNight_12 rfl (lv_at hl 3 rfl) ?_
      refine k_cv (wr := []) (ws2 := [oM ma za aa va ka ta y, aI cI za 225 0 z, aI cI aa 225 0 z]) (k_runV X w (met_X6_putAside l D cI cJ cO ma za aa va ka ta y z (ntA z ad pp)  H.size) gX6_findNight_X6_putAside rfl rfl rfl 0 hdX6_putAside ⟨Nat.le_of_ble_eq_true rfl, Nat.le_of_ble_eq_true rfl⟩ [0, 1, 2] rfl rfl 0 6 rfl rfl rfl rfl hl.1 rfl (Nat.le_of_ble_eq_true rfl) dX6_findNight_13 ⟨Nat.le_of_ble_eq_true rfl, Nat.le_of_ble_eq_true rfl⟩) w hA [0, 1, 2] [] rfl rfl rfl (by decide) [0, 1, 2] rfl rfl (fun H locs w => ?_)
      refine lv_aload_n hx hb dX6_findNight_16 rfl (lv_at hl 3 rfl) ?_
      refine k_get X w 0 rfl rfl 1 (by decide) rfl iX6_findNight_X6 (List.mem_of_getElem? (i := 1) rfl) (v := .ref za) rfl dX6_findNight_17 ?_
      refine lv_bipush (v := 6) hx hb dX6_findNight_20 (by decide) ?_
      refine lv_iload_n hx hb dX6_findNight_22 rfl (lv_at hl 0 rfl) ?_
      refine k_iast X w 1 0 rfl rfl 6 (kj := 6) rfl (by decide) (by decide) rfl (ws2 := [oM ma za aa va ka ta y, aI cI za 225 0 (upd z 6 (nI pp)), aI cI aa 225 0 z]) rfl dX6_findNight_23 (fun H locs w => ?_)
      refine lv_aload_n hx hb dX6_findNight_24 rfl (lv_at hl 3 rfl) ?_
      refine lv_bipush (v := 8) hx hb dX6_findNight_25 (by decide) ?_
      refine k_ci (wr := [aI cI aa 225 0 z]) (ws2 := [oM ma za aa va ka ta y, aI cI za 225 0 (hoursF 8 (upd z 6 (nI pp)) pp), aI cI aa 225 0 z]) (k_runV X w (met_X6_hours l D cI cJ cO ma za aa va ka ta y (upd z 6 (nI pp)) pp 8 (okb_u (by omega) hob) (upd_is _ _ _) (by omega) (by decide) H.size) gX6_findNight_X6_hours rfl rfl rfl 1 hdX6_hours ⟨Nat.le_of_ble_eq_true rfl, Nat.le_of_ble_eq_true rfl⟩ [0, 1] rfl rfl 0 6 rfl rfl rfl rfl hl.1 rfl (Nat.le_of_ble_eq_true rfl) dX6_findNight_27 ⟨Nat.le_of_ble_eq_true rfl, Nat.le_of_ble_eq_true rfl⟩) w hA [0, 1] [2] rfl rfl rfl (by decide) [1, 2, 0] rfl rfl (fun H locs w => ?_)
      refine lv_pop hx hb dX6_findNight_30 rfl ?_
      refine lv_aload_n hx hb dX6_findNight_31 rfl (lv_at hl 3 rfl) ?_
      refine k_get X w 0 rfl rfl 1 (by decide) rfl iX6_findNight_X6 (List.mem_of_getElem? (i := 1) rfl) (v := .ref za) rfl dX6_findNight_32 ?_
      refine lv_bipush (v := 7) hx hb dX6_findNight_35 (by decide) ?_
      refine k_iald X w 1 0 rfl rfl 7 (kj := 7) rfl (by decide) (by decide) rfl (v := (hoursF 8 (upd z 6 (nI pp)) pp) 7) rfl dX6_findNight_37 ?_
      refine k_ciR (k_runS X w (met_X6_amount l D cI cJ cO ((hoursF 8 (upd z 6 (nI pp)) pp) 7)  H.size) gX6_findNight_X6_amount rfl rfl rfl 1 hdX6_amount ⟨Nat.le_of_ble_eq_true rfl, Nat.le_of_ble_eq_true rfl⟩ [] rfl rfl rfl hl.1 rfl (Nat.le_of_ble_eq_true rfl) dX6_findNight_38 ⟨Nat.le_of_ble_eq_true rfl, Nat.le_of_ble_eq_true rfl⟩) w hA [] rfl (fun H locs w => ?_)
      refine lv_istore (lv' := [(4, .int (am ((hoursF 8 (upd z 6 (nI pp)) pp) 7))), (3, .int (nI pp)), (1, .int bb), (2, .int ll), (0, .ref ma)]) hx hb dX6_findNight_41 hl (by decide) rfl (fun ls hl => ?_)
      refine lv_aload_n hx hb dX6_findNight_43 rfl (lv_at hl 4 rfl) ?_
      refine k_cv (wr := []) (ws2 := [oM ma za aa va ka ta y, aI cI za 225 0 z, aI cI aa 225 0 z]) (k_runV X w (met_X6_putBack l D cI cJ cO ma za aa va ka ta y (hoursF 8 (upd z 6 (nI pp)) pp) z  H.size) gX6_findNight_X6_putBack rfl rfl rfl 0 hdX6_putBack ⟨Nat.le_of_ble_eq_true rfl, Nat.le_of_ble_eq_true rfl⟩ [0, 1, 2] rfl rfl 0 6 rfl rfl rfl rfl hl.1 rfl (Nat.le_of_ble_eq_true rfl) dX6_findNight_44 ⟨Nat.le_of_ble_eq_true rfl, Nat.le_of_ble_eq_true rfl⟩) w hA [0, 1, 2] [] rfl rfl rfl (by decide) [0, 1, 2] rfl rfl (fun H locs w => ?_)
      refine lv_iload_n hx hb dX6_findNight_47 rfl (lv_at hl 1 rfl) ?_
      refine lv_if_eq (tgt := 57) hx hb dX6_findNight_48 (by decide) (fun c3 => ?_) (fun c3 => ?_)
      · refine lv_iload_n hx hb dX6_findNight_57 rfl (lv_at hl 1 rfl) ?_
        refine lv_istore_n (lv' := [(1, .int (nI pp)), (4, .int (am ((hoursF 8 (upd z 6 (nI pp)) pp) 7))), (3, .int (nI pp)), (2, .int ll), (0, .ref ma)]) hx hb dX6_findNight_58 rfl hl (by decide) rfl (fun ls hl => ?_)
        refine lv_iload hx hb dX6_findNight_59 (lv_at hl 1 rfl) ?_
        refine lv_istore_n (lv' := [(2, .int (am ((hoursF 8 (upd z 6 (nI pp)) pp) 7))), (1, .int (nI pp)), (4, .int (am ((hoursF 8 (upd z 6 (nI pp)) pp) 7))), (3, .int (nI pp)), (0, .ref ma)]) hx hb dX6_findNight_61 rfl hl (by decide) rfl (fun ls hl => ?_)
        refine lv_iinc (v := nI (pp + 1)) (lv' := [(3, .int (nI (pp + 1))), (2, .int (am ((hoursF 8 (upd z 6 (nI pp)) pp) 7))), (1, .int (nI pp)), (4, .int (am ((hoursF 8 (upd z 6 (nI pp)) pp) 7))), (0, .ref ma)]) hx hb dX6_findNight_62 hl (k := 3) rfl (nI_1 _) (by decide) rfl (fun ls hl => ?_)
        refine lv_goto (tgt := 6) hx hb dX6_findNight_65 (by decide) ?_
        have w := w.to (show [oM ma za aa va ka ta y, aI cI za 225 0 z, aI cI aa 225 0 z] = [oM ma za aa va ka ta y, aI cI za 225 0 z, aI cI aa 225 0 (ntA z ad (pp + 1))] by rw [show aI cI aa 225 0 z = aI cI aa 225 0 (ntA z ad (pp + 1)) from rfl])
        exact ih (pp + 1) (nI pp) (am ((hoursF 8 (upd z 6 (nI pp)) pp) 7)) (by omega) (night_t (nI_z (by omega) c3) hE he) _ _ _ w (lv_sub hl [0, 2, 1, 4] rfl)
      · refine lv_iload hx hb dX6_findNight_51 (lv_at hl 0 rfl) ?_
        refine lv_iload_n hx hb dX6_findNight_53 rfl (lv_at hl 3 rfl) ?_
        refine lv_icmp_ge (tgt := 62) hx hb dX6_findNight_54 (by decide) (fun c4 => ?_) (fun c4 => ?_)
        · refine lv_iinc (v := nI (pp + 1)) (lv' := [(3, .int (nI (pp + 1))), (4, .int (am ((hoursF 8 (upd z 6 (nI pp)) pp) 7))), (1, .int bb), (2, .int ll), (0, .ref ma)]) hx hb dX6_findNight_62 hl (k := 1) rfl (nI_1 _) (by decide) rfl (fun ls hl => ?_)
          refine lv_goto (tgt := 6) hx hb dX6_findNight_65 (by decide) ?_
          have w := w.to (show [oM ma za aa va ka ta y, aI cI za 225 0 z, aI cI aa 225 0 z] = [oM ma za aa va ka ta y, aI cI za 225 0 z, aI cI aa 225 0 (ntA z ad (pp + 1))] by rw [show aI cI aa 225 0 z = aI cI aa 225 0 (ntA z ad (pp + 1)) from rfl])
          exact ih (pp + 1) bb ll (by omega) (night_k (fun h => c3 (by rw [h]; rfl)) c4 he) _ _ _ w (lv_sub hl [0, 2, 3, 4] rfl)
        · refine lv_iload_n hx hb dX6_findNight_57 rfl (lv_at hl 1 rfl) ?_
          refine lv_istore_n (lv' := [(1, .int (nI pp)), (4, .int (am ((hoursF 8 (upd z 6 (nI pp)) pp) 7))), (3, .int (nI pp)), (2, .int ll), (0, .ref ma)]) hx hb dX6_findNight_58 rfl hl (by decide) rfl (fun ls hl => ?_)
          refine lv_iload hx hb dX6_findNight_59 (lv_at hl 1 rfl) ?_
          refine lv_istore_n (lv' := [(2, .int (am ((hoursF 8 (upd z 6 (nI pp)) pp) 7))), (1, .int (nI pp)), (4, .int (am ((hoursF 8 (upd z 6 (nI pp)) pp) 7))), (3, .int (nI pp)), (0, .ref ma)]) hx hb dX6_findNight_61 rfl hl (by decide) rfl (fun ls hl => ?_)
          refine lv_iinc (v := nI (pp + 1)) (lv' := [(3, .int (nI (pp + 1))), (2, .int (am ((hoursF 8 (upd z 6 (nI pp)) pp) 7))), (1, .int (nI pp)), (4, .int (am ((hoursF 8 (upd z 6 (nI pp)) pp) 7))), (0, .ref ma)]) hx hb dX6_findNight_62 hl (k := 3) rfl (nI_1 _) (by decide) rfl (fun ls hl => ?_)
          refine lv_goto (tgt := 6) hx hb dX6_findNight_65 (by decide) ?_
          have w := w.to (show [oM ma za aa va ka ta y, aI cI za 225 0 z, aI cI aa 225 0 z] = [oM ma za aa va ka ta y, aI cI za 225 0 z, aI cI aa 225 0 (ntA z ad (pp + 1))] by rw [show aI cI aa 225 0 z = aI cI aa 225 0 (ntA z ad (pp + 1)) from rfl])
          exact ih (pp + 1) (nI pp) (am ((hoursF 8 (upd z 6 (nI pp)) pp) 7)) (by omega) (night_s (fun h => c3 (by rw [h]; rfl)) c4 he) _ _ _ w (lv_sub hl [0, 2, 1, 4] rfl)
  have w := w.to (show [oM ma za aa va ka ta y, aI cI za 225 0 z, aI cI aa 225 0 ad] = [oM ma za aa va ka ta y, aI cI za 225 0 z, aI cI aa 225 0 (ntA z ad 0)] by rw [show aI cI aa 225 0 ad = aI cI aa 225 0 (ntA z ad 0) from rfl])
  exact lp6 6 0 0 0 (Nat.zero_add _) rfl _ _ _ w (lv_sub hl [0, 2, 1, 3] rfl)
theorem hdX6_nightPose : yX6_nightPose.cls = RX6 ∧ yX6_nightPose.cls ≠ "java/lang/invoke/MethodHandle" ∧ yX6_nightPose.cls ≠ "java/lang/invoke/VarHandle" ∧ (parseMethodDescriptor yX6_nightPose.desc).map (fun d => d.parameters.length) = some 0 := ⟨rfl, by decide, by decide, by decide +kernel⟩
theorem iX6_nightPose_X6 : ∀ w ∈ wsX60, w ∈ wsX6_nightPose := fun _ h => List.mem_cons_of_mem _ (List.mem_append_right _ h)
set_option maxHeartbeats 4000000 in
set_option maxRecDepth 100000 in
theorem met_X6_nightPose (l : Launch) (D : va_G) (cI cJ cO : ClassId) (ma : Nat) (za : Nat) (aa : Nat) (va : Nat) (ka : Nat) (ta : Nat) (y : Nat → Int32) (z : Nat → Int32) (ad : Nat → Int32) (hob : okb z) (hE : ¬ 2000000000 ≤ am (wz1 z 0 7)) : CI l D (TY cI cJ cO) yX6_nightPose wsX6_nightPose ({ frames := 5, cells := 0, slots := 0, locals := 112 }) [.ref ma] [oM ma za aa va ka ta y, aI cI za 225 0 z, aI cI aa 225 0 ad] (nightN z) [oM ma za aa va ka ta (upd y 0 0), aI cI za 225 0 z, aI cI aa 225 0 (ntA z ad 6)] := by
  refine CI.of (plainFor_of_name (by decide)) rfl (Nat.le_of_ble_eq_true rfl) (rfl) (fun p e s m below meth c A ls Q X hA w hl fin => ?_)
  obtain ⟨hx, hb, hml, hown, hts⟩ := id X.1
  have hl : lv_has ls 1 [(0, .ref ma)] := hl
  refine lv_aload_n hx hb dX6_nightPose_0 rfl (lv_at hl 0 rfl) ?_
  refine lv_iconst (v := 0) hx hb dX6_nightPose_1 (by decide) ?_
  refine k_put X w 0 rfl rfl 0 (by decide) rfl iX6_nightPose_X6 (List.mem_of_getElem? (i := 1) rfl) tyX6_ok nmX6 rfl rfl (Nat.le_of_ble_eq_true rfl) (ws2 := [oM ma za aa va ka ta (upd y 0 0), aI cI za 225 0 z, aI cI aa 225 0 ad]) rfl dX6_nightPose_2 (fun H locs w => ?_)
  refine lv_aload_n hx hb dX6_nightPose_5 rfl (lv_at hl 0 rfl) ?_
  refine k_ci (wr := []) (ws2 := [oM ma za aa va ka ta (upd y 0 0), aI cI za 225 0 z, aI cI aa 225 0 (ntA z ad 6)]) (k_runV X w (met_X6_findNight l D cI cJ cO ma za aa va ka ta (upd y 0 0) z ad hob hE H.size) gX6_nightPose_X6_findNight rfl rfl rfl 0 hdX6_findNight ⟨Nat.le_of_ble_eq_true rfl, Nat.le_of_ble_eq_true rfl⟩ [0, 1, 2] rfl rfl 0 6 rfl rfl rfl rfl hl.1 rfl (Nat.le_of_ble_eq_true rfl) dX6_nightPose_6 ⟨Nat.le_of_ble_eq_true rfl, Nat.le_of_ble_eq_true rfl⟩) w hA [0, 1, 2] [] rfl rfl rfl (by decide) [0, 1, 2] rfl rfl (fun H locs w => ?_)
  exact fin _ _ _ _ _ w rfl dX6_nightPose_9
theorem hdX6_share : yX6_share.cls = RX6 ∧ yX6_share.cls ≠ "java/lang/invoke/MethodHandle" ∧ yX6_share.cls ≠ "java/lang/invoke/VarHandle" ∧ (parseMethodDescriptor yX6_share.desc).map (fun d => d.parameters.length) = some 0 := ⟨rfl, by decide, by decide, by decide +kernel⟩
theorem iX6_share_X6 : ∀ w ∈ wsX60, w ∈ wsX6_share := fun _ h => List.mem_cons_of_mem _ (List.mem_append_right _ h)
set_option maxHeartbeats 4000000 in
set_option maxRecDepth 100000 in
theorem met_X6_share (l : Launch) (D : va_G) (cI cJ cO : ClassId) (ma : Nat) (za : Nat) (aa : Nat) (va : Nat) (ka : Nat) (ta : Nat) (y : Nat → Int32) (z : Nat → Int32) (h0 : 0 ≤ (z 0).toInt) (hnn : ¬ z 0 ≤ 0 → vf_n64 (FP.ddiv (FP.i2d (z 9)) (FP.i2d (z 0)))) : CD l D (TY cI cJ cO) yX6_share wsX6_share ({ frames := 0, cells := 0, slots := 0, locals := 0 }) [.ref ma] [oM ma za aa va ka ta y, aI cI za 225 0 z] (share z) [oM ma za aa va ka ta y, aI cI za 225 0 z] := by
  refine CD.of (plainFor_of_name (by decide)) rfl (Nat.le_of_ble_eq_true rfl) (fun p e s m below meth c A ls Q X hA w hl fin => ?_)
  obtain ⟨hx, hb, hml, hown, hts⟩ := id X.1
  have hl : lv_has ls 1 [(0, .ref ma)] := hl
  refine lv_aload_n hx hb dX6_share_0 rfl (lv_at hl 0 rfl) ?_
  refine k_get X w 0 rfl rfl 1 (by decide) rfl iX6_share_X6 (List.mem_of_getElem? (i := 1) rfl) (v := .ref za) rfl dX6_share_1 ?_
  refine lv_iconst (v := 0) hx hb dX6_share_4 (by decide) ?_
  refine k_iald X w 1 0 rfl rfl 0 (kj := 0) rfl (by decide) (by decide) rfl (v := z 0) rfl dX6_share_5 ?_
  refine lv_if_ne (tgt := 13) hx hb dX6_share_6 (by decide) (fun c1 => ?_) (fun c1 => ?_)
  · have c1 := share_nz h0 c1
    refine lv_aload_n hx hb dX6_share_13 rfl (lv_at hl 0 rfl) ?_
    refine k_get X w 0 rfl rfl 1 (by decide) rfl iX6_share_X6 (List.mem_of_getElem? (i := 1) rfl) (v := .ref za) rfl dX6_share_14 ?_
    refine lv_bipush (v := 9) hx hb dX6_share_17 (by decide) ?_
    refine k_iald X w 1 0 rfl rfl 9 (kj := 9) rfl (by decide) (by decide) rfl (v := z 9) rfl dX6_share_19 ?_
    refine lv_i2d hx hb dX6_share_20 ?_
    refine lv_aload_n hx hb dX6_share_21 rfl (lv_at hl 0 rfl) ?_
    refine k_get X w 0 rfl rfl 1 (by decide) rfl iX6_share_X6 (List.mem_of_getElem? (i := 1) rfl) (v := .ref za) rfl dX6_share_22 ?_
    refine lv_iconst (v := 0) hx hb dX6_share_25 (by decide) ?_
    refine k_iald X w 1 0 rfl rfl 0 (kj := 0) rfl (by decide) (by decide) rfl (v := z 0) rfl dX6_share_26 ?_
    refine lv_i2d hx hb dX6_share_27 ?_
    refine lv_ddiv hx hb dX6_share_28 (hnn c1) ?_
    exact fin _ _ _ _ _ w (by simp only [share, c1, if_true, if_false]) dX6_share_29
  · have c1 : z 0 ≤ 0 := by rw [c1]; decide
    refine lv_dconst1 hx hb dX6_share_9 ?_
    refine lv_goto (tgt := 29) hx hb dX6_share_10 (by decide) ?_
    exact fin _ _ _ _ _ w (by simp only [share, c1, if_true, if_false]) dX6_share_29
theorem hdX6_going : yX6_going.cls = RX6 ∧ yX6_going.cls ≠ "java/lang/invoke/MethodHandle" ∧ yX6_going.cls ≠ "java/lang/invoke/VarHandle" ∧ (parseMethodDescriptor yX6_going.desc).map (fun d => d.parameters.length) = some 0 := ⟨rfl, by decide, by decide, by decide +kernel⟩
theorem iX6_going_X6 : ∀ w ∈ wsX60, w ∈ wsX6_going := fun _ h => List.mem_cons_of_mem _ (List.mem_append_right _ h)
set_option maxHeartbeats 4000000 in
set_option maxRecDepth 100000 in
theorem met_X6_going (l : Launch) (D : va_G) (cI cJ cO : ClassId) (ma : Nat) (za : Nat) (aa : Nat) (va : Nat) (ka : Nat) (ta : Nat) (y : Nat → Int32) (z : Nat → Int32) (h0 : 0 ≤ (z 0).toInt) (hnn : ¬ z 0 ≤ 0 → vf_n64 (FP.ddiv (FP.i2d (z 9)) (FP.i2d (z 0)))) : CD l D (TY cI cJ cO) yX6_going wsX6_going ({ frames := 1, cells := 0, slots := 0, locals := 20 }) [.ref ma] [oM ma za aa va ka ta y, aI cI za 225 0 z] (share z) [oM ma za aa va ka ta (upd y 0 0), aI cI za 225 0 z] := by
  refine CD.of (plainFor_of_name (by decide)) rfl (Nat.le_of_ble_eq_true rfl) (fun p e s m below meth c A ls Q X hA w hl fin => ?_)
  obtain ⟨hx, hb, hml, hown, hts⟩ := id X.1
  have hl : lv_has ls 1 [(0, .ref ma)] := hl
  refine lv_aload_n hx hb dX6_going_0 rfl (lv_at hl 0 rfl) ?_
  refine lv_iconst (v := 0) hx hb dX6_going_1 (by decide) ?_
  refine k_put X w 0 rfl rfl 0 (by decide) rfl iX6_going_X6 (List.mem_of_getElem? (i := 1) rfl) tyX6_ok nmX6 rfl rfl (Nat.le_of_ble_eq_true rfl) (ws2 := [oM ma za aa va ka ta (upd y 0 0), aI cI za 225 0 z]) rfl dX6_going_2 (fun H locs w => ?_)
  refine lv_aload_n hx hb dX6_going_5 rfl (lv_at hl 0 rfl) ?_
  refine k_cdR (k_runV X w (met_X6_share l D cI cJ cO ma za aa va ka ta (upd y 0 0) z h0 hnn H.size) gX6_going_X6_share rfl rfl rfl 0 hdX6_share ⟨Nat.le_of_ble_eq_true rfl, Nat.le_of_ble_eq_true rfl⟩ [0, 1] rfl rfl 0 6 rfl rfl rfl rfl hl.1 rfl (Nat.le_of_ble_eq_true rfl) dX6_going_6 ⟨Nat.le_of_ble_eq_true rfl, Nat.le_of_ble_eq_true rfl⟩) w hA [0, 1] rfl (fun H locs w => ?_)
  exact fin _ _ _ _ _ w rfl dX6_going_9
