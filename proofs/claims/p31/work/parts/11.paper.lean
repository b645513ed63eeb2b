theorem hdX1_isFull : yX1_isFull.cls = RX1 ∧ yX1_isFull.cls ≠ "java/lang/invoke/MethodHandle" ∧ yX1_isFull.cls ≠ "java/lang/invoke/VarHandle" ∧ (parseMethodDescriptor yX1_isFull.desc).map (fun d => d.parameters.length) = some 0 := ⟨rfl, by decide, by decide, by decide +kernel⟩
theorem iX1_isFull_X1 : ∀ w ∈ wsX10, w ∈ wsX1_isFull := fun _ h => List.mem_cons_of_mem _ (List.mem_append_right _ h)
set_option maxHeartbeats 4000000 in
set_option maxRecDepth 100000 in
theorem met_X1_isFull (l : Launch) (D : va_G) (cI cJ cO : ClassId) (pa : Nat) (ra : Nat) (z : Nat → Int32)  : CI l D (TY cI cJ cO) yX1_isFull wsX1_isFull ({ frames := 0, cells := 0, slots := 0, locals := 0 }) [.ref pa] [oP pa ra z, aI cI ra 200 25 z] (bI (full z)) [oP pa ra z, aI cI ra 200 25 z] := by
  refine CI.of (plainFor_of_name (by decide)) rfl (Nat.le_of_ble_eq_true rfl) (bI_n _) (fun p e s m below meth c A ls Q X hA w hl fin => ?_)
  obtain ⟨hx, hb, hml, hown, hts⟩ := id X.1
  have hl : lv_has ls 1 [(0, .ref pa)] := hl
  refine lv_aload_n hx hb dX1_isFull_0 rfl (lv_at hl 0 rfl) ?_
  refine k_get X w 0 rfl rfl 1 (by decide) rfl iX1_isFull_X1 (List.mem_of_getElem? (i := 1) rfl) (v := .int (z 10)) rfl dX1_isFull_1 ?_
  refine lv_bipush (v := 40) hx hb dX1_isFull_4 (by decide) ?_
  refine lv_icmp_lt (tgt := 13) hx hb dX1_isFull_6 (by decide) (fun c1 => ?_) (fun c1 => ?_)
  · refine lv_iconst (v := 0) hx hb dX1_isFull_13 (by decide) ?_
    exact fin _ _ _ _ _ w (by simp [full, bI, c1]) dX1_isFull_14
  · refine lv_iconst (v := 1) hx hb dX1_isFull_9 (by decide) ?_
    refine lv_goto (tgt := 14) hx hb dX1_isFull_10 (by decide) ?_
    exact fin _ _ _ _ _ w (by simp [full, bI, c1]) dX1_isFull_14
theorem hdX1_number : yX1_number.cls = RX1 ∧ yX1_number.cls ≠ "java/lang/invoke/MethodHandle" ∧ yX1_number.cls ≠ "java/lang/invoke/VarHandle" ∧ (parseMethodDescriptor yX1_number.desc).map (fun d => d.parameters.length) = some 2 := ⟨rfl, by decide, by decide, by decide +kernel⟩
theorem iX1_number_X1 : ∀ w ∈ wsX10, w ∈ wsX1_number := fun _ h => List.mem_cons_of_mem _ (List.mem_append_right _ h)
set_option maxHeartbeats 4000000 in
set_option maxRecDepth 100000 in
theorem met_X1_number (l : Launch) (D : va_G) (cI cJ cO : ClassId) (pa : Nat) (ra : Nat) (z : Nat → Int32) (i : Nat) (wh : Nat) (n : Nat) (hn : z 10 = nI n) (hn4 : n ≤ 40) (hi : i < n) (hw : wh < 5) : CI l D (TY cI cJ cO) yX1_number wsX1_number ({ frames := 0, cells := 0, slots := 0, locals := 0 }) [.ref pa, .int (nI i), .int (nI wh)] [oP pa ra z, aI cI ra 200 25 z] (z (25 + (i * 5 + wh))) [oP pa ra z, aI cI ra 200 25 z] := by
  refine CI.of (plainFor_of_name (by decide)) rfl (Nat.le_of_ble_eq_true rfl) (rfl) (fun p e s m below meth c A ls Q X hA w hl fin => ?_)
  obtain ⟨hx, hb, hml, hown, hts⟩ := id X.1
  have hl : lv_has ls 3 [(0, .ref pa), (1, .int (nI i)), (2, .int (nI wh))] := hl
  refine lv_iload_n hx hb dX1_number_0 rfl (lv_at hl 1 rfl) ?_
  refine lv_if_lt (tgt := 21) hx hb dX1_number_1 (by decide) (fun c1 => absurd c1 (nI_pos (by omega))) (fun c1 => ?_)
  refine lv_iload_n hx hb dX1_number_4 rfl (lv_at hl 1 rfl) ?_
  refine lv_aload_n hx hb dX1_number_5 rfl (lv_at hl 0 rfl) ?_
  refine k_get X w 0 rfl rfl 1 (by decide) rfl iX1_number_X1 (List.mem_of_getElem? (i := 1) rfl) (v := .int (nI n)) (congrArg (fun t => some (Value.int t)) hn) dX1_number_6 ?_
  refine lv_icmp_ge (tgt := 21) hx hb dX1_number_9 (by decide) (fun c2 => absurd c2 (nI_ge hi (by omega))) (fun c2 => ?_)
  refine lv_iload_n hx hb dX1_number_12 rfl (lv_at hl 2 rfl) ?_
  refine lv_if_lt (tgt := 21) hx hb dX1_number_13 (by decide) (fun c3 => absurd c3 (nI_pos (by omega))) (fun c3 => ?_)
  refine lv_iload_n hx hb dX1_number_16 rfl (lv_at hl 2 rfl) ?_
  refine lv_iconst (v := 5) hx hb dX1_number_17 (by decide) ?_
  refine lv_icmp_lt (tgt := 23) hx hb dX1_number_18 (by decide) (fun c4 => ?_) (fun c4 => absurd (nI_lt hw (by decide)) c4)
  refine lv_aload_n hx hb dX1_number_23 rfl (lv_at hl 0 rfl) ?_
  refine k_get X w 0 rfl rfl 0 (by decide) rfl iX1_number_X1 (List.mem_of_getElem? (i := 2) rfl) (v := .ref ra) rfl dX1_number_24 ?_
  refine lv_iload_n hx hb dX1_number_27 rfl (lv_at hl 1 rfl) ?_
  refine lv_iconst (v := 5) hx hb dX1_number_28 (by decide) ?_
  refine lv_imul hx hb dX1_number_29 ?_
  refine lv_iload_n hx hb dX1_number_30 rfl (lv_at hl 2 rfl) ?_
  refine lv_iadd hx hb dX1_number_31 ?_
  refine k_iald X w 1 0 rfl rfl (i * 5 + wh) (kj := 25 + (i * 5 + wh)) rfl (by omega) (by decide) (nI_addp (nI_mulp rfl rfl) rfl) (v := z (25 + (i * 5 + wh))) rfl dX1_number_32 ?_
  exact fin _ _ _ _ _ w rfl dX1_number_33
theorem hdX1_latestIn : yX1_latestIn.cls = RX1 ∧ yX1_latestIn.cls ≠ "java/lang/invoke/MethodHandle" ∧ yX1_latestIn.cls ≠ "java/lang/invoke/VarHandle" ∧ (parseMethodDescriptor yX1_latestIn.desc).map (fun d => d.parameters.length) = some 1 := ⟨rfl, by decide, by decide, by decide +kernel⟩
theorem iX1_latestIn_X1 : ∀ w ∈ wsX10, w ∈ wsX1_latestIn := fun _ h => List.mem_cons_of_mem _ (List.mem_append_right _ h)
set_option maxHeartbeats 4000000 in
set_option maxRecDepth 100000 in
theorem met_X1_latestIn (l : Launch) (D : va_G) (cI cJ cO : ClassId) (pa : Nat) (ra : Nat) (z : Nat → Int32) (x : Int32) (len : Nat) (hn : z 10 = nI len) (hn4 : len ≤ 40) : CI l D (TY cI cJ cO) yX1_latestIn wsX1_latestIn ({ frames := 1, cells := 0, slots := 0, locals := 22 }) [.ref pa, .int x] [oP pa ra z, aI cI ra 200 25 z] (lat z x len) [oP pa ra z, aI cI ra 200 25 z] := by
  refine CI.of (plainFor_of_name (by decide)) rfl (Nat.le_of_ble_eq_true rfl) (rfl) (fun p e s m below meth c A ls Q X hA w hl fin => ?_)
  obtain ⟨hx, hb, hml, hown, hts⟩ := id X.1
  have hl : lv_has ls 3 [(0, .ref pa), (1, .int x)] := hl
  refine lv_aload_n hx hb dX1_latestIn_0 rfl (lv_at hl 0 rfl) ?_
  refine k_get X w 0 rfl rfl 1 (by decide) rfl iX1_latestIn_X1 (List.mem_of_getElem? (i := 1) rfl) (v := .int (nI len)) (congrArg (fun t => some (Value.int t)) hn) dX1_latestIn_1 ?_
  refine lv_iconst (v := 1) hx hb dX1_latestIn_4 (by decide) ?_
  refine lv_isub hx hb dX1_latestIn_5 ?_
  refine lv_istore_n (lv' := [(2, .int ((nI len) - 1)), (0, .ref pa), (1, .int x)]) hx hb dX1_latestIn_6 rfl hl (by decide) rfl (fun ls hl => ?_)
  have lp7 : ∀ (n : Nat), n ≤ len → lat z x n = lat z x len → ∀ (H : Heap) (locs : List Loc) (ls : Array Slot), wd D A s.heap H locs ([oP pa ra z, aI cI ra 200 25 z]) → lv_has ls 3 [(2, .int (nI n - 1)), (0, .ref pa), (1, .int x)] → W p l e ({ frames := 1, cells := 0, slots := 0, locals := 22 }) s m [.ref pa, .int x].toArray below meth c H locs 0 0 Q (F0 m 7 ls []) := by
    intro n
    induction n with
    | zero =>
      intro hi he H locs ls w hl
      refine lv_iload_n hx hb dX1_latestIn_7 rfl (lv_at hl 0 rfl) ?_
      refine lv_if_lt (tgt := 29) hx hb dX1_latestIn_8 (by decide) (fun c1 => ?_) (fun c1 => absurd (by decide) c1)
      refine lv_iconst (v := (-1)) hx hb dX1_latestIn_29 (by decide) ?_
      exact fin _ _ _ _ _ w (by exact he) dX1_latestIn_30
    | succ n ih =>
      intro hi he H locs ls w hl
      rw [nI_pred] at hl
      refine lv_iload_n hx hb dX1_latestIn_7 rfl (lv_at hl 0 rfl) ?_
      refine lv_if_lt (tgt := 29) hx hb dX1_latestIn_8 (by decide) (fun c2 => absurd c2 (nI_pos (by omega))) (fun c2 => ?_)
      refine lv_aload_n hx hb dX1_latestIn_11 rfl (lv_at hl 1 rfl) ?_
      refine lv_iload_n hx hb dX1_latestIn_12 rfl (lv_at hl 0 rfl) ?_
      refine lv_iconst (v := 1) hx hb dX1_latestIn_13 (by decide) ?_
      refine k_ciR (k_runV X w (met_X1_number l D cI cJ cO pa ra z n 1 len hn hn4 (by omega) (by decide) H.size) gX1_latestIn_X1_number rfl rfl rfl 2 hdX1_number ⟨Nat.le_of_ble_eq_true rfl, Nat.le_of_ble_eq_true rfl⟩ [0, 1] rfl rfl 0 1 rfl rfl rfl rfl hl.1 rfl (Nat.le_of_ble_eq_true rfl) dX1_latestIn_14 ⟨Nat.le_of_ble_eq_true rfl, Nat.le_of_ble_eq_true rfl⟩) w hA [0, 1] rfl (fun H locs w => ?_)
      refine lv_iload_n hx hb dX1_latestIn_17 rfl (lv_at hl 2 rfl) ?_
      refine lv_icmp_ne (tgt := 23) hx hb dX1_latestIn_18 (by decide) (fun c3 => ?_) (fun c3 => ?_)
      · refine lv_iinc (v := nI n - 1) (lv' := [(2, .int (nI n - 1)), (0, .ref pa), (1, .int x)]) hx hb dX1_latestIn_23 hl (k := 0) rfl (dec1 _) (by decide) rfl (fun ls hl => ?_)
        refine lv_goto (tgt := 7) hx hb dX1_latestIn_26 (by decide) ?_
        exact ih  (by omega) ((lat_no c3).symm.trans he) _ _ _ w (lv_sub hl [0, 1, 2] rfl)
      · refine lv_iload_n hx hb dX1_latestIn_21 rfl (lv_at hl 0 rfl) ?_
        exact fin _ _ _ _ _ w (by rw [← he, lat_yes c3]) dX1_latestIn_22
  exact lp7 len  (Nat.le_refl _) rfl _ _ _ w (lv_sub hl [0, 1, 2] rfl)
theorem hdX1_readingsIn : yX1_readingsIn.cls = RX1 ∧ yX1_readingsIn.cls ≠ "java/lang/invoke/MethodHandle" ∧ yX1_readingsIn.cls ≠ "java/lang/invoke/VarHandle" ∧ (parseMethodDescriptor yX1_readingsIn.desc).map (fun d => d.parameters.length) = some 1 := ⟨rfl, by decide, by decide, by decide +kernel⟩
theorem iX1_readingsIn_X1 : ∀ w ∈ wsX10, w ∈ wsX1_readingsIn := fun _ h => List.mem_cons_of_mem _ (List.mem_append_right _ h)
set_option maxHeartbeats 4000000 in
set_option maxRecDepth 100000 in
theorem met_X1_readingsIn (l : Launch) (D : va_G) (cI cJ cO : ClassId) (pa : Nat) (ra : Nat) (z : Nat → Int32) (x : Int32) (len : Nat) (hn : z 10 = nI len) (hn4 : len ≤ 40) : CI l D (TY cI cJ cO) yX1_readingsIn wsX1_readingsIn ({ frames := 1, cells := 0, slots := 0, locals := 22 }) [.ref pa, .int x] [oP pa ra z, aI cI ra 200 25 z] (cnt z x len) [oP pa ra z, aI cI ra 200 25 z] := by
  refine CI.of (plainFor_of_name (by decide)) rfl (Nat.le_of_ble_eq_true rfl) (rfl) (fun p e s m below meth c A ls Q X hA w hl fin => ?_)
  obtain ⟨hx, hb, hml, hown, hts⟩ := id X.1
  have hl : lv_has ls 4 [(0, .ref pa), (1, .int x)] := hl
  refine lv_iconst (v := 0) hx hb dX1_readingsIn_0 (by decide) ?_
  refine lv_istore_n (lv' := [(2, .int 0), (0, .ref pa), (1, .int x)]) hx hb dX1_readingsIn_1 rfl hl (by decide) rfl (fun ls hl => ?_)
  refine lv_iconst (v := 0) hx hb dX1_readingsIn_2 (by decide) ?_
  refine lv_istore_n (lv' := [(3, .int 0), (2, .int 0), (0, .ref pa), (1, .int x)]) hx hb dX1_readingsIn_3 rfl hl (by decide) rfl (fun ls hl => ?_)
  have lp4 : ∀ (n : Nat) (i : Nat) (f : Int32), i + n = len → f = cnt z x i → ∀ (H : Heap) (locs : List Loc) (ls : Array Slot), wd D A s.heap H locs ([oP pa ra z, aI cI ra 200 25 z]) → lv_has ls 4 [(3, .int (nI i)), (2, .int f), (0, .ref pa), (1, .int x)] → W p l e ({ frames := 1, cells := 0, slots := 0, locals := 22 }) s m [.ref pa, .int x].toArray below meth c H locs 0 0 Q (F0 m 4 ls []) := by
    intro n
    induction n with
    | zero =>
      intro i f hi hf H locs ls w hl
      refine lv_iload_n hx hb dX1_readingsIn_4 rfl (lv_at hl 0 rfl) ?_
      refine lv_aload_n hx hb dX1_readingsIn_5 rfl (lv_at hl 2 rfl) ?_
      refine k_get X w 0 rfl rfl 1 (by decide) rfl iX1_readingsIn_X1 (List.mem_of_getElem? (i := 1) rfl) (v := .int (nI len)) (congrArg (fun t => some (Value.int t)) hn) dX1_readingsIn_6 ?_
      refine lv_icmp_ge (tgt := 31) hx hb dX1_readingsIn_9 (by decide) (fun c1 => ?_) (fun c1 => absurd (nI_le (by omega) (by omega)) c1)
      refine lv_iload_n hx hb dX1_readingsIn_31 rfl (lv_at hl 1 rfl) ?_
      exact fin _ _ _ _ _ w (by rw [hf, show i = len by omega]) dX1_readingsIn_32
    | succ n ih =>
      intro i f hi hf H locs ls w hl
      refine lv_iload_n hx hb dX1_readingsIn_4 rfl (lv_at hl 0 rfl) ?_
      refine lv_aload_n hx hb dX1_readingsIn_5 rfl (lv_at hl 2 rfl) ?_
      refine k_get X w 0 rfl rfl 1 (by decide) rfl iX1_readingsIn_X1 (List.mem_of_getElem? (i := 1) rfl) (v := .int (nI len)) (congrArg (fun t => some (Value.int t)) hn) dX1_readingsIn_6 ?_
      refine lv_icmp_ge (tgt := 31) hx hb dX1_readingsIn_9 (by decide) (fun c2 => absurd c2 (nI_ge (by omega) (by omega))) (fun c2 => ?_)
      refine lv_aload_n hx hb dX1_readingsIn_12 rfl (lv_at hl 2 rfl) ?_
      refine lv_iload_n hx hb dX1_readingsIn_13 rfl (lv_at hl 0 rfl) ?_
      refine lv_iconst (v := 1) hx hb dX1_readingsIn_14 (by decide) ?_
      refine k_ciR (k_runV X w (met_X1_number l D cI cJ cO pa ra z i 1 len hn hn4 (by omega) (by decide) H.size) gX1_readingsIn_X1_number rfl rfl rfl 2 hdX1_number ⟨Nat.le_of_ble_eq_true rfl, Nat.le_of_ble_eq_true rfl⟩ [0, 1] rfl rfl 0 1 rfl rfl rfl rfl hl.1 rfl (Nat.le_of_ble_eq_true rfl) dX1_readingsIn_15 ⟨Nat.le_of_ble_eq_true rfl, Nat.le_of_ble_eq_true rfl⟩) w hA [0, 1] rfl (fun H locs w => ?_)
      refine lv_iload_n hx hb dX1_readingsIn_18 rfl (lv_at hl 3 rfl) ?_
      refine lv_icmp_ne (tgt := 25) hx hb dX1_readingsIn_19 (by decide) (fun c3 => ?_) (fun c3 => ?_)
      · refine lv_iinc (v := nI (i + 1)) (lv' := [(3, .int (nI (i + 1))), (2, .int f), (0, .ref pa), (1, .int x)]) hx hb dX1_readingsIn_25 hl (k := 0) rfl (nI_1 _) (by decide) rfl (fun ls hl => ?_)
        refine lv_goto (tgt := 4) hx hb dX1_readingsIn_28 (by decide) ?_
        exact ih (i + 1) f (by omega) (by rw [cnt, if_neg c3, hf]) _ _ _ w (lv_sub hl [0, 1, 2, 3] rfl)
      · refine lv_iinc (v := f + 1) (lv' := [(2, .int (f + 1)), (3, .int (nI i)), (0, .ref pa), (1, .int x)]) hx hb dX1_readingsIn_22 hl (k := 1) rfl (congrArg (fun t => f + t) (by decide)) (by decide) rfl (fun ls hl => ?_)
        refine lv_iinc (v := nI (i + 1)) (lv' := [(3, .int (nI (i + 1))), (2, .int (f + 1)), (0, .ref pa), (1, .int x)]) hx hb dX1_readingsIn_25 hl (k := 1) rfl (nI_1 _) (by decide) rfl (fun ls hl => ?_)
        refine lv_goto (tgt := 4) hx hb dX1_readingsIn_28 (by decide) ?_
        exact ih (i + 1) (f + 1) (by omega) (by rw [cnt, if_pos c3, hf]) _ _ _ w (lv_sub hl [0, 1, 2, 3] rfl)
  exact lp4 len 0 0 (Nat.zero_add _) rfl _ _ _ w (lv_sub hl [0, 1, 2, 3] rfl)
theorem hdX1_print : yX1_print.cls = RX1 ∧ yX1_print.cls ≠ "java/lang/invoke/MethodHandle" ∧ yX1_print.cls ≠ "java/lang/invoke/VarHandle" ∧ (parseMethodDescriptor yX1_print.desc).map (fun d => d.parameters.length) = some 1 := ⟨rfl, by decide, by decide, by decide +kernel⟩
theorem iX1_print_X1 : ∀ w ∈ wsX10, w ∈ wsX1_print := fun _ h => List.mem_cons_of_mem _ (List.mem_append_left _ (List.mem_append_right _ h))
theorem iX1_print_X4 : ∀ w ∈ wsX40, w ∈ wsX1_print := fun _ h => List.mem_cons_of_mem _ (List.mem_append_right _ h)
set_option maxHeartbeats 4000000 in
set_option maxRecDepth 100000 in
theorem met_X1_print (l : Launch) (D : va_G) (cI cJ cO : ClassId) (pa : Nat) (ra : Nat) (z : Nat → Int32) (a : Nat) (wa : Nat) (n : Nat) (k : Nat) (hz : z 6 = nI k) (hk : k < 6) (hn : z 10 = nI n) (hn4 : n < 40) : CV l D (TY cI cJ cO) yX1_print wsX1_print ({ frames := 3, cells := 0, slots := 0, locals := 66 }) [.ref pa, .ref a] [oP pa ra z, aI cI ra 200 25 z, oW a wa z, aI cI wa 6 19 z] [oP pa ra (printF z n k), aI cI ra 200 25 (printF z n k), oW a wa (printF z n k), aI cI wa 6 19 (printF z n k)] := by
  refine CV.of (plainFor_of_name (by decide)) rfl (Nat.le_of_ble_eq_true rfl) (fun p e s m below meth c A ls Q X hA w hl fin => ?_)
  obtain ⟨hx, hb, hml, hown, hts⟩ := id X.1
  have hl : lv_has ls 3 [(0, .ref pa), (1, .ref a)] := hl
  refine lv_aload_n hx hb dX1_print_0 rfl (lv_at hl 0 rfl) ?_
  refine k_ciR (k_runV X w (met_X1_isFull l D cI cJ cO pa ra z  s.heap.size) gX1_print_X1_isFull rfl rfl rfl 0 hdX1_isFull ⟨Nat.le_of_ble_eq_true rfl, Nat.le_of_ble_eq_true rfl⟩ [0, 1] rfl rfl 0 1 rfl rfl rfl rfl hl.1 rfl (Nat.le_of_ble_eq_true rfl) dX1_print_1 ⟨Nat.le_of_ble_eq_true rfl, Nat.le_of_ble_eq_true rfl⟩) w hA [0, 1] rfl (fun H locs w => ?_)
  refine lv_if_eq (tgt := 8) hx hb dX1_print_4 (by decide) (fun c1 => ?_) (fun c1 => absurd (full_0 hn hn4) c1)
  refine lv_aload_n hx hb dX1_print_8 rfl (lv_at hl 0 rfl) ?_
  refine k_get X w 0 rfl rfl 1 (by decide) rfl iX1_print_X1 (List.mem_of_getElem? (i := 1) rfl) (v := .int (nI n)) (congrArg (fun t => some (Value.int t)) hn) dX1_print_9 ?_
  refine lv_iconst (v := 5) hx hb dX1_print_12 (by decide) ?_
  refine lv_imul hx hb dX1_print_13 ?_
  refine lv_istore_n (lv' := [(2, .int ((nI n) * 5)), (0, .ref pa), (1, .ref a)]) hx hb dX1_print_14 rfl hl (by decide) rfl (fun ls hl => ?_)
  refine lv_aload_n hx hb dX1_print_15 rfl (lv_at hl 1 rfl) ?_
  refine k_get X w 0 rfl rfl 0 (by decide) rfl iX1_print_X1 (List.mem_of_getElem? (i := 2) rfl) (v := .ref ra) rfl dX1_print_16 ?_
  refine lv_iload_n hx hb dX1_print_19 rfl (lv_at hl 0 rfl) ?_
  refine lv_iconst (v := 0) hx hb dX1_print_20 (by decide) ?_
  refine lv_iadd hx hb dX1_print_21 ?_
  refine lv_aload_n hx hb dX1_print_22 rfl (lv_at hl 2 rfl) ?_
  refine k_get X w 2 rfl rfl 7 (by decide) rfl iX1_print_X4 (List.mem_of_getElem? (i := 3) rfl) (v := .int (z 0)) rfl dX1_print_23 ?_
  refine k_iast X w 1 0 rfl rfl (n * 5 + 0) (kj := 25 + (n * 5 + 0)) rfl (by omega) (by decide) (nI_addp (nI_mulp rfl rfl) rfl) (ws2 := [oP pa ra z, aI cI ra 200 25 (upd z (25 + (n * 5 + 0)) (z 0)), oW a wa z, aI cI wa 6 19 z]) rfl dX1_print_26 (fun H locs w => ?_)
  refine lv_aload_n hx hb dX1_print_27 rfl (lv_at hl 1 rfl) ?_
  refine k_get X w 0 rfl rfl 0 (by decide) rfl iX1_print_X1 (List.mem_of_getElem? (i := 2) rfl) (v := .ref ra) rfl dX1_print_28 ?_
  refine lv_iload_n hx hb dX1_print_31 rfl (lv_at hl 0 rfl) ?_
  refine lv_iconst (v := 1) hx hb dX1_print_32 (by decide) ?_
  refine lv_iadd hx hb dX1_print_33 ?_
  refine lv_aload_n hx hb dX1_print_34 rfl (lv_at hl 2 rfl) ?_
  refine k_get X w 2 rfl rfl 6 (by decide) rfl iX1_print_X4 (List.mem_of_getElem? (i := 4) rfl) (v := .int (nI k)) (congrArg (fun t => some (Value.int t)) hz) dX1_print_35 ?_
  refine k_iast X w 1 0 rfl rfl (n * 5 + 1) (kj := 25 + (n * 5 + 1)) rfl (by omega) (by decide) (nI_addp (nI_mulp rfl rfl) rfl) (ws2 := [oP pa ra z, aI cI ra 200 25 (upd (upd z (25 + (n * 5 + 0)) (z 0)) (25 + (n * 5 + 1)) (nI k)), oW a wa z, aI cI wa 6 19 z]) rfl dX1_print_38 (fun H locs w => ?_)
  refine lv_aload_n hx hb dX1_print_39 rfl (lv_at hl 1 rfl) ?_
  refine k_get X w 0 rfl rfl 0 (by decide) rfl iX1_print_X1 (List.mem_of_getElem? (i := 2) rfl) (v := .ref ra) rfl dX1_print_40 ?_
  refine lv_iload_n hx hb dX1_print_43 rfl (lv_at hl 0 rfl) ?_
  refine lv_iconst (v := 2) hx hb dX1_print_44 (by decide) ?_
  refine lv_iadd hx hb dX1_print_45 ?_
  refine lv_aload_n hx hb dX1_print_46 rfl (lv_at hl 2 rfl) ?_
  refine lv_aload_n hx hb dX1_print_47 rfl (lv_at hl 2 rfl) ?_
  refine k_get X w 2 rfl rfl 6 (by decide) rfl iX1_print_X4 (List.mem_of_getElem? (i := 4) rfl) (v := .int (nI k)) (congrArg (fun t => some (Value.int t)) hz) dX1_print_48 ?_
  refine k_ciR (k_runV X w (met_X4_rateIn l D cI cJ cO a wa z k (by first | assumption | omega) H.size) gX1_print_X4_rateIn rfl rfl rfl 1 hdX4_rateIn ⟨Nat.le_of_ble_eq_true rfl, Nat.le_of_ble_eq_true rfl⟩ [2, 3] rfl rfl 2 4 rfl rfl rfl rfl hl.1 rfl (Nat.le_of_ble_eq_true rfl) dX1_print_51 ⟨Nat.le_of_ble_eq_true rfl, Nat.le_of_ble_eq_true rfl⟩) w hA [2, 3] rfl (fun H locs w => ?_)
  refine k_iast X w 1 0 rfl rfl (n * 5 + 2) (kj := 25 + (n * 5 + 2)) rfl (by omega) (by decide) (nI_addp (nI_mulp rfl rfl) rfl) (ws2 := [oP pa ra z, aI cI ra 200 25 (upd (upd (upd z (25 + (n * 5 + 0)) (z 0)) (25 + (n * 5 + 1)) (nI k)) (25 + (n * 5 + 2)) (rate z k)), oW a wa z, aI cI wa 6 19 z]) rfl dX1_print_54 (fun H locs w => ?_)
  refine lv_aload_n hx hb dX1_print_55 rfl (lv_at hl 1 rfl) ?_
  refine k_get X w 0 rfl rfl 0 (by decide) rfl iX1_print_X1 (List.mem_of_getElem? (i := 2) rfl) (v := .ref ra) rfl dX1_print_56 ?_
  refine lv_iload_n hx hb dX1_print_59 rfl (lv_at hl 0 rfl) ?_
  refine lv_iconst (v := 3) hx hb dX1_print_60 (by decide) ?_
  refine lv_iadd hx hb dX1_print_61 ?_
  refine lv_aload_n hx hb dX1_print_62 rfl (lv_at hl 2 rfl) ?_
  refine lv_aload_n hx hb dX1_print_63 rfl (lv_at hl 2 rfl) ?_
  refine k_get X w 2 rfl rfl 6 (by decide) rfl iX1_print_X4 (List.mem_of_getElem? (i := 4) rfl) (v := .int (nI k)) (congrArg (fun t => some (Value.int t)) hz) dX1_print_64 ?_
  refine k_ciR (k_runV X w (met_X4_beatErrorIn l D cI cJ cO a wa z (nI k)  H.size) gX1_print_X4_beatErrorIn rfl rfl rfl 1 hdX4_beatErrorIn ⟨Nat.le_of_ble_eq_true rfl, Nat.le_of_ble_eq_true rfl⟩ [2, 3] rfl rfl 2 4 rfl rfl rfl rfl hl.1 rfl (Nat.le_of_ble_eq_true rfl) dX1_print_67 ⟨Nat.le_of_ble_eq_true rfl, Nat.le_of_ble_eq_true rfl⟩) w hA [2, 3] rfl (fun H locs w => ?_)
  refine k_iast X w 1 0 rfl rfl (n * 5 + 3) (kj := 25 + (n * 5 + 3)) rfl (by omega) (by decide) (nI_addp (nI_mulp rfl rfl) rfl) (ws2 := [oP pa ra z, aI cI ra 200 25 (upd (upd (upd (upd z (25 + (n * 5 + 0)) (z 0)) (25 + (n * 5 + 1)) (nI k)) (25 + (n * 5 + 2)) (rate z k)) (25 + (n * 5 + 3)) (beat z (nI k))), oW a wa z, aI cI wa 6 19 z]) rfl dX1_print_70 (fun H locs w => ?_)
  refine lv_aload_n hx hb dX1_print_71 rfl (lv_at hl 1 rfl) ?_
  refine k_get X w 0 rfl rfl 0 (by decide) rfl iX1_print_X1 (List.mem_of_getElem? (i := 2) rfl) (v := .ref ra) rfl dX1_print_72 ?_
  refine lv_iload_n hx hb dX1_print_75 rfl (lv_at hl 0 rfl) ?_
  refine lv_iconst (v := 4) hx hb dX1_print_76 (by decide) ?_
  refine lv_iadd hx hb dX1_print_77 ?_
  refine lv_aload_n hx hb dX1_print_78 rfl (lv_at hl 2 rfl) ?_
  refine lv_aload_n hx hb dX1_print_79 rfl (lv_at hl 2 rfl) ?_
  refine k_get X w 2 rfl rfl 6 (by decide) rfl iX1_print_X4 (List.mem_of_getElem? (i := 4) rfl) (v := .int (nI k)) (congrArg (fun t => some (Value.int t)) hz) dX1_print_80 ?_
  refine k_ciR (k_runV X w (met_X4_swingIn l D cI cJ cO a wa z (nI k)  H.size) gX1_print_X4_swingIn rfl rfl rfl 1 hdX4_swingIn ⟨Nat.le_of_ble_eq_true rfl, Nat.le_of_ble_eq_true rfl⟩ [2, 3] rfl rfl 2 4 rfl rfl rfl rfl hl.1 rfl (Nat.le_of_ble_eq_true rfl) dX1_print_83 ⟨Nat.le_of_ble_eq_true rfl, Nat.le_of_ble_eq_true rfl⟩) w hA [2, 3] rfl (fun H locs w => ?_)
  refine k_iast X w 1 0 rfl rfl (n * 5 + 4) (kj := 25 + (n * 5 + 4)) rfl (by omega) (by decide) (nI_addp (nI_mulp rfl rfl) rfl) (ws2 := [oP pa ra z, aI cI ra 200 25 (upd (upd (upd (upd (upd z (25 + (n * 5 + 0)) (z 0)) (25 + (n * 5 + 1)) (nI k)) (25 + (n * 5 + 2)) (rate z k)) (25 + (n * 5 + 3)) (beat z (nI k))) (25 + (n * 5 + 4)) (swing z (nI k))), oW a wa z, aI cI wa 6 19 z]) rfl dX1_print_86 (fun H locs w => ?_)
  refine lv_aload_n hx hb dX1_print_87 rfl (lv_at hl 1 rfl) ?_
  refine lv_dup hx hb dX1_print_88 rfl ?_
  refine k_get X w 0 rfl rfl 1 (by decide) rfl iX1_print_X1 (List.mem_of_getElem? (i := 1) rfl) (v := .int (nI n)) (congrArg (fun t => some (Value.int t)) hn) dX1_print_89 ?_
  refine lv_iconst (v := 1) hx hb dX1_print_92 (by decide) ?_
  refine lv_iadd hx hb dX1_print_93 ?_
  have w := w.to (show [oP pa ra z, aI cI ra 200 25 (upd (upd (upd (upd (upd z (25 + (n * 5 + 0)) (z 0)) (25 + (n * 5 + 1)) (nI k)) (25 + (n * 5 + 2)) (rate z k)) (25 + (n * 5 + 3)) (beat z (nI k))) (25 + (n * 5 + 4)) (swing z (nI k))), oW a wa z, aI cI wa 6 19 z] = [oP pa ra (upd (upd (upd (upd (upd z (25 + (n * 5 + 0)) (z 0)) (25 + (n * 5 + 1)) (nI k)) (25 + (n * 5 + 2)) (rate z k)) (25 + (n * 5 + 3)) (beat z (nI k))) (25 + (n * 5 + 4)) (swing z (nI k))), aI cI ra 200 25 (upd (upd (upd (upd (upd z (25 + (n * 5 + 0)) (z 0)) (25 + (n * 5 + 1)) (nI k)) (25 + (n * 5 + 2)) (rate z k)) (25 + (n * 5 + 3)) (beat z (nI k))) (25 + (n * 5 + 4)) (swing z (nI k))), oW a wa z, aI cI wa 6 19 z] by rw [show oP pa ra z = oP pa ra (upd (upd (upd (upd (upd z (25 + (n * 5 + 0)) (z 0)) (25 + (n * 5 + 1)) (nI k)) (25 + (n * 5 + 2)) (rate z k)) (25 + (n * 5 + 3)) (beat z (nI k))) (25 + (n * 5 + 4)) (swing z (nI k))) from oP_c (fun k h1 h2 => (((upd_no (by omega)).trans ((upd_no (by omega)).trans ((upd_no (by omega)).trans ((upd_no (by omega)).trans ((upd_no (by omega)).trans rfl)))))).symm)])
  refine k_put X w 0 rfl rfl 1 (by decide) rfl iX1_print_X1 (List.mem_of_getElem? (i := 1) rfl) tyX1_ok nmX1 rfl rfl (Nat.le_of_ble_eq_true rfl) (ws2 := [oP pa ra (upd (upd (upd (upd (upd (upd z (25 + (n * 5 + 0)) (z 0)) (25 + (n * 5 + 1)) (nI k)) (25 + (n * 5 + 2)) (rate z k)) (25 + (n * 5 + 3)) (beat z (nI k))) (25 + (n * 5 + 4)) (swing z (nI k))) 10 ((nI n) + 1)), aI cI ra 200 25 (upd (upd (upd (upd (upd z (25 + (n * 5 + 0)) (z 0)) (25 + (n * 5 + 1)) (nI k)) (25 + (n * 5 + 2)) (rate z k)) (25 + (n * 5 + 3)) (beat z (nI k))) (25 + (n * 5 + 4)) (swing z (nI k))), oW a wa z, aI cI wa 6 19 z]) rfl dX1_print_94 (fun H locs w => ?_)
  have w := w.to (show [oP pa ra (upd (upd (upd (upd (upd (upd z (25 + (n * 5 + 0)) (z 0)) (25 + (n * 5 + 1)) (nI k)) (25 + (n * 5 + 2)) (rate z k)) (25 + (n * 5 + 3)) (beat z (nI k))) (25 + (n * 5 + 4)) (swing z (nI k))) 10 ((nI n) + 1)), aI cI ra 200 25 (upd (upd (upd (upd (upd z (25 + (n * 5 + 0)) (z 0)) (25 + (n * 5 + 1)) (nI k)) (25 + (n * 5 + 2)) (rate z k)) (25 + (n * 5 + 3)) (beat z (nI k))) (25 + (n * 5 + 4)) (swing z (nI k))), oW a wa z, aI cI wa 6 19 z] = [oP pa ra (upd (upd (upd (upd (upd (upd z (25 + (n * 5 + 0)) (z 0)) (25 + (n * 5 + 1)) (nI k)) (25 + (n * 5 + 2)) (rate z k)) (25 + (n * 5 + 3)) (beat z (nI k))) (25 + (n * 5 + 4)) (swing z (nI k))) 10 ((nI n) + 1)), aI cI ra 200 25 (upd (upd (upd (upd (upd (upd z (25 + (n * 5 + 0)) (z 0)) (25 + (n * 5 + 1)) (nI k)) (25 + (n * 5 + 2)) (rate z k)) (25 + (n * 5 + 3)) (beat z (nI k))) (25 + (n * 5 + 4)) (swing z (nI k))) 10 ((nI n) + 1)), oW a wa (upd (upd (upd (upd (upd (upd z (25 + (n * 5 + 0)) (z 0)) (25 + (n * 5 + 1)) (nI k)) (25 + (n * 5 + 2)) (rate z k)) (25 + (n * 5 + 3)) (beat z (nI k))) (25 + (n * 5 + 4)) (swing z (nI k))) 10 ((nI n) + 1)), aI cI wa 6 19 (upd (upd (upd (upd (upd (upd z (25 + (n * 5 + 0)) (z 0)) (25 + (n * 5 + 1)) (nI k)) (25 + (n * 5 + 2)) (rate z k)) (25 + (n * 5 + 3)) (beat z (nI k))) (25 + (n * 5 + 4)) (swing z (nI k))) 10 ((nI n) + 1))] by rw [show aI cI ra 200 25 (upd (upd (upd (upd (upd z (25 + (n * 5 + 0)) (z 0)) (25 + (n * 5 + 1)) (nI k)) (25 + (n * 5 + 2)) (rate z k)) (25 + (n * 5 + 3)) (beat z (nI k))) (25 + (n * 5 + 4)) (swing z (nI k))) = aI cI ra 200 25 (upd (upd (upd (upd (upd (upd z (25 + (n * 5 + 0)) (z 0)) (25 + (n * 5 + 1)) (nI k)) (25 + (n * 5 + 2)) (rate z k)) (25 + (n * 5 + 3)) (beat z (nI k))) (25 + (n * 5 + 4)) (swing z (nI k))) 10 ((nI n) + 1)) from aI_c (fun k h1 h2 => (((upd_no (by omega)).trans rfl)).symm), show oW a wa z = oW a wa (upd (upd (upd (upd (upd (upd z (25 + (n * 5 + 0)) (z 0)) (25 + (n * 5 + 1)) (nI k)) (25 + (n * 5 + 2)) (rate z k)) (25 + (n * 5 + 3)) (beat z (nI k))) (25 + (n * 5 + 4)) (swing z (nI k))) 10 ((nI n) + 1)) from oW_c (fun k h1 h2 => (((upd_no (by omega)).trans ((upd_no (by omega)).trans ((upd_no (by omega)).trans ((upd_no (by omega)).trans ((upd_no (by omega)).trans ((upd_no (by omega)).trans rfl))))))).symm), show aI cI wa 6 19 z = aI cI wa 6 19 (upd (upd (upd (upd (upd (upd z (25 + (n * 5 + 0)) (z 0)) (25 + (n * 5 + 1)) (nI k)) (25 + (n * 5 + 2)) (rate z k)) (25 + (n * 5 + 3)) (beat z (nI k))) (25 + (n * 5 + 4)) (swing z (nI k))) 10 ((nI n) + 1)) from aI_c (fun k h1 h2 => (((upd_no (by omega)).trans ((upd_no (by omega)).trans ((upd_no (by omega)).trans ((upd_no (by omega)).trans ((upd_no (by omega)).trans ((upd_no (by omega)).trans rfl))))))).symm)])
  have ez : upd (upd (upd (upd (upd (upd z (25 + (n * 5 + 0)) (z 0)) (25 + (n * 5 + 1)) (nI k)) (25 + (n * 5 + 2)) (rate z k)) (25 + (n * 5 + 3)) (beat z (nI k))) (25 + (n * 5 + 4)) (swing z (nI k))) 10 ((nI n) + 1) = printF z n k := by rfl
  rw [ez] at w
  exact fin _ _ _ _ w dX1_print_97
theorem hdX1_copyFrom : yX1_copyFrom.cls = RX1 ∧ yX1_copyFrom.cls ≠ "java/lang/invoke/MethodHandle" ∧ yX1_copyFrom.cls ≠ "java/lang/invoke/VarHandle" ∧ (parseMethodDescriptor yX1_copyFrom.desc).map (fun d => d.parameters.length) = some 1 := ⟨rfl, by decide, by decide, by decide +kernel⟩
theorem iX1_copyFrom_X1 : ∀ w ∈ wsX10, w ∈ wsX1_copyFrom := fun _ h => List.mem_cons_of_mem _ (List.mem_append_right _ h)
set_option maxHeartbeats 4000000 in
set_option maxRecDepth 100000 in
theorem met_X1_copyFrom (l : Launch) (D : va_G) (cI cJ cO : ClassId) (pa : Nat) (ra : Nat) (z : Nat → Int32) (pb : Nat) (rb : Nat) (v : Nat → Int32)  : CV l D (TY cI cJ cO) yX1_copyFrom wsX1_copyFrom ({ frames := 1, cells := 0, slots := 0, locals := 60 }) [.ref pa, .ref pb] [oP pa ra z, aI cI ra 200 25 z, oP pb rb v, aI cI rb 200 25 v] [oP pa ra v, aI cI ra 200 25 v, oP pb rb v, aI cI rb 200 25 v] := by
  refine CV.of (plainFor_of_name (by decide)) rfl (Nat.le_of_ble_eq_true rfl) (fun p e s m below meth c A ls Q X hA w hl fin => ?_)
  obtain ⟨hx, hb, hml, hown, hts⟩ := id X.1
  have hl : lv_has ls 2 [(0, .ref pa), (1, .ref pb)] := hl
  refine lv_aload_n hx hb dX1_copyFrom_0 rfl (lv_at hl 1 rfl) ?_
  refine k_get X w 2 rfl rfl 0 (by decide) rfl iX1_copyFrom_X1 (List.mem_of_getElem? (i := 1) rfl) (v := .ref rb) rfl dX1_copyFrom_1 ?_
  refine lv_iconst (v := 0) hx hb dX1_copyFrom_4 (by decide) ?_
  refine lv_aload_n hx hb dX1_copyFrom_5 rfl (lv_at hl 0 rfl) ?_
  refine k_get X w 0 rfl rfl 0 (by decide) rfl iX1_copyFrom_X1 (List.mem_of_getElem? (i := 1) rfl) (v := .ref ra) rfl dX1_copyFrom_6 ?_
  refine lv_iconst (v := 0) hx hb dX1_copyFrom_9 (by decide) ?_
  refine lv_aload_n hx hb dX1_copyFrom_10 rfl (lv_at hl 0 rfl) ?_
  refine k_get X w 0 rfl rfl 0 (by decide) rfl iX1_copyFrom_X1 (List.mem_of_getElem? (i := 1) rfl) (v := .ref ra) rfl dX1_copyFrom_11 ?_
  refine k_alen X w 1 0 rfl rfl (v := 200) rfl dX1_copyFrom_14 ?_
  refine k_copy X hl.1 (List.mem_of_getElem? (i := 2) rfl) (List.mem_of_getElem? (i := 3) rfl) (List.mem_of_getElem? (i := 4) rfl) (List.mem_of_getElem? (i := 5) rfl) w 3 1 0 rfl rfl rfl rfl (by decide) (Nat.le_of_ble_eq_true rfl) (Nat.le_of_ble_eq_true rfl) (ws2 := [oP pa ra z, aI cI ra 200 25 v, oP pb rb v, aI cI rb 200 25 v]) rfl dX1_copyFrom_15 (fun H locs w => ?_)
  refine lv_aload_n hx hb dX1_copyFrom_18 rfl (lv_at hl 0 rfl) ?_
  refine lv_aload_n hx hb dX1_copyFrom_19 rfl (lv_at hl 1 rfl) ?_
  refine k_get X w 2 rfl rfl 1 (by decide) rfl iX1_copyFrom_X1 (List.mem_of_getElem? (i := 6) rfl) (v := .int (v 10)) rfl dX1_copyFrom_20 ?_
  refine k_put X w 0 rfl rfl 1 (by decide) rfl iX1_copyFrom_X1 (List.mem_of_getElem? (i := 6) rfl) tyX1_ok nmX1 rfl rfl (Nat.le_of_ble_eq_true rfl) (ws2 := [oP pa ra (upd z 10 (v 10)), aI cI ra 200 25 v, oP pb rb v, aI cI rb 200 25 v]) rfl dX1_copyFrom_23 (fun H locs w => ?_)
  have w := w.to (show [oP pa ra (upd z 10 (v 10)), aI cI ra 200 25 v, oP pb rb v, aI cI rb 200 25 v] = [oP pa ra v, aI cI ra 200 25 v, oP pb rb v, aI cI rb 200 25 v] from rfl)
  exact fin _ _ _ _ w dX1_copyFrom_26
theorem hdX3_whyNoReading : yX3_whyNoReading.cls = RX3 ∧ yX3_whyNoReading.cls ≠ "java/lang/invoke/MethodHandle" ∧ yX3_whyNoReading.cls ≠ "java/lang/invoke/VarHandle" ∧ (parseMethodDescriptor yX3_whyNoReading.desc).map (fun d => d.parameters.length) = some 1 := ⟨rfl, by decide, by decide, by decide +kernel⟩
theorem iX3_whyNoReading_X3 : ∀ w ∈ wsX30, w ∈ wsX3_whyNoReading := fun _ h => List.mem_cons_of_mem _ (List.mem_append_left _ (List.mem_append_left _ (List.mem_append_right _ h)))
theorem iX3_whyNoReading_X4 : ∀ w ∈ wsX40, w ∈ wsX3_whyNoReading := fun _ h => List.mem_cons_of_mem _ (List.mem_append_left _ (List.mem_append_right _ h))
set_option maxHeartbeats 4000000 in
set_option maxRecDepth 100000 in
theorem met_X3_whyNoReading (l : Launch) (D : va_G) (cI cJ cO : ClassId) (a : Nat) (w1 : Nat) (wa : Nat) (pa : Nat) (ra : Nat) (sa : Nat) (z : Nat → Int32) (k : Nat) (hk : k < 6) : CI l D (TY cI cJ cO) yX3_whyNoReading wsX3_whyNoReading ({ frames := 2, cells := 0, slots := 0, locals := 43 }) [.ref a, .int (nI k)] [oS a w1 pa sa z, aI cI sa 4 12 z, oW w1 wa z, aI cI wa 6 19 z, oP pa ra z, aI cI ra 200 25 z] (why z k) [oS a w1 pa sa z, aI cI sa 4 12 z, oW w1 wa z, aI cI wa 6 19 z, oP pa ra z, aI cI ra 200 25 z] := by
  refine CI.of (plainFor_of_name (by decide)) rfl (Nat.le_of_ble_eq_true rfl) (rfl) (fun p e s m below meth c A ls Q X hA w hl fin => ?_)
  obtain ⟨hx, hb, hml, hown, hts⟩ := id X.1
  have hl : lv_has ls 2 [(0, .ref a), (1, .int (nI k))] := hl
  refine lv_aload_n hx hb dX3_whyNoReading_0 rfl (lv_at hl 0 rfl) ?_
  refine k_get X w 0 rfl rfl 0 (by decide) rfl iX3_whyNoReading_X3 (List.mem_of_getElem? (i := 1) rfl) (v := .ref w1) rfl dX3_whyNoReading_1 ?_
  refine k_get X w 2 rfl rfl 3 (by decide) rfl iX3_whyNoReading_X4 (List.mem_of_getElem? (i := 2) rfl) (v := .int (z 1)) rfl dX3_whyNoReading_4 ?_
  refine lv_if_gt (tgt := 12) hx hb dX3_whyNoReading_7 (by decide) (fun c1 => ?_) (fun c1 => ?_)
  · refine lv_aload_n hx hb dX3_whyNoReading_12 rfl (lv_at hl 0 rfl) ?_
    refine k_get X w 0 rfl rfl 0 (by decide) rfl iX3_whyNoReading_X3 (List.mem_of_getElem? (i := 1) rfl) (v := .ref w1) rfl dX3_whyNoReading_13 ?_
    refine lv_iload_n hx hb dX3_whyNoReading_16 rfl (lv_at hl 1 rfl) ?_
    refine k_ciR (k_runV X w (met_X4_swingIn l D cI cJ cO w1 wa z (nI k)  s.heap.size) gX3_whyNoReading_X4_swingIn rfl rfl rfl 1 hdX4_swingIn ⟨Nat.le_of_ble_eq_true rfl, Nat.le_of_ble_eq_true rfl⟩ [2, 3] rfl rfl 2 4 rfl rfl rfl rfl hl.1 rfl (Nat.le_of_ble_eq_true rfl) dX3_whyNoReading_17 ⟨Nat.le_of_ble_eq_true rfl, Nat.le_of_ble_eq_true rfl⟩) w hA [2, 3] rfl (fun H locs w => ?_)
    refine lv_bipush (v := 120) hx hb dX3_whyNoReading_20 (by decide) ?_
    refine lv_icmp_ge (tgt := 27) hx hb dX3_whyNoReading_22 (by decide) (fun c2 => ?_) (fun c2 => ?_)
    · refine lv_aload_n hx hb dX3_whyNoReading_27 rfl (lv_at hl 0 rfl) ?_
      refine k_get X w 0 rfl rfl 0 (by decide) rfl iX3_whyNoReading_X3 (List.mem_of_getElem? (i := 1) rfl) (v := .ref w1) rfl dX3_whyNoReading_28 ?_
      refine lv_iload_n hx hb dX3_whyNoReading_31 rfl (lv_at hl 1 rfl) ?_
      refine k_ciR (k_runV X w (met_X4_beatErrorIn l D cI cJ cO w1 wa z (nI k)  H.size) gX3_whyNoReading_X4_beatErrorIn rfl rfl rfl 1 hdX4_beatErrorIn ⟨Nat.le_of_ble_eq_true rfl, Nat.le_of_ble_eq_true rfl⟩ [2, 3] rfl rfl 2 4 rfl rfl rfl rfl hl.1 rfl (Nat.le_of_ble_eq_true rfl) dX3_whyNoReading_32 ⟨Nat.le_of_ble_eq_true rfl, Nat.le_of_ble_eq_true rfl⟩) w hA [2, 3] rfl (fun H locs w => ?_)
      refine lv_aload_n hx hb dX3_whyNoReading_35 rfl (lv_at hl 0 rfl) ?_
      refine k_get X w 0 rfl rfl 2 (by decide) rfl iX3_whyNoReading_X3 (List.mem_of_getElem? (i := 3) rfl) (v := .ref sa) rfl dX3_whyNoReading_36 ?_
      refine lv_iconst (v := 0) hx hb dX3_whyNoReading_39 (by decide) ?_
      refine k_iald X w 1 0 rfl rfl 0 (kj := 12) rfl (by decide) (by decide) rfl (v := z 12) rfl dX3_whyNoReading_40 ?_
      refine lv_icmp_le (tgt := 46) hx hb dX3_whyNoReading_41 (by decide) (fun c3 => ?_) (fun c3 => ?_)
      · refine lv_aload_n hx hb dX3_whyNoReading_46 rfl (lv_at hl 0 rfl) ?_
        refine k_get X w 0 rfl rfl 0 (by decide) rfl iX3_whyNoReading_X3 (List.mem_of_getElem? (i := 1) rfl) (v := .ref w1) rfl dX3_whyNoReading_47 ?_
        refine k_get X w 2 rfl rfl 4 (by decide) rfl iX3_whyNoReading_X4 (List.mem_of_getElem? (i := 4) rfl) (v := .int (z 4)) rfl dX3_whyNoReading_50 ?_
        refine lv_aload_n hx hb dX3_whyNoReading_53 rfl (lv_at hl 0 rfl) ?_
        refine k_get X w 0 rfl rfl 2 (by decide) rfl iX3_whyNoReading_X3 (List.mem_of_getElem? (i := 3) rfl) (v := .ref sa) rfl dX3_whyNoReading_54 ?_
        refine lv_iconst (v := 1) hx hb dX3_whyNoReading_57 (by decide) ?_
        refine k_iald X w 1 0 rfl rfl 1 (kj := 13) rfl (by decide) (by decide) rfl (v := z 13) rfl dX3_whyNoReading_58 ?_
        refine lv_icmp_le (tgt := 64) hx hb dX3_whyNoReading_59 (by decide) (fun c4 => ?_) (fun c4 => ?_)
        · refine lv_aload_n hx hb dX3_whyNoReading_64 rfl (lv_at hl 0 rfl) ?_
          refine k_get X w 0 rfl rfl 1 (by decide) rfl iX3_whyNoReading_X3 (List.mem_of_getElem? (i := 5) rfl) (v := .ref pa) rfl dX3_whyNoReading_65 ?_
          refine k_ciR (k_runV X w (met_X1_isFull l D cI cJ cO pa ra z  H.size) gX3_whyNoReading_X1_isFull rfl rfl rfl 0 hdX1_isFull ⟨Nat.le_of_ble_eq_true rfl, Nat.le_of_ble_eq_true rfl⟩ [4, 5] rfl rfl 4 1 rfl rfl rfl rfl hl.1 rfl (Nat.le_of_ble_eq_true rfl) dX3_whyNoReading_68 ⟨Nat.le_of_ble_eq_true rfl, Nat.le_of_ble_eq_true rfl⟩) w hA [4, 5] rfl (fun H locs w => ?_)
          refine lv_if_eq (tgt := 78) hx hb dX3_whyNoReading_71 (by decide) (fun c5 => ?_) (fun c5 => ?_)
          · have c5 := bI_f c5
            refine lv_iconst (v := 0) hx hb dX3_whyNoReading_78 (by decide) ?_
            exact fin _ _ _ _ _ w (by simp only [why, c1, c2, c3, c4, c5, if_true, if_false, Bool.true_eq_false, reduceIte]) dX3_whyNoReading_79
          · have c5 := bI_t c5
            refine lv_iconst (v := 5) hx hb dX3_whyNoReading_74 (by decide) ?_
            refine lv_goto (tgt := 79) hx hb dX3_whyNoReading_75 (by decide) ?_
            exact fin _ _ _ _ _ w (by simp only [why, c1, c2, c3, c4, c5, if_true, if_false, Bool.true_eq_false, reduceIte]) dX3_whyNoReading_79
        · refine lv_iconst (v := 4) hx hb dX3_whyNoReading_62 (by decide) ?_
          exact fin _ _ _ _ _ w (by simp only [why, c1, c2, c3, c4, if_true, if_false, Bool.true_eq_false, reduceIte]) dX3_whyNoReading_63
      · refine lv_iconst (v := 3) hx hb dX3_whyNoReading_44 (by decide) ?_
        exact fin _ _ _ _ _ w (by simp only [why, c1, c2, c3, if_true, if_false, Bool.true_eq_false, reduceIte]) dX3_whyNoReading_45
    · refine lv_iconst (v := 2) hx hb dX3_whyNoReading_25 (by decide) ?_
      exact fin _ _ _ _ _ w (by simp only [why, c1, c2, if_true, if_false, Bool.true_eq_false, reduceIte]) dX3_whyNoReading_26
  · refine lv_iconst (v := 1) hx hb dX3_whyNoReading_10 (by decide) ?_
    exact fin _ _ _ _ _ w (by simp only [why, c1, if_true, if_false, Bool.true_eq_false, reduceIte]) dX3_whyNoReading_11
theorem hdX3_makeReading : yX3_makeReading.cls = RX3 ∧ yX3_makeReading.cls ≠ "java/lang/invoke/MethodHandle" ∧ yX3_makeReading.cls ≠ "java/lang/invoke/VarHandle" ∧ (parseMethodDescriptor yX3_makeReading.desc).map (fun d => d.parameters.length) = some 1 := ⟨rfl, by decide, by decide, by decide +kernel⟩
theorem iX3_makeReading_X3 : ∀ w ∈ wsX30, w ∈ wsX3_makeReading := fun _ h => List.mem_cons_of_mem _ (List.mem_append_left _ (List.mem_append_left _ (List.mem_append_right _ h)))
theorem iX3_makeReading_X4 : ∀ w ∈ wsX40, w ∈ wsX3_makeReading := fun _ h => List.mem_cons_of_mem _ (List.mem_append_left _ (List.mem_append_right _ h))
set_option maxHeartbeats 4000000 in
set_option maxRecDepth 100000 in
theorem met_X3_makeReading (l : Launch) (D : va_G) (cI cJ cO : ClassId) (a : Nat) (w1 : Nat) (wa : Nat) (pa : Nat) (ra : Nat) (sa : Nat) (z : Nat → Int32) (n : Nat) (k : Nat) (hk : k < 6) (hn : z 10 = nI n) (hn4 : n < 40) : CV l D (TY cI cJ cO) yX3_makeReading wsX3_makeReading ({ frames := 4, cells := 0, slots := 0, locals := 88 }) [.ref a, .int (nI k)] [oS a w1 pa sa z, aI cI sa 4 12 z, oW w1 wa z, aI cI wa 6 19 z, oP pa ra z, aI cI ra 200 25 z] [oS a w1 pa sa (readF z n k), aI cI sa 4 12 (readF z n k), oW w1 wa (readF z n k), aI cI wa 6 19 (readF z n k), oP pa ra (readF z n k), aI cI ra 200 25 (readF z n k)] := by
  refine CV.of (plainFor_of_name (by decide)) rfl (Nat.le_of_ble_eq_true rfl) (fun p e s m below meth c A ls Q X hA w hl fin => ?_)
  obtain ⟨hx, hb, hml, hown, hts⟩ := id X.1
  have hl : lv_has ls 2 [(0, .ref a), (1, .int (nI k))] := hl
  refine lv_aload_n hx hb dX3_makeReading_0 rfl (lv_at hl 0 rfl) ?_
  refine k_get X w 0 rfl rfl 0 (by decide) rfl iX3_makeReading_X3 (List.mem_of_getElem? (i := 1) rfl) (v := .ref w1) rfl dX3_makeReading_1 ?_
  refine lv_iload_n hx hb dX3_makeReading_4 rfl (lv_at hl 1 rfl) ?_
  refine k_put X w 2 rfl rfl 6 (by decide) rfl iX3_makeReading_X4 (List.mem_of_getElem? (i := 2) rfl) tyX4_ok nmX4 rfl rfl (Nat.le_of_ble_eq_true rfl) (ws2 := [oS a w1 pa sa z, aI cI sa 4 12 z, oW w1 wa (upd z 6 (nI k)), aI cI wa 6 19 z, oP pa ra z, aI cI ra 200 25 z]) rfl dX3_makeReading_5 (fun H locs w => ?_)
  refine lv_aload_n hx hb dX3_makeReading_8 rfl (lv_at hl 0 rfl) ?_
  refine k_get X w 0 rfl rfl 1 (by decide) rfl iX3_makeReading_X3 (List.mem_of_getElem? (i := 3) rfl) (v := .ref pa) rfl dX3_makeReading_9 ?_
  refine lv_aload_n hx hb dX3_makeReading_12 rfl (lv_at hl 0 rfl) ?_
  refine k_get X w 0 rfl rfl 0 (by decide) rfl iX3_makeReading_X3 (List.mem_of_getElem? (i := 1) rfl) (v := .ref w1) rfl dX3_makeReading_13 ?_
  have w := w.to (show [oS a w1 pa sa z, aI cI sa 4 12 z, oW w1 wa (upd z 6 (nI k)), aI cI wa 6 19 z, oP pa ra z, aI cI ra 200 25 z] = [oS a w1 pa sa z, aI cI sa 4 12 z, oW w1 wa (upd z 6 (nI k)), aI cI wa 6 19 z, oP pa ra (upd z 6 (nI k)), aI cI ra 200 25 z] by rw [show oP pa ra z = oP pa ra (upd z 6 (nI k)) from oP_c (fun k h1 h2 => (((upd_no (by omega)).trans rfl)).symm)])
  have w := w.to (show [oS a w1 pa sa z, aI cI sa 4 12 z, oW w1 wa (upd z 6 (nI k)), aI cI wa 6 19 z, oP pa ra (upd z 6 (nI k)), aI cI ra 200 25 z] = [oS a w1 pa sa z, aI cI sa 4 12 z, oW w1 wa (upd z 6 (nI k)), aI cI wa 6 19 z, oP pa ra (upd z 6 (nI k)), aI cI ra 200 25 (upd z 6 (nI k))] by rw [show aI cI ra 200 25 z = aI cI ra 200 25 (upd z 6 (nI k)) from aI_c (fun k h1 h2 => (((upd_no (by omega)).trans rfl)).symm)])
  have w := w.to (show [oS a w1 pa sa z, aI cI sa 4 12 z, oW w1 wa (upd z 6 (nI k)), aI cI wa 6 19 z, oP pa ra (upd z 6 (nI k)), aI cI ra 200 25 (upd z 6 (nI k))] = [oS a w1 pa sa z, aI cI sa 4 12 z, oW w1 wa (upd z 6 (nI k)), aI cI wa 6 19 (upd z 6 (nI k)), oP pa ra (upd z 6 (nI k)), aI cI ra 200 25 (upd z 6 (nI k))] by rw [show aI cI wa 6 19 z = aI cI wa 6 19 (upd z 6 (nI k)) from aI_c (fun k h1 h2 => (((upd_no (by omega)).trans rfl)).symm)])
  refine k_cv (wr := [oS a w1 pa sa z, aI cI sa 4 12 z]) (ws2 := [oS a w1 pa sa z, aI cI sa 4 12 z, oW w1 wa (printF (upd z 6 (nI k)) n k), aI cI wa 6 19 (printF (upd z 6 (nI k)) n k), oP pa ra (printF (upd z 6 (nI k)) n k), aI cI ra 200 25 (printF (upd z 6 (nI k)) n k)]) (k_runV X w (met_X1_print l D cI cJ cO pa ra (upd z 6 (nI k)) w1 wa n k rfl hk hn hn4 H.size) gX3_makeReading_X1_print rfl rfl rfl 1 hdX1_print ⟨Nat.le_of_ble_eq_true rfl, Nat.le_of_ble_eq_true rfl⟩ [4, 5, 2, 3] rfl rfl 4 1 rfl rfl rfl rfl hl.1 rfl (Nat.le_of_ble_eq_true rfl) dX3_makeReading_16 ⟨Nat.le_of_ble_eq_true rfl, Nat.le_of_ble_eq_true rfl⟩) w hA [4, 5, 2, 3] [0, 1] rfl rfl rfl (by decide) [0, 1, 4, 5, 2, 3] rfl rfl (fun H locs w => ?_)
  have w := w.to (show [oS a w1 pa sa z, aI cI sa 4 12 z, oW w1 wa (printF (upd z 6 (nI k)) n k), aI cI wa 6 19 (printF (upd z 6 (nI k)) n k), oP pa ra (printF (upd z 6 (nI k)) n k), aI cI ra 200 25 (printF (upd z 6 (nI k)) n k)] = [oS a w1 pa sa (printF (upd z 6 (nI k)) n k), aI cI sa 4 12 (printF (upd z 6 (nI k)) n k), oW w1 wa (printF (upd z 6 (nI k)) n k), aI cI wa 6 19 (printF (upd z 6 (nI k)) n k), oP pa ra (printF (upd z 6 (nI k)) n k), aI cI ra 200 25 (printF (upd z 6 (nI k)) n k)] by rw [show oS a w1 pa sa z = oS a w1 pa sa (printF (upd z 6 (nI k)) n k) from oS_c (fun k h1 h2 => (((printF_m _ _ _ _ (by omega) (by omega)).trans ((upd_no (by omega)).trans rfl))).symm), show aI cI sa 4 12 z = aI cI sa 4 12 (printF (upd z 6 (nI k)) n k) from aI_c (fun k h1 h2 => (((printF_m _ _ _ _ (by omega) (by omega)).trans ((upd_no (by omega)).trans rfl))).symm)])
  refine lv_aload_n hx hb dX3_makeReading_19 rfl (lv_at hl 0 rfl) ?_
  refine lv_dup hx hb dX3_makeReading_20 rfl ?_
  refine k_get X w 0 rfl rfl 3 (by decide) rfl iX3_makeReading_X3 (List.mem_of_getElem? (i := 4) rfl) (v := .int (z 11)) (congrArg (fun t => some (Value.int t)) ((printF_m _ _ _ 11 (by decide) (by decide)).trans rfl)) dX3_makeReading_21 ?_
  refine lv_iconst (v := 1) hx hb dX3_makeReading_24 (by decide) ?_
  refine lv_iadd hx hb dX3_makeReading_25 ?_
  refine k_put X w 0 rfl rfl 3 (by decide) rfl iX3_makeReading_X3 (List.mem_of_getElem? (i := 4) rfl) tyX3_ok nmX3 rfl rfl (Nat.le_of_ble_eq_true rfl) (ws2 := [oS a w1 pa sa (upd (printF (upd z 6 (nI k)) n k) 11 ((z 11) + 1)), aI cI sa 4 12 (printF (upd z 6 (nI k)) n k), oW w1 wa (printF (upd z 6 (nI k)) n k), aI cI wa 6 19 (printF (upd z 6 (nI k)) n k), oP pa ra (printF (upd z 6 (nI k)) n k), aI cI ra 200 25 (printF (upd z 6 (nI k)) n k)]) rfl dX3_makeReading_26 (fun H locs w => ?_)
  have w := w.to (show [oS a w1 pa sa (upd (printF (upd z 6 (nI k)) n k) 11 ((z 11) + 1)), aI cI sa 4 12 (printF (upd z 6 (nI k)) n k), oW w1 wa (printF (upd z 6 (nI k)) n k), aI cI wa 6 19 (printF (upd z 6 (nI k)) n k), oP pa ra (printF (upd z 6 (nI k)) n k), aI cI ra 200 25 (printF (upd z 6 (nI k)) n k)] = [oS a w1 pa sa (upd (printF (upd z 6 (nI k)) n k) 11 ((z 11) + 1)), aI cI sa 4 12 (upd (printF (upd z 6 (nI k)) n k) 11 ((z 11) + 1)), oW w1 wa (upd (printF (upd z 6 (nI k)) n k) 11 ((z 11) + 1)), aI cI wa 6 19 (upd (printF (upd z 6 (nI k)) n k) 11 ((z 11) + 1)), oP pa ra (upd (printF (upd z 6 (nI k)) n k) 11 ((z 11) + 1)), aI cI ra 200 25 (upd (printF (upd z 6 (nI k)) n k) 11 ((z 11) + 1))] by rw [show aI cI sa 4 12 (printF (upd z 6 (nI k)) n k) = aI cI sa 4 12 (upd (printF (upd z 6 (nI k)) n k) 11 ((z 11) + 1)) from aI_c (fun k h1 h2 => (((upd_no (by omega)).trans rfl)).symm), show oW w1 wa (printF (upd z 6 (nI k)) n k) = oW w1 wa (upd (printF (upd z 6 (nI k)) n k) 11 ((z 11) + 1)) from oW_c (fun k h1 h2 => (((upd_no (by omega)).trans rfl)).symm), show aI cI wa 6 19 (printF (upd z 6 (nI k)) n k) = aI cI wa 6 19 (upd (printF (upd z 6 (nI k)) n k) 11 ((z 11) + 1)) from aI_c (fun k h1 h2 => (((upd_no (by omega)).trans rfl)).symm), show oP pa ra (printF (upd z 6 (nI k)) n k) = oP pa ra (upd (printF (upd z 6 (nI k)) n k) 11 ((z 11) + 1)) from oP_c (fun k h1 h2 => (((upd_no (by omega)).trans rfl)).symm), show aI cI ra 200 25 (printF (upd z 6 (nI k)) n k) = aI cI ra 200 25 (upd (printF (upd z 6 (nI k)) n k) 11 ((z 11) + 1)) from aI_c (fun k h1 h2 => (((upd_no (by omega)).trans rfl)).symm)])
  have ez : upd (printF (upd z 6 (nI k)) n k) 11 ((z 11) + 1) = readF z n k := by rfl
  rw [ez] at w
  exact fin _ _ _ _ w dX3_makeReading_29
theorem hdX3_copyFrom : yX3_copyFrom.cls = RX3 ∧ yX3_copyFrom.cls ≠ "java/lang/invoke/MethodHandle" ∧ yX3_copyFrom.cls ≠ "java/lang/invoke/VarHandle" ∧ (parseMethodDescriptor yX3_copyFrom.desc).map (fun d => d.parameters.length) = some 1 := ⟨rfl, by decide, by decide, by decide +kernel⟩
theorem iX3_copyFrom_X3 : ∀ w ∈ wsX30, w ∈ wsX3_copyFrom := fun _ h => List.mem_cons_of_mem _ (List.mem_append_left _ (List.mem_append_left _ (List.mem_append_right _ h)))
set_option maxHeartbeats 4000000 in
set_option maxRecDepth 100000 in
theorem met_X3_copyFrom (l : Launch) (D : va_G) (cI cJ cO : ClassId) (a : Nat) (w1 : Nat) (wa : Nat) (pa : Nat) (ra : Nat) (sa : Nat) (z : Nat → Int32) (ab : Nat) (w1b : Nat) (wab : Nat) (pab : Nat) (rab : Nat) (sab : Nat) (v : Nat → Int32)  : CV l D (TY cI cJ cO) yX3_copyFrom wsX3_copyFrom ({ frames := 2, cells := 0, slots := 0, locals := 81 }) [.ref a, .ref ab] [oS a w1 pa sa z, aI cI sa 4 12 z, oW w1 wa z, aI cI wa 6 19 z, oP pa ra z, aI cI ra 200 25 z, oS ab w1b pab sab v, aI cI sab 4 12 v, oW w1b wab v, aI cI wab 6 19 v, oP pab rab v, aI cI rab 200 25 v] [oS a w1 pa sa v, aI cI sa 4 12 v, oW w1 wa v, aI cI wa 6 19 v, oP pa ra v, aI cI ra 200 25 v, oS ab w1b pab sab v, aI cI sab 4 12 v, oW w1b wab v, aI cI wab 6 19 v, oP pab rab v, aI cI rab 200 25 v] := by
  refine CV.of (plainFor_of_name (by decide)) rfl (Nat.le_of_ble_eq_true rfl) (fun p e s m below meth c A ls Q X hA w hl fin => ?_)
  obtain ⟨hx, hb, hml, hown, hts⟩ := id X.1
  have hl : lv_has ls 2 [(0, .ref a), (1, .ref ab)] := hl
  refine lv_aload_n hx hb dX3_copyFrom_0 rfl (lv_at hl 0 rfl) ?_
  refine k_get X w 0 rfl rfl 0 (by decide) rfl iX3_copyFrom_X3 (List.mem_of_getElem? (i := 1) rfl) (v := .ref w1) rfl dX3_copyFrom_1 ?_
  refine lv_aload_n hx hb dX3_copyFrom_4 rfl (lv_at hl 1 rfl) ?_
  refine k_get X w 6 rfl rfl 0 (by decide) rfl iX3_copyFrom_X3 (List.mem_of_getElem? (i := 1) rfl) (v := .ref w1b) rfl dX3_copyFrom_5 ?_
  refine k_cv (wr := [oS a w1 pa sa z, aI cI sa 4 12 z, oP pa ra z, aI cI ra 200 25 z, oS ab w1b pab sab v, aI cI sab 4 12 v, oP pab rab v, aI cI rab 200 25 v]) (ws2 := [oS a w1 pa sa z, aI cI sa 4 12 z, oW w1 wa v, aI cI wa 6 19 v, oP pa ra z, aI cI ra 200 25 z, oS ab w1b pab sab v, aI cI sab 4 12 v, oW w1b wab v, aI cI wab 6 19 v, oP pab rab v, aI cI rab 200 25 v]) (k_runV X w (met_X4_copyFrom l D cI cJ cO w1 wa z w1b wab v  s.heap.size) gX3_copyFrom_X4_copyFrom rfl rfl rfl 1 hdX4_copyFrom ⟨Nat.le_of_ble_eq_true rfl, Nat.le_of_ble_eq_true rfl⟩ [2, 3, 8, 9] rfl rfl 2 4 rfl rfl rfl rfl hl.1 rfl (Nat.le_of_ble_eq_true rfl) dX3_copyFrom_8 ⟨Nat.le_of_ble_eq_true rfl, Nat.le_of_ble_eq_true rfl⟩) w hA [2, 3, 8, 9] [0, 1, 4, 5, 6, 7, 10, 11] rfl rfl rfl (by decide) [0, 1, 8, 9, 2, 3, 4, 5, 10, 11, 6, 7] rfl rfl (fun H locs w => ?_)
  refine lv_aload_n hx hb dX3_copyFrom_11 rfl (lv_at hl 0 rfl) ?_
  refine k_get X w 0 rfl rfl 1 (by decide) rfl iX3_copyFrom_X3 (List.mem_of_getElem? (i := 2) rfl) (v := .ref pa) rfl dX3_copyFrom_12 ?_
  refine lv_aload_n hx hb dX3_copyFrom_15 rfl (lv_at hl 1 rfl) ?_
  refine k_get X w 6 rfl rfl 1 (by decide) rfl iX3_copyFrom_X3 (List.mem_of_getElem? (i := 2) rfl) (v := .ref pab) rfl dX3_copyFrom_16 ?_
  refine k_cv (wr := [oS a w1 pa sa z, aI cI sa 4 12 z, oW w1 wa v, aI cI wa 6 19 v, oS ab w1b pab sab v, aI cI sab 4 12 v, oW w1b wab v, aI cI wab 6 19 v]) (ws2 := [oS a w1 pa sa z, aI cI sa 4 12 z, oW w1 wa v, aI cI wa 6 19 v, oP pa ra v, aI cI ra 200 25 v, oS ab w1b pab sab v, aI cI sab 4 12 v, oW w1b wab v, aI cI wab 6 19 v, oP pab rab v, aI cI rab 200 25 v]) (k_runV X w (met_X1_copyFrom l D cI cJ cO pa ra z pab rab v  H.size) gX3_copyFrom_X1_copyFrom rfl rfl rfl 1 hdX1_copyFrom ⟨Nat.le_of_ble_eq_true rfl, Nat.le_of_ble_eq_true rfl⟩ [4, 5, 10, 11] rfl rfl 4 1 rfl rfl rfl rfl hl.1 rfl (Nat.le_of_ble_eq_true rfl) dX3_copyFrom_19 ⟨Nat.le_of_ble_eq_true rfl, Nat.le_of_ble_eq_true rfl⟩) w hA [4, 5, 10, 11] [0, 1, 2, 3, 6, 7, 8, 9] rfl rfl rfl (by decide) [0, 1, 2, 3, 8, 9, 4, 5, 6, 7, 10, 11] rfl rfl (fun H locs w => ?_)
  refine lv_aload_n hx hb dX3_copyFrom_22 rfl (lv_at hl 1 rfl) ?_
  refine k_get X w 6 rfl rfl 2 (by decide) rfl iX3_copyFrom_X3 (List.mem_of_getElem? (i := 3) rfl) (v := .ref sab) rfl dX3_copyFrom_23 ?_
  refine lv_iconst (v := 0) hx hb dX3_copyFrom_26 (by decide) ?_
  refine lv_aload_n hx hb dX3_copyFrom_27 rfl (lv_at hl 0 rfl) ?_
  refine k_get X w 0 rfl rfl 2 (by decide) rfl iX3_copyFrom_X3 (List.mem_of_getElem? (i := 3) rfl) (v := .ref sa) rfl dX3_copyFrom_28 ?_
  refine lv_iconst (v := 0) hx hb dX3_copyFrom_31 (by decide) ?_
  refine lv_iconst (v := 4) hx hb dX3_copyFrom_32 (by decide) ?_
  refine k_copy X hl.1 (List.mem_of_getElem? (i := 4) rfl) (List.mem_of_getElem? (i := 5) rfl) (List.mem_of_getElem? (i := 6) rfl) (List.mem_of_getElem? (i := 7) rfl) w 7 1 0 rfl rfl rfl rfl (by decide) (Nat.le_of_ble_eq_true rfl) (Nat.le_of_ble_eq_true rfl) (ws2 := [oS a w1 pa sa z, aI cI sa 4 12 v, oW w1 wa v, aI cI wa 6 19 v, oP pa ra v, aI cI ra 200 25 v, oS ab w1b pab sab v, aI cI sab 4 12 v, oW w1b wab v, aI cI wab 6 19 v, oP pab rab v, aI cI rab 200 25 v]) rfl dX3_copyFrom_33 (fun H locs w => ?_)
  refine lv_aload_n hx hb dX3_copyFrom_36 rfl (lv_at hl 0 rfl) ?_
  refine lv_aload_n hx hb dX3_copyFrom_37 rfl (lv_at hl 1 rfl) ?_
  refine k_get X w 6 rfl rfl 3 (by decide) rfl iX3_copyFrom_X3 (List.mem_of_getElem? (i := 8) rfl) (v := .int (v 11)) rfl dX3_copyFrom_38 ?_
  refine k_put X w 0 rfl rfl 3 (by decide) rfl iX3_copyFrom_X3 (List.mem_of_getElem? (i := 8) rfl) tyX3_ok nmX3 rfl rfl (Nat.le_of_ble_eq_true rfl) (ws2 := [oS a w1 pa sa (upd z 11 (v 11)), aI cI sa 4 12 v, oW w1 wa v, aI cI wa 6 19 v, oP pa ra v, aI cI ra 200 25 v, oS ab w1b pab sab v, aI cI sab 4 12 v, oW w1b wab v, aI cI wab 6 19 v, oP pab rab v, aI cI rab 200 25 v]) rfl dX3_copyFrom_41 (fun H locs w => ?_)
  refine lv_aload_n hx hb dX3_copyFrom_44 rfl (lv_at hl 0 rfl) ?_
  refine lv_aload_n hx hb dX3_copyFrom_45 rfl (lv_at hl 1 rfl) ?_
  refine k_get X w 6 rfl rfl 4 (by decide) rfl iX3_copyFrom_X3 (List.mem_of_getElem? (i := 9) rfl) (v := .int (v 16)) rfl dX3_copyFrom_46 ?_
  refine k_put X w 0 rfl rfl 4 (by decide) rfl iX3_copyFrom_X3 (List.mem_of_getElem? (i := 9) rfl) tyX3_ok nmX3 rfl rfl (Nat.le_of_ble_eq_true rfl) (ws2 := [oS a w1 pa sa (upd (upd z 11 (v 11)) 16 (v 16)), aI cI sa 4 12 v, oW w1 wa v, aI cI wa 6 19 v, oP pa ra v, aI cI ra 200 25 v, oS ab w1b pab sab v, aI cI sab 4 12 v, oW w1b wab v, aI cI wab 6 19 v, oP pab rab v, aI cI rab 200 25 v]) rfl dX3_copyFrom_49 (fun H locs w => ?_)
  refine lv_aload_n hx hb dX3_copyFrom_52 rfl (lv_at hl 0 rfl) ?_
  refine lv_aload_n hx hb dX3_copyFrom_53 rfl (lv_at hl 1 rfl) ?_
  refine k_get X w 6 rfl rfl 5 (by decide) rfl iX3_copyFrom_X3 (List.mem_of_getElem? (i := 10) rfl) (v := .int (v 17)) rfl dX3_copyFrom_54 ?_
  refine k_put X w 0 rfl rfl 5 (by decide) rfl iX3_copyFrom_X3 (List.mem_of_getElem? (i := 10) rfl) tyX3_ok nmX3 rfl rfl (Nat.le_of_ble_eq_true rfl) (ws2 := [oS a w1 pa sa (upd (upd (upd z 11 (v 11)) 16 (v 16)) 17 (v 17)), aI cI sa 4 12 v, oW w1 wa v, aI cI wa 6 19 v, oP pa ra v, aI cI ra 200 25 v, oS ab w1b pab sab v, aI cI sab 4 12 v, oW w1b wab v, aI cI wab 6 19 v, oP pab rab v, aI cI rab 200 25 v]) rfl dX3_copyFrom_57 (fun H locs w => ?_)
  refine lv_aload_n hx hb dX3_copyFrom_60 rfl (lv_at hl 0 rfl) ?_
  refine lv_aload_n hx hb dX3_copyFrom_61 rfl (lv_at hl 1 rfl) ?_
  refine k_get X w 6 rfl rfl 6 (by decide) rfl iX3_copyFrom_X3 (List.mem_of_getElem? (i := 11) rfl) (v := .int (v 18)) rfl dX3_copyFrom_62 ?_
  refine k_put X w 0 rfl rfl 6 (by decide) rfl iX3_copyFrom_X3 (List.mem_of_getElem? (i := 11) rfl) tyX3_ok nmX3 rfl rfl (Nat.le_of_ble_eq_true rfl) (ws2 := [oS a w1 pa sa (upd (upd (upd (upd z 11 (v 11)) 16 (v 16)) 17 (v 17)) 18 (v 18)), aI cI sa 4 12 v, oW w1 wa v, aI cI wa 6 19 v, oP pa ra v, aI cI ra 200 25 v, oS ab w1b pab sab v, aI cI sab 4 12 v, oW w1b wab v, aI cI wab 6 19 v, oP pab rab v, aI cI rab 200 25 v]) rfl dX3_copyFrom_65 (fun H locs w => ?_)
  have w := w.to (show [oS a w1 pa sa (upd (upd (upd (upd z 11 (v 11)) 16 (v 16)) 17 (v 17)) 18 (v 18)), aI cI sa 4 12 v, oW w1 wa v, aI cI wa 6 19 v, oP pa ra v, aI cI ra 200 25 v, oS ab w1b pab sab v, aI cI sab 4 12 v, oW w1b wab v, aI cI wab 6 19 v, oP pab rab v, aI cI rab 200 25 v] = [oS a w1 pa sa v, aI cI sa 4 12 v, oW w1 wa v, aI cI wa 6 19 v, oP pa ra v, aI cI ra 200 25 v, oS ab w1b pab sab v, aI cI sab 4 12 v, oW w1b wab v, aI cI wab 6 19 v, oP pab rab v, aI cI rab 200 25 v] from rfl)
  exact fin _ _ _ _ w dX3_copyFrom_68
