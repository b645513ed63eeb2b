theorem hdX6_at : yX6_at.cls = RX6 ∧ yX6_at.cls ≠ "java/lang/invoke/MethodHandle" ∧ yX6_at.cls ≠ "java/lang/invoke/VarHandle" ∧ (parseMethodDescriptor yX6_at.desc).map (fun d => d.parameters.length) = some 1 := ⟨rfl, by decide, by decide, by decide +kernel⟩
theorem iX6_at_X6 : ∀ w ∈ wsX60, w ∈ wsX6_at := fun _ h => List.mem_cons_of_mem _ (List.mem_append_right _ h)
set_option maxHeartbeats 4000000 in
set_option maxRecDepth 100000 in
theorem met_X6_at (l : Launch) (D : va_G) (cI cJ cO : ClassId) (ma : Nat) (za : Nat) (aa : Nat) (va : Nat) (ka : Nat) (ta : Nat) (y : Nat → Int32) (tx : Nat → Int32) (len : Nat) (i : Nat) (hL : y 3 = nI len) (hL6 : len ≤ 60) (hi : i < 2 ^ 31) : CI l D (TY cI cJ cO) yX6_at wsX6_at ({ frames := 0, cells := 0, slots := 0, locals := 0 }) [.ref ma, .int (nI i)] [oM ma za aa va ka ta y, aI cI ta 60 0 tx] (atT tx len i) [oM ma za aa va ka ta y, aI cI ta 60 0 tx] := by
  refine CI.of (plainFor_of_name (by decide)) rfl (Nat.le_of_ble_eq_true rfl) (rfl) (fun p e s m below meth c A ls Q X hA w hl fin => ?_)
  obtain ⟨hx, hb, hml, hown, hts⟩ := id X.1
  have hl : lv_has ls 2 [(0, .ref ma), (1, .int (nI i))] := hl
  refine lv_iload_n hx hb dX6_at_0 rfl (lv_at hl 1 rfl) ?_
  refine lv_aload_n hx hb dX6_at_1 rfl (lv_at hl 0 rfl) ?_
  refine k_get X w 0 rfl rfl 8 (by decide) rfl iX6_at_X6 (List.mem_of_getElem? (i := 1) rfl) (v := .int (nI len)) (congrArg (fun t => some (Value.int t)) hL) dX6_at_2 ?_
  refine lv_icmp_ge (tgt := 17) hx hb dX6_at_5 (by decide) (fun c1 => ?_) (fun c1 => ?_)
  · refine lv_iconst (v := 0) hx hb dX6_at_17 (by decide) ?_
    exact fin _ _ _ _ _ w (by rw [atT, if_neg (fun h => nI_ge h (by omega) c1)]) dX6_at_18
  · have hil : i < len := Nat.lt_of_not_le (fun h => c1 (nI_le h hi))
    refine lv_aload_n hx hb dX6_at_8 rfl (lv_at hl 0 rfl) ?_
    refine k_get X w 0 rfl rfl 7 (by decide) rfl iX6_at_X6 (List.mem_of_getElem? (i := 2) rfl) (v := .ref ta) rfl dX6_at_9 ?_
    refine lv_iload_n hx hb dX6_at_12 rfl (lv_at hl 1 rfl) ?_
    refine k_iald X w 1 0 rfl rfl i (kj := i) (Nat.zero_add _) (by omega) (by decide) rfl (v := tx i) rfl dX6_at_13 ?_
    refine lv_goto (tgt := 18) hx hb dX6_at_14 (by decide) ?_
    exact fin _ _ _ _ _ w (by rw [atT, if_pos hil]) dX6_at_18
theorem hdX6_readNumber : yX6_readNumber.cls = RX6 ∧ yX6_readNumber.cls ≠ "java/lang/invoke/MethodHandle" ∧ yX6_readNumber.cls ≠ "java/lang/invoke/VarHandle" ∧ (parseMethodDescriptor yX6_readNumber.desc).map (fun d => d.parameters.length) = some 2 := ⟨rfl, by decide, by decide, by decide +kernel⟩
theorem iX6_readNumber_X6 : ∀ w ∈ wsX60, w ∈ wsX6_readNumber := fun _ h => List.mem_cons_of_mem _ (List.mem_append_right _ h)
set_option maxHeartbeats 4000000 in
set_option maxRecDepth 100000 in
theorem met_X6_readNumber (l : Launch) (D : va_G) (cI cJ cO : ClassId) (ma : Nat) (za : Nat) (aa : Nat) (va : Nat) (ka : Nat) (ta : Nat) (y : Nat → Int32) (tx : Nat → Int32) (len : Nat) (i : Nat) (mo : Int32) (hL : y 3 = nI len) (hL6 : len ≤ 60) (hi : i ≤ 61) : CI l D (TY cI cJ cO) yX6_readNumber wsX6_readNumber ({ frames := 1, cells := 0, slots := 0, locals := 22 }) [.ref ma, .int (nI i), .int mo] [oM ma za aa va ka ta y, aI cI ta 60 0 tx] (rj (nuO tx len mo i) (nuJ tx len mo i)) [oM ma za aa va ka ta (upd y 5 (nuV tx len mo i)), aI cI ta 60 0 tx] := by
  refine CI.of (plainFor_of_name (by decide)) rfl (Nat.le_of_ble_eq_true rfl) (rfl) (fun p e s m below meth c A ls Q X hA w hl fin => ?_)
  obtain ⟨hx, hb, hml, hown, hts⟩ := id X.1
  have hl : lv_has ls 4 [(0, .ref ma), (1, .int (nI i)), (2, .int mo)] := hl
  refine lv_iload_n hx hb dX6_readNumber_0 rfl (lv_at hl 1 rfl) ?_
  refine lv_istore_n (lv' := [(3, .int (nI i)), (0, .ref ma), (1, .int (nI i)), (2, .int mo)]) hx hb dX6_readNumber_1 rfl hl (by decide) rfl (fun ls hl => ?_)
  refine lv_aload_n hx hb dX6_readNumber_2 rfl (lv_at hl 1 rfl) ?_
  refine lv_iconst (v := 0) hx hb dX6_readNumber_3 (by decide) ?_
  refine k_put X w 0 rfl rfl 10 (by decide) rfl iX6_readNumber_X6 (List.mem_of_getElem? (i := 1) rfl) tyX6_ok nmX6 rfl rfl (Nat.le_of_ble_eq_true rfl) (ws2 := [oM ma za aa va ka ta (upd y 5 0), aI cI ta 60 0 tx]) rfl dX6_readNumber_4 (fun H locs w => ?_)
  have lp7 : ∀ (n : Nat) (j : Nat) (v : Int32), j + n = 61 → rnJ tx len mo n j v = nuJ tx len mo i → rnV tx len mo n j v = nuV tx len mo i → ∀ (H : Heap) (locs : List Loc) (ls : Array Slot), wd D A s.heap H locs ([oM ma za aa va ka ta (upd y 5 v), aI cI ta 60 0 tx]) → lv_has ls 4 [(3, .int (nI j)), (0, .ref ma), (1, .int (nI i)), (2, .int mo)] → W p l e ({ frames := 1, cells := 0, slots := 0, locals := 22 }) s m [.ref ma, .int (nI i), .int mo].toArray below meth c H locs 0 0 Q (F0 m 7 ls []) := by
    intro n
    induction n with
    | zero =>
      intro j v hj he1 he2 H locs ls w hl
      refine lv_aload_n hx hb dX6_readNumber_7 rfl (lv_at hl 1 rfl) ?_
      refine lv_iload_n hx hb dX6_readNumber_8 rfl (lv_at hl 0 rfl) ?_
      refine k_ciR (k_runV X w (met_X6_at l D cI cJ cO ma za aa va ka ta (upd y 5 v) tx len j ((upd_no (by decide)).trans hL) hL6 (by omega) H.size) gX6_readNumber_X6_at rfl rfl rfl 1 hdX6_at ⟨Nat.le_of_ble_eq_true rfl, Nat.le_of_ble_eq_true rfl⟩ [0, 1] rfl rfl 0 6 rfl rfl rfl rfl hl.1 rfl (Nat.le_of_ble_eq_true rfl) dX6_readNumber_9 ⟨Nat.le_of_ble_eq_true rfl, Nat.le_of_ble_eq_true rfl⟩) w hA [0, 1] rfl (fun H locs w => ?_)
      refine lv_aload_n hx hb dX6_readNumber_12 rfl (lv_at hl 1 rfl) ?_
      refine k_get X w 0 rfl rfl 10 (by decide) rfl iX6_readNumber_X6 (List.mem_of_getElem? (i := 1) rfl) (v := .int v) (congrArg (fun t => some (Value.int t)) (upd_is _ _ _)) dX6_readNumber_13 ?_
      refine lv_if_ne (tgt := 24) hx hb dX6_readNumber_16 (by decide) (fun c1 => ?_) (fun c1 => ?_)
      · refine lv_bipush (v := 48) hx hb dX6_readNumber_24 (by decide) ?_
        refine lv_bipush (v := 57) hx hb dX6_readNumber_26 (by decide) ?_
        refine k_ciR (k_runS X w (met_X6_in l D cI cJ cO (atT tx len j) 48 57  H.size) gX6_readNumber_X6_in rfl rfl rfl 3 hdX6_in ⟨Nat.le_of_ble_eq_true rfl, Nat.le_of_ble_eq_true rfl⟩ [] rfl rfl rfl hl.1 rfl (Nat.le_of_ble_eq_true rfl) dX6_readNumber_28 ⟨Nat.le_of_ble_eq_true rfl, Nat.le_of_ble_eq_true rfl⟩) w hA [] rfl (fun H locs w => ?_)
        refine lv_if_eq (tgt := 80) hx hb dX6_readNumber_31 (by decide) (fun c2 => ?_) (fun c2 => absurd (show bI (inB (atT tx len j) 48 57) = 0 by rw [at_0 (by omega)]; decide) c2)
        refine lv_aload_n hx hb dX6_readNumber_80 rfl (lv_at hl 1 rfl) ?_
        refine k_get X w 0 rfl rfl 10 (by decide) rfl iX6_readNumber_X6 (List.mem_of_getElem? (i := 1) rfl) (v := .int v) (congrArg (fun t => some (Value.int t)) (upd_is _ _ _)) dX6_readNumber_81 ?_
        refine lv_if_ne (tgt := 93) hx hb dX6_readNumber_84 (by decide) (fun c3 => ?_) (fun c3 => ?_)
        · refine lv_iload_n hx hb dX6_readNumber_93 rfl (lv_at hl 0 rfl) ?_
          have ev : v = nuV tx len mo i := he2
          have w := w.to (show [oM ma za aa va ka ta (upd y 5 v), aI cI ta 60 0 tx] = [oM ma za aa va ka ta (upd y 5 (nuV tx len mo i)), aI cI ta 60 0 tx] by rw [ev])
          exact fin _ _ _ _ _ w (by have ej : j = nuJ tx len mo i := he1; rw [nuO, ← ev, ← ej]; simp [rj, c3]) dX6_readNumber_94
        · refine lv_iconst (v := (-1)) hx hb dX6_readNumber_87 (by decide) ?_
          refine lv_iload_n hx hb dX6_readNumber_88 rfl (lv_at hl 0 rfl) ?_
          refine lv_isub hx hb dX6_readNumber_89 ?_
          refine lv_goto (tgt := 94) hx hb dX6_readNumber_90 (by decide) ?_
          have ev : v = nuV tx len mo i := he2
          have w := w.to (show [oM ma za aa va ka ta (upd y 5 v), aI cI ta 60 0 tx] = [oM ma za aa va ka ta (upd y 5 (nuV tx len mo i)), aI cI ta 60 0 tx] by rw [ev])
          exact fin _ _ _ _ _ w (by have ej : j = nuJ tx len mo i := he1; rw [nuO, ← ev, ← ej]; simp [rj, c3]) dX6_readNumber_94
      · refine lv_bipush (v := 49) hx hb dX6_readNumber_19 (by decide) ?_
        refine lv_goto (tgt := 26) hx hb dX6_readNumber_21 (by decide) ?_
        refine lv_bipush (v := 57) hx hb dX6_readNumber_26 (by decide) ?_
        refine k_ciR (k_runS X w (met_X6_in l D cI cJ cO (atT tx len j) 49 57  H.size) gX6_readNumber_X6_in rfl rfl rfl 3 hdX6_in ⟨Nat.le_of_ble_eq_true rfl, Nat.le_of_ble_eq_true rfl⟩ [] rfl rfl rfl hl.1 rfl (Nat.le_of_ble_eq_true rfl) dX6_readNumber_28 ⟨Nat.le_of_ble_eq_true rfl, Nat.le_of_ble_eq_true rfl⟩) w hA [] rfl (fun H locs w => ?_)
        refine lv_if_eq (tgt := 80) hx hb dX6_readNumber_31 (by decide) (fun c4 => ?_) (fun c4 => absurd (show bI (inB (atT tx len j) 49 57) = 0 by rw [at_0 (by omega)]; decide) c4)
        refine lv_aload_n hx hb dX6_readNumber_80 rfl (lv_at hl 1 rfl) ?_
        refine k_get X w 0 rfl rfl 10 (by decide) rfl iX6_readNumber_X6 (List.mem_of_getElem? (i := 1) rfl) (v := .int v) (congrArg (fun t => some (Value.int t)) (upd_is _ _ _)) dX6_readNumber_81 ?_
        refine lv_if_ne (tgt := 93) hx hb dX6_readNumber_84 (by decide) (fun c5 => ?_) (fun c5 => ?_)
        · refine lv_iload_n hx hb dX6_readNumber_93 rfl (lv_at hl 0 rfl) ?_
          have ev : v = nuV tx len mo i := he2
          have w := w.to (show [oM ma za aa va ka ta (upd y 5 v), aI cI ta 60 0 tx] = [oM ma za aa va ka ta (upd y 5 (nuV tx len mo i)), aI cI ta 60 0 tx] by rw [ev])
          exact fin _ _ _ _ _ w (by have ej : j = nuJ tx len mo i := he1; rw [nuO, ← ev, ← ej]; simp [rj, c5]) dX6_readNumber_94
        · refine lv_iconst (v := (-1)) hx hb dX6_readNumber_87 (by decide) ?_
          refine lv_iload_n hx hb dX6_readNumber_88 rfl (lv_at hl 0 rfl) ?_
          refine lv_isub hx hb dX6_readNumber_89 ?_
          refine lv_goto (tgt := 94) hx hb dX6_readNumber_90 (by decide) ?_
          have ev : v = nuV tx len mo i := he2
          have w := w.to (show [oM ma za aa va ka ta (upd y 5 v), aI cI ta 60 0 tx] = [oM ma za aa va ka ta (upd y 5 (nuV tx len mo i)), aI cI ta 60 0 tx] by rw [ev])
          exact fin _ _ _ _ _ w (by have ej : j = nuJ tx len mo i := he1; rw [nuO, ← ev, ← ej]; simp [rj, c5]) dX6_readNumber_94
    | succ n ih =>
      intro j v hj he1 he2 H locs ls w hl
      refine lv_aload_n hx hb dX6_readNumber_7 rfl (lv_at hl 1 rfl) ?_
      refine lv_iload_n hx hb dX6_readNumber_8 rfl (lv_at hl 0 rfl) ?_
      refine k_ciR (k_runV X w (met_X6_at l D cI cJ cO ma za aa va ka ta (upd y 5 v) tx len j ((upd_no (by decide)).trans hL) hL6 (by omega) H.size) gX6_readNumber_X6_at rfl rfl rfl 1 hdX6_at ⟨Nat.le_of_ble_eq_true rfl, Nat.le_of_ble_eq_true rfl⟩ [0, 1] rfl rfl 0 6 rfl rfl rfl rfl hl.1 rfl (Nat.le_of_ble_eq_true rfl) dX6_readNumber_9 ⟨Nat.le_of_ble_eq_true rfl, Nat.le_of_ble_eq_true rfl⟩) w hA [0, 1] rfl (fun H locs w => ?_)
      refine lv_aload_n hx hb dX6_readNumber_12 rfl (lv_at hl 1 rfl) ?_
      refine k_get X w 0 rfl rfl 10 (by decide) rfl iX6_readNumber_X6 (List.mem_of_getElem? (i := 1) rfl) (v := .int v) (congrArg (fun t => some (Value.int t)) (upd_is _ _ _)) dX6_readNumber_13 ?_
      refine lv_if_ne (tgt := 24) hx hb dX6_readNumber_16 (by decide) (fun c6 => ?_) (fun c6 => ?_)
      · refine lv_bipush (v := 48) hx hb dX6_readNumber_24 (by decide) ?_
        refine lv_bipush (v := 57) hx hb dX6_readNumber_26 (by decide) ?_
        refine k_ciR (k_runS X w (met_X6_in l D cI cJ cO (atT tx len j) 48 57  H.size) gX6_readNumber_X6_in rfl rfl rfl 3 hdX6_in ⟨Nat.le_of_ble_eq_true rfl, Nat.le_of_ble_eq_true rfl⟩ [] rfl rfl rfl hl.1 rfl (Nat.le_of_ble_eq_true rfl) dX6_readNumber_28 ⟨Nat.le_of_ble_eq_true rfl, Nat.le_of_ble_eq_true rfl⟩) w hA [] rfl (fun H locs w => ?_)
        refine lv_if_eq (tgt := 80) hx hb dX6_readNumber_31 (by decide) (fun c7 => ?_) (fun c7 => ?_)
        · have c7 := bI_f c7
          refine lv_aload_n hx hb dX6_readNumber_80 rfl (lv_at hl 1 rfl) ?_
          refine k_get X w 0 rfl rfl 10 (by decide) rfl iX6_readNumber_X6 (List.mem_of_getElem? (i := 1) rfl) (v := .int v) (congrArg (fun t => some (Value.int t)) (upd_is _ _ _)) dX6_readNumber_81 ?_
          refine lv_if_ne (tgt := 93) hx hb dX6_readNumber_84 (by decide) (fun c8 => ?_) (fun c8 => ?_)
          · refine lv_iload_n hx hb dX6_readNumber_93 rfl (lv_at hl 0 rfl) ?_
            have ev : v = nuV tx len mo i := ((rnV_n (show rnS tx len mo j v = false by rw [rnS, if_neg c6, c7]; rfl)).symm.trans he2)
            have w := w.to (show [oM ma za aa va ka ta (upd y 5 v), aI cI ta 60 0 tx] = [oM ma za aa va ka ta (upd y 5 (nuV tx len mo i)), aI cI ta 60 0 tx] by rw [ev])
            exact fin _ _ _ _ _ w (by have ej : j = nuJ tx len mo i := (rnJ_n (show rnS tx len mo j v = false by rw [rnS, if_neg c6, c7]; rfl)).symm.trans he1; rw [nuO, ← ev, ← ej]; simp [rj, c8]) dX6_readNumber_94
          · refine lv_iconst (v := (-1)) hx hb dX6_readNumber_87 (by decide) ?_
            refine lv_iload_n hx hb dX6_readNumber_88 rfl (lv_at hl 0 rfl) ?_
            refine lv_isub hx hb dX6_readNumber_89 ?_
            refine lv_goto (tgt := 94) hx hb dX6_readNumber_90 (by decide) ?_
            have ev : v = nuV tx len mo i := ((rnV_n (show rnS tx len mo j v = false by rw [rnS, if_neg c6, c7]; rfl)).symm.trans he2)
            have w := w.to (show [oM ma za aa va ka ta (upd y 5 v), aI cI ta 60 0 tx] = [oM ma za aa va ka ta (upd y 5 (nuV tx len mo i)), aI cI ta 60 0 tx] by rw [ev])
            exact fin _ _ _ _ _ w (by have ej : j = nuJ tx len mo i := (rnJ_n (show rnS tx len mo j v = false by rw [rnS, if_neg c6, c7]; rfl)).symm.trans he1; rw [nuO, ← ev, ← ej]; simp [rj, c8]) dX6_readNumber_94
        · have c7 := bI_t c7
          refine lv_bipush (v := 10) hx hb dX6_readNumber_34 (by decide) ?_
          refine lv_aload_n hx hb dX6_readNumber_36 rfl (lv_at hl 1 rfl) ?_
          refine k_get X w 0 rfl rfl 10 (by decide) rfl iX6_readNumber_X6 (List.mem_of_getElem? (i := 1) rfl) (v := .int v) (congrArg (fun t => some (Value.int t)) (upd_is _ _ _)) dX6_readNumber_37 ?_
          refine lv_imul hx hb dX6_readNumber_40 ?_
          refine lv_aload_n hx hb dX6_readNumber_41 rfl (lv_at hl 1 rfl) ?_
          refine lv_iload_n hx hb dX6_readNumber_42 rfl (lv_at hl 0 rfl) ?_
          refine k_ciR (k_runV X w (met_X6_at l D cI cJ cO ma za aa va ka ta (upd y 5 v) tx len j ((upd_no (by decide)).trans hL) hL6 (by omega) H.size) gX6_readNumber_X6_at rfl rfl rfl 1 hdX6_at ⟨Nat.le_of_ble_eq_true rfl, Nat.le_of_ble_eq_true rfl⟩ [0, 1] rfl rfl 0 6 rfl rfl rfl rfl hl.1 rfl (Nat.le_of_ble_eq_true rfl) dX6_readNumber_43 ⟨Nat.le_of_ble_eq_true rfl, Nat.le_of_ble_eq_true rfl⟩) w hA [0, 1] rfl (fun H locs w => ?_)
          refine lv_iadd hx hb dX6_readNumber_46 ?_
          refine lv_bipush (v := 48) hx hb dX6_readNumber_47 (by decide) ?_
          refine lv_isub hx hb dX6_readNumber_49 ?_
          refine lv_iload_n hx hb dX6_readNumber_50 rfl (lv_at hl 3 rfl) ?_
          refine lv_icmp_gt (tgt := 80) hx hb dX6_readNumber_51 (by decide) (fun c9 => ?_) (fun c9 => ?_)
          · have c9 := gt_f c9
            refine lv_aload_n hx hb dX6_readNumber_80 rfl (lv_at hl 1 rfl) ?_
            refine k_get X w 0 rfl rfl 10 (by decide) rfl iX6_readNumber_X6 (List.mem_of_getElem? (i := 1) rfl) (v := .int v) (congrArg (fun t => some (Value.int t)) (upd_is _ _ _)) dX6_readNumber_81 ?_
            refine lv_if_ne (tgt := 93) hx hb dX6_readNumber_84 (by decide) (fun c10 => ?_) (fun c10 => ?_)
            · refine lv_iload_n hx hb dX6_readNumber_93 rfl (lv_at hl 0 rfl) ?_
              have ev : v = nuV tx len mo i := ((rnV_n (show rnS tx len mo j v = false by rw [rnS, if_neg c6, c7, c9]; rfl)).symm.trans he2)
              have w := w.to (show [oM ma za aa va ka ta (upd y 5 v), aI cI ta 60 0 tx] = [oM ma za aa va ka ta (upd y 5 (nuV tx len mo i)), aI cI ta 60 0 tx] by rw [ev])
              exact fin _ _ _ _ _ w (by have ej : j = nuJ tx len mo i := (rnJ_n (show rnS tx len mo j v = false by rw [rnS, if_neg c6, c7, c9]; rfl)).symm.trans he1; rw [nuO, ← ev, ← ej]; simp [rj, c10]) dX6_readNumber_94
            · refine lv_iconst (v := (-1)) hx hb dX6_readNumber_87 (by decide) ?_
              refine lv_iload_n hx hb dX6_readNumber_88 rfl (lv_at hl 0 rfl) ?_
              refine lv_isub hx hb dX6_readNumber_89 ?_
              refine lv_goto (tgt := 94) hx hb dX6_readNumber_90 (by decide) ?_
              have ev : v = nuV tx len mo i := ((rnV_n (show rnS tx len mo j v = false by rw [rnS, if_neg c6, c7, c9]; rfl)).symm.trans he2)
              have w := w.to (show [oM ma za aa va ka ta (upd y 5 v), aI cI ta 60 0 tx] = [oM ma za aa va ka ta (upd y 5 (nuV tx len mo i)), aI cI ta 60 0 tx] by rw [ev])
              exact fin _ _ _ _ _ w (by have ej : j = nuJ tx len mo i := (rnJ_n (show rnS tx len mo j v = false by rw [rnS, if_neg c6, c7, c9]; rfl)).symm.trans he1; rw [nuO, ← ev, ← ej]; simp [rj, c10]) dX6_readNumber_94
          · have c9 := gt_t c9
            refine lv_aload_n hx hb dX6_readNumber_54 rfl (lv_at hl 1 rfl) ?_
            refine lv_bipush (v := 10) hx hb dX6_readNumber_55 (by decide) ?_
            refine lv_aload_n hx hb dX6_readNumber_57 rfl (lv_at hl 1 rfl) ?_
            refine k_get X w 0 rfl rfl 10 (by decide) rfl iX6_readNumber_X6 (List.mem_of_getElem? (i := 1) rfl) (v := .int v) (congrArg (fun t => some (Value.int t)) (upd_is _ _ _)) dX6_readNumber_58 ?_
            refine lv_imul hx hb dX6_readNumber_61 ?_
            refine lv_aload_n hx hb dX6_readNumber_62 rfl (lv_at hl 1 rfl) ?_
            refine lv_iload_n hx hb dX6_readNumber_63 rfl (lv_at hl 0 rfl) ?_
            refine k_ciR (k_runV X w (met_X6_at l D cI cJ cO ma za aa va ka ta (upd y 5 v) tx len j ((upd_no (by decide)).trans hL) hL6 (by omega) H.size) gX6_readNumber_X6_at rfl rfl rfl 1 hdX6_at ⟨Nat.le_of_ble_eq_true rfl, Nat.le_of_ble_eq_true rfl⟩ [0, 1] rfl rfl 0 6 rfl rfl rfl rfl hl.1 rfl (Nat.le_of_ble_eq_true rfl) dX6_readNumber_64 ⟨Nat.le_of_ble_eq_true rfl, Nat.le_of_ble_eq_true rfl⟩) w hA [0, 1] rfl (fun H locs w => ?_)
            refine lv_iadd hx hb dX6_readNumber_67 ?_
            refine lv_bipush (v := 48) hx hb dX6_readNumber_68 (by decide) ?_
            refine lv_isub hx hb dX6_readNumber_70 ?_
            refine k_put X w 0 rfl rfl 10 (by decide) rfl iX6_readNumber_X6 (List.mem_of_getElem? (i := 1) rfl) tyX6_ok nmX6 rfl rfl (Nat.le_of_ble_eq_true rfl) (ws2 := [oM ma za aa va ka ta (upd (upd y 5 v) 5 (((10 * v) + (atT tx len j)) - 48)), aI cI ta 60 0 tx]) rfl dX6_readNumber_71 (fun H locs w => ?_)
            refine lv_iinc (v := nI (j + 1)) (lv' := [(3, .int (nI (j + 1))), (0, .ref ma), (1, .int (nI i)), (2, .int mo)]) hx hb dX6_readNumber_74 hl (k := 0) rfl (nI_1 _) (by decide) rfl (fun ls hl => ?_)
            refine lv_goto (tgt := 7) hx hb dX6_readNumber_77 (by decide) ?_
            have w := w.to (show [oM ma za aa va ka ta (upd (upd y 5 v) 5 (((10 * v) + (atT tx len j)) - 48)), aI cI ta 60 0 tx] = [oM ma za aa va ka ta (upd y 5 (((10 * v) + (atT tx len j)) - 48)), aI cI ta 60 0 tx] by rw [show oM ma za aa va ka ta (upd (upd y 5 v) 5 (((10 * v) + (atT tx len j)) - 48)) = oM ma za aa va ka ta (upd y 5 (((10 * v) + (atT tx len j)) - 48)) from rfl])
            exact ih (j + 1) (((10 * v) + (atT tx len j)) - 48) (by omega) ((rnJ_y (show rnS tx len mo j v = true by rw [rnS, if_neg c6, c7, c9]; rfl)).symm.trans he1) ((rnV_y (show rnS tx len mo j v = true by rw [rnS, if_neg c6, c7, c9]; rfl)).symm.trans he2) _ _ _ w (lv_sub hl [0, 1, 2, 3] rfl)
      · refine lv_bipush (v := 49) hx hb dX6_readNumber_19 (by decide) ?_
        refine lv_goto (tgt := 26) hx hb dX6_readNumber_21 (by decide) ?_
        refine lv_bipush (v := 57) hx hb dX6_readNumber_26 (by decide) ?_
        refine k_ciR (k_runS X w (met_X6_in l D cI cJ cO (atT tx len j) 49 57  H.size) gX6_readNumber_X6_in rfl rfl rfl 3 hdX6_in ⟨Nat.le_of_ble_eq_true rfl, Nat.le_of_ble_eq_true rfl⟩ [] rfl rfl rfl hl.1 rfl (Nat.le_of_ble_eq_true rfl) dX6_readNumber_28 ⟨Nat.le_of_ble_eq_true rfl, Nat.le_of_ble_eq_true rfl⟩) w hA [] rfl (fun H locs w => ?_)
        refine lv_if_eq (tgt := 80) hx hb dX6_readNumber_31 (by decide) (fun c11 => ?_) (fun c11 => ?_)
        · have c11 := bI_f c11
          refine lv_aload_n hx hb dX6_readNumber_80 rfl (lv_at hl 1 rfl) ?_
          refine k_get X w 0 rfl rfl 10 (by decide) rfl iX6_readNumber_X6 (List.mem_of_getElem? (i := 1) rfl) (v := .int v) (congrArg (fun t => some (Value.int t)) (upd_is _ _ _)) dX6_readNumber_81 ?_
          refine lv_if_ne (tgt := 93) hx hb dX6_readNumber_84 (by decide) (fun c12 => ?_) (fun c12 => ?_)
          · refine lv_iload_n hx hb dX6_readNumber_93 rfl (lv_at hl 0 rfl) ?_
            have ev : v = nuV tx len mo i := ((rnV_n (show rnS tx len mo j v = false by rw [rnS, if_pos c6, c11]; rfl)).symm.trans he2)
            have w := w.to (show [oM ma za aa va ka ta (upd y 5 v), aI cI ta 60 0 tx] = [oM ma za aa va ka ta (upd y 5 (nuV tx len mo i)), aI cI ta 60 0 tx] by rw [ev])
            exact fin _ _ _ _ _ w (by have ej : j = nuJ tx len mo i := (rnJ_n (show rnS tx len mo j v = false by rw [rnS, if_pos c6, c11]; rfl)).symm.trans he1; rw [nuO, ← ev, ← ej]; simp [rj, c12]) dX6_readNumber_94
          · refine lv_iconst (v := (-1)) hx hb dX6_readNumber_87 (by decide) ?_
            refine lv_iload_n hx hb dX6_readNumber_88 rfl (lv_at hl 0 rfl) ?_
            refine lv_isub hx hb dX6_readNumber_89 ?_
            refine lv_goto (tgt := 94) hx hb dX6_readNumber_90 (by decide) ?_
            have ev : v = nuV tx len mo i := ((rnV_n (show rnS tx len mo j v = false by rw [rnS, if_pos c6, c11]; rfl)).symm.trans he2)
            have w := w.to (show [oM ma za aa va ka ta (upd y 5 v), aI cI ta 60 0 tx] = [oM ma za aa va ka ta (upd y 5 (nuV tx len mo i)), aI cI ta 60 0 tx] by rw [ev])
            exact fin _ _ _ _ _ w (by have ej : j = nuJ tx len mo i := (rnJ_n (show rnS tx len mo j v = false by rw [rnS, if_pos c6, c11]; rfl)).symm.trans he1; rw [nuO, ← ev, ← ej]; simp [rj, c12]) dX6_readNumber_94
        · have c11 := bI_t c11
          refine lv_bipush (v := 10) hx hb dX6_readNumber_34 (by decide) ?_
          refine lv_aload_n hx hb dX6_readNumber_36 rfl (lv_at hl 1 rfl) ?_
          refine k_get X w 0 rfl rfl 10 (by decide) rfl iX6_readNumber_X6 (List.mem_of_getElem? (i := 1) rfl) (v := .int v) (congrArg (fun t => some (Value.int t)) (upd_is _ _ _)) dX6_readNumber_37 ?_
          refine lv_imul hx hb dX6_readNumber_40 ?_
          refine lv_aload_n hx hb dX6_readNumber_41 rfl (lv_at hl 1 rfl) ?_
          refine lv_iload_n hx hb dX6_readNumber_42 rfl (lv_at hl 0 rfl) ?_
          refine k_ciR (k_runV X w (met_X6_at l D cI cJ cO ma za aa va ka ta (upd y 5 v) tx len j ((upd_no (by decide)).trans hL) hL6 (by omega) H.size) gX6_readNumber_X6_at rfl rfl rfl 1 hdX6_at ⟨Nat.le_of_ble_eq_true rfl, Nat.le_of_ble_eq_true rfl⟩ [0, 1] rfl rfl 0 6 rfl rfl rfl rfl hl.1 rfl (Nat.le_of_ble_eq_true rfl) dX6_readNumber_43 ⟨Nat.le_of_ble_eq_true rfl, Nat.le_of_ble_eq_true rfl⟩) w hA [0, 1] rfl (fun H locs w => ?_)
          refine lv_iadd hx hb dX6_readNumber_46 ?_
          refine lv_bipush (v := 48) hx hb dX6_readNumber_47 (by decide) ?_
          refine lv_isub hx hb dX6_readNumber_49 ?_
          refine lv_iload_n hx hb dX6_readNumber_50 rfl (lv_at hl 3 rfl) ?_
          refine lv_icmp_gt (tgt := 80) hx hb dX6_readNumber_51 (by decide) (fun c13 => ?_) (fun c13 => ?_)
          · have c13 := gt_f c13
            refine lv_aload_n hx hb dX6_readNumber_80 rfl (lv_at hl 1 rfl) ?_
            refine k_get X w 0 rfl rfl 10 (by decide) rfl iX6_readNumber_X6 (List.mem_of_getElem? (i := 1) rfl) (v := .int v) (congrArg (fun t => some (Value.int t)) (upd_is _ _ _)) dX6_readNumber_81 ?_
            refine lv_if_ne (tgt := 93) hx hb dX6_readNumber_84 (by decide) (fun c14 => ?_) (fun c14 => ?_)
            · refine lv_iload_n hx hb dX6_readNumber_93 rfl (lv_at hl 0 rfl) ?_
              have ev : v = nuV tx len mo i := ((rnV_n (show rnS tx len mo j v = false by rw [rnS, if_pos c6, c11, c13]; rfl)).symm.trans he2)
              have w := w.to (show [oM ma za aa va ka ta (upd y 5 v), aI cI ta 60 0 tx] = [oM ma za aa va ka ta (upd y 5 (nuV tx len mo i)), aI cI ta 60 0 tx] by rw [ev])
              exact fin _ _ _ _ _ w (by have ej : j = nuJ tx len mo i := (rnJ_n (show rnS tx len mo j v = false by rw [rnS, if_pos c6, c11, c13]; rfl)).symm.trans he1; rw [nuO, ← ev, ← ej]; simp [rj, c14]) dX6_readNumber_94
            · refine lv_iconst (v := (-1)) hx hb dX6_readNumber_87 (by decide) ?_
              refine lv_iload_n hx hb dX6_readNumber_88 rfl (lv_at hl 0 rfl) ?_
              refine lv_isub hx hb dX6_readNumber_89 ?_
              refine lv_goto (tgt := 94) hx hb dX6_readNumber_90 (by decide) ?_
              have ev : v = nuV tx len mo i := ((rnV_n (show rnS tx len mo j v = false by rw [rnS, if_pos c6, c11, c13]; rfl)).symm.trans he2)
              have w := w.to (show [oM ma za aa va ka ta (upd y 5 v), aI cI ta 60 0 tx] = [oM ma za aa va ka ta (upd y 5 (nuV tx len mo i)), aI cI ta 60 0 tx] by rw [ev])
              exact fin _ _ _ _ _ w (by have ej : j = nuJ tx len mo i := (rnJ_n (show rnS tx len mo j v = false by rw [rnS, if_pos c6, c11, c13]; rfl)).symm.trans he1; rw [nuO, ← ev, ← ej]; simp [rj, c14]) dX6_readNumber_94
          · have c13 := gt_t c13
            refine lv_aload_n hx hb dX6_readNumber_54 rfl (lv_at hl 1 rfl) ?_
            refine lv_bipush (v := 10) hx hb dX6_readNumber_55 (by decide) ?_
            refine lv_aload_n hx hb dX6_readNumber_57 rfl (lv_at hl 1 rfl) ?_
            refine k_get X w 0 rfl rfl 10 (by decide) rfl iX6_readNumber_X6 (List.mem_of_getElem? (i := 1) rfl) (v := .int v) (congrArg (fun t => some (Value.int t)) (upd_is _ _ _)) dX6_readNumber_58 ?_
            refine lv_imul hx hb dX6_readNumber_61 ?_
            refine lv_aload_n hx hb dX6_readNumber_62 rfl (lv_at hl 1 rfl) ?_
            refine lv_iload_n hx hb dX6_readNumber_63 rfl (lv_at hl 0 rfl) ?_
            refine k_ciR (k_runV X w (met_X6_at l D cI cJ cO ma za aa va ka ta (upd y 5 v) tx len j ((upd_no (by decide)).trans hL) hL6 (by omega) H.size) gX6_readNumber_X6_at rfl rfl rfl 1 hdX6_at ⟨Nat.le_of_ble_eq_true rfl, Nat.le_of_ble_eq_true rfl⟩ [0, 1] rfl rfl 0 6 rfl rfl rfl rfl hl.1 rfl (Nat.le_of_ble_eq_true rfl) dX6_readNumber_64 ⟨Nat.le_of_ble_eq_true rfl, Nat.le_of_ble_eq_true rfl⟩) w hA [0, 1] rfl (fun H locs w => ?_)
            refine lv_iadd hx hb dX6_readNumber_67 ?_
            refine lv_bipush (v := 48) hx hb dX6_readNumber_68 (by decide) ?_
            refine lv_isub hx hb dX6_readNumber_70 ?_
            refine k_put X w 0 rfl rfl 10 (by decide) rfl iX6_readNumber_X6 (List.mem_of_getElem? (i := 1) rfl) tyX6_ok nmX6 rfl rfl (Nat.le_of_ble_eq_true rfl) (ws2 := [oM ma za aa va ka ta (upd (upd y 5 v) 5 (((10 * v) + (atT tx len j)) - 48)), aI cI ta 60 0 tx]) rfl dX6_readNumber_71 (fun H locs w => ?_)
            refine lv_iinc (v := nI (j + 1)) (lv' := [(3, .int (nI (j + 1))), (0, .ref ma), (1, .int (nI i)), (2, .int mo)]) hx hb dX6_readNumber_74 hl (k := 0) rfl (nI_1 _) (by decide) rfl (fun ls hl => ?_)
            refine lv_goto (tgt := 7) hx hb dX6_readNumber_77 (by decide) ?_
            have w := w.to (show [oM ma za aa va ka ta (upd (upd y 5 v) 5 (((10 * v) + (atT tx len j)) - 48)), aI cI ta 60 0 tx] = [oM ma za aa va ka ta (upd y 5 (((10 * v) + (atT tx len j)) - 48)), aI cI ta 60 0 tx] by rw [show oM ma za aa va ka ta (upd (upd y 5 v) 5 (((10 * v) + (atT tx len j)) - 48)) = oM ma za aa va ka ta (upd y 5 (((10 * v) + (atT tx len j)) - 48)) from rfl])
            exact ih (j + 1) (((10 * v) + (atT tx len j)) - 48) (by omega) ((rnJ_y (show rnS tx len mo j v = true by rw [rnS, if_pos c6, c11, c13]; rfl)).symm.trans he1) ((rnV_y (show rnS tx len mo j v = true by rw [rnS, if_pos c6, c11, c13]; rfl)).symm.trans he2) _ _ _ w (lv_sub hl [0, 1, 2, 3] rfl)
  exact lp7 (61 - i) i 0 (by omega) rfl rfl _ _ _ w (lv_sub hl [0, 1, 2, 3] rfl)
theorem hdX6_readPose : yX6_readPose.cls = RX6 ∧ yX6_readPose.cls ≠ "java/lang/invoke/MethodHandle" ∧ yX6_readPose.cls ≠ "java/lang/invoke/VarHandle" ∧ (parseMethodDescriptor yX6_readPose.desc).map (fun d => d.parameters.length) = some 1 := ⟨rfl, by decide, by decide, by decide +kernel⟩
theorem iX6_readPose_X6 : ∀ w ∈ wsX60, w ∈ wsX6_readPose := fun _ h => List.mem_cons_of_mem _ (List.mem_append_right _ h)
set_option maxHeartbeats 4000000 in
set_option maxRecDepth 100000 in
theorem met_X6_readPose (l : Launch) (D : va_G) (cI cJ cO : ClassId) (ma : Nat) (za : Nat) (aa : Nat) (va : Nat) (ka : Nat) (ta : Nat) (y : Nat → Int32) (tx : Nat → Int32) (len : Nat) (i : Nat) (hL : y 3 = nI len) (hL6 : len ≤ 60) (hi : i ≤ 61) : CI l D (TY cI cJ cO) yX6_readPose wsX6_readPose ({ frames := 2, cells := 0, slots := 0, locals := 42 }) [.ref ma, .int (nI i)] [oM ma za aa va ka ta y, aI cI ta 60 0 tx] (rj (poO tx len i) (poJ tx len i)) [oM ma za aa va ka ta (upd y 5 (atT tx len i - 48)), aI cI ta 60 0 tx] := by
  refine CI.of (plainFor_of_name (by decide)) rfl (Nat.le_of_ble_eq_true rfl) (rfl) (fun p e s m below meth c A ls Q X hA w hl fin => ?_)
  obtain ⟨hx, hb, hml, hown, hts⟩ := id X.1
  have hl : lv_has ls 2 [(0, .ref ma), (1, .int (nI i))] := hl
  refine lv_aload_n hx hb dX6_readPose_0 rfl (lv_at hl 0 rfl) ?_
  refine lv_aload_n hx hb dX6_readPose_1 rfl (lv_at hl 0 rfl) ?_
  refine lv_iload_n hx hb dX6_readPose_2 rfl (lv_at hl 1 rfl) ?_
  refine k_ciR (k_runV X w (met_X6_at l D cI cJ cO ma za aa va ka ta y tx len i hL hL6 (by omega) s.heap.size) gX6_readPose_X6_at rfl rfl rfl 1 hdX6_at ⟨Nat.le_of_ble_eq_true rfl, Nat.le_of_ble_eq_true rfl⟩ [0, 1] rfl rfl 0 6 rfl rfl rfl rfl hl.1 rfl (Nat.le_of_ble_eq_true rfl) dX6_readPose_3 ⟨Nat.le_of_ble_eq_true rfl, Nat.le_of_ble_eq_true rfl⟩) w hA [0, 1] rfl (fun H locs w => ?_)
  refine lv_bipush (v := 48) hx hb dX6_readPose_6 (by decide) ?_
  refine lv_isub hx hb dX6_readPose_8 ?_
  refine k_put X w 0 rfl rfl 10 (by decide) rfl iX6_readPose_X6 (List.mem_of_getElem? (i := 1) rfl) tyX6_ok nmX6 rfl rfl (Nat.le_of_ble_eq_true rfl) (ws2 := [oM ma za aa va ka ta (upd y 5 ((atT tx len i) - 48)), aI cI ta 60 0 tx]) rfl dX6_readPose_9 (fun H locs w => ?_)
  refine lv_aload_n hx hb dX6_readPose_12 rfl (lv_at hl 0 rfl) ?_
  refine k_get X w 0 rfl rfl 10 (by decide) rfl iX6_readPose_X6 (List.mem_of_getElem? (i := 1) rfl) (v := .int ((atT tx len i) - 48)) (congrArg (fun t => some (Value.int t)) (upd_is _ _ _)) dX6_readPose_13 ?_
  refine k_ciR (k_runS X w (met_X6_isPose l D cI cJ cO ((atT tx len i) - 48)  H.size) gX6_readPose_X6_isPose rfl rfl rfl 1 hdX6_isPose ⟨Nat.le_of_ble_eq_true rfl, Nat.le_of_ble_eq_true rfl⟩ [] rfl rfl rfl hl.1 rfl (Nat.le_of_ble_eq_true rfl) dX6_readPose_16 ⟨Nat.le_of_ble_eq_true rfl, Nat.le_of_ble_eq_true rfl⟩) w hA [] rfl (fun H locs w => ?_)
  refine lv_if_eq (tgt := 28) hx hb dX6_readPose_19 (by decide) (fun c1 => ?_) (fun c1 => ?_)
  · have c1 := bI_f c1
    refine lv_iconst (v := (-1)) hx hb dX6_readPose_28 (by decide) ?_
    refine lv_iload_n hx hb dX6_readPose_29 rfl (lv_at hl 1 rfl) ?_
    refine lv_isub hx hb dX6_readPose_30 ?_
    have ez : upd y 5 ((atT tx len i) - 48) = upd y 5 (atT tx len i - 48) := by rfl
    rw [ez] at w
    exact fin _ _ _ _ _ w (by rw [poJ, show poO tx len i = false from c1]; rfl) dX6_readPose_31
  · have c1 := bI_t c1
    refine lv_iload_n hx hb dX6_readPose_22 rfl (lv_at hl 1 rfl) ?_
    refine lv_iconst (v := 1) hx hb dX6_readPose_23 (by decide) ?_
    refine lv_iadd hx hb dX6_readPose_24 ?_
    refine lv_goto (tgt := 31) hx hb dX6_readPose_25 (by decide) ?_
    have ez : upd y 5 ((atT tx len i) - 48) = upd y 5 (atT tx len i - 48) := by rfl
    rw [ez] at w
    exact fin _ _ _ _ _ w (by rw [poJ, show poO tx len i = true from c1]; exact nI_1 _) dX6_readPose_31
theorem hdX6_readRegulator : yX6_readRegulator.cls = RX6 ∧ yX6_readRegulator.cls ≠ "java/lang/invoke/MethodHandle" ∧ yX6_readRegulator.cls ≠ "java/lang/invoke/VarHandle" ∧ (parseMethodDescriptor yX6_readRegulator.desc).map (fun d => d.parameters.length) = some 1 := ⟨rfl, by decide, by decide, by decide +kernel⟩
theorem iX6_readRegulator_X6 : ∀ w ∈ wsX60, w ∈ wsX6_readRegulator := fun _ h => List.mem_cons_of_mem _ (List.mem_append_right _ h)
set_option maxHeartbeats 4000000 in
set_option maxRecDepth 100000 in
theorem met_X6_readRegulator (l : Launch) (D : va_G) (cI cJ cO : ClassId) (ma : Nat) (za : Nat) (aa : Nat) (va : Nat) (ka : Nat) (ta : Nat) (y : Nat → Int32) (tx : Nat → Int32) (len : Nat) (i : Nat) (hL : y 3 = nI len) (hL6 : len ≤ 60) (hi : i ≤ 60) : CI l D (TY cI cJ cO) yX6_readRegulator wsX6_readRegulator ({ frames := 2, cells := 0, slots := 0, locals := 45 }) [.ref ma, .int (nI i)] [oM ma za aa va ka ta y, aI cI ta 60 0 tx] (rj (ruO tx len i) (ruJ tx len i)) [oM ma za aa va ka ta (upd y 5 (ruV tx len i)), aI cI ta 60 0 tx] := by
  refine CI.of (plainFor_of_name (by decide)) rfl (Nat.le_of_ble_eq_true rfl) (rfl) (fun p e s m below meth c A ls Q X hA w hl fin => ?_)
  obtain ⟨hx, hb, hml, hown, hts⟩ := id X.1
  have hl : lv_has ls 4 [(0, .ref ma), (1, .int (nI i))] := hl
  refine lv_aload_n hx hb dX6_readRegulator_0 rfl (lv_at hl 0 rfl) ?_
  refine lv_iload_n hx hb dX6_readRegulator_1 rfl (lv_at hl 1 rfl) ?_
  refine k_ciR (k_runV X w (met_X6_at l D cI cJ cO ma za aa va ka ta y tx len i hL hL6 (by omega) s.heap.size) gX6_readRegulator_X6_at rfl rfl rfl 1 hdX6_at ⟨Nat.le_of_ble_eq_true rfl, Nat.le_of_ble_eq_true rfl⟩ [0, 1] rfl rfl 0 6 rfl rfl rfl rfl hl.1 rfl (Nat.le_of_ble_eq_true rfl) dX6_readRegulator_2 ⟨Nat.le_of_ble_eq_true rfl, Nat.le_of_ble_eq_true rfl⟩) w hA [0, 1] rfl (fun H locs w => ?_)
  refine lv_bipush (v := 48) hx hb dX6_readRegulator_5 (by decide) ?_
  refine lv_icmp_ne (tgt := 19) hx hb dX6_readRegulator_7 (by decide) (fun c1 => ?_) (fun c1 => ?_)
  · refine lv_aload_n hx hb dX6_readRegulator_19 rfl (lv_at hl 0 rfl) ?_
    refine lv_iload_n hx hb dX6_readRegulator_20 rfl (lv_at hl 1 rfl) ?_
    refine k_ciR (k_runV X w (met_X6_at l D cI cJ cO ma za aa va ka ta y tx len i hL hL6 (by omega) H.size) gX6_readRegulator_X6_at rfl rfl rfl 1 hdX6_at ⟨Nat.le_of_ble_eq_true rfl, Nat.le_of_ble_eq_true rfl⟩ [0, 1] rfl rfl 0 6 rfl rfl rfl rfl hl.1 rfl (Nat.le_of_ble_eq_true rfl) dX6_readRegulator_21 ⟨Nat.le_of_ble_eq_true rfl, Nat.le_of_ble_eq_true rfl⟩) w hA [0, 1] rfl (fun H locs w => ?_)
    refine lv_bipush (v := 45) hx hb dX6_readRegulator_24 (by decide) ?_
    refine lv_icmp_ne (tgt := 33) hx hb dX6_readRegulator_26 (by decide) (fun c2 => ?_) (fun c2 => ?_)
    · refine lv_iconst (v := 0) hx hb dX6_readRegulator_33 (by decide) ?_
      refine lv_istore_n (lv' := [(2, .int 0), (0, .ref ma), (1, .int (nI i))]) hx hb dX6_readRegulator_34 rfl hl (by decide) rfl (fun ls hl => ?_)
      refine lv_aload_n hx hb dX6_readRegulator_35 rfl (lv_at hl 1 rfl) ?_
      refine lv_iload_n hx hb dX6_readRegulator_36 rfl (lv_at hl 0 rfl) ?_
      refine lv_if_eq (tgt := 46) hx hb dX6_readRegulator_37 (by decide) (fun c3 => ?_) (fun c3 => absurd c3 (by decide))
      refine lv_iload_n hx hb dX6_readRegulator_46 rfl (lv_at hl 2 rfl) ?_
      refine lv_bipush (v := 99) hx hb dX6_readRegulator_47 (by decide) ?_
      refine k_ci (wr := []) (ws2 := [oM ma za aa va ka ta (upd y 5 (nuV tx len 99 i)), aI cI ta 60 0 tx]) (k_runV X w (met_X6_readNumber l D cI cJ cO ma za aa va ka ta y tx len i 99 hL hL6 (by omega) H.size) gX6_readRegulator_X6_readNumber rfl rfl rfl 2 hdX6_readNumber ⟨Nat.le_of_ble_eq_true rfl, Nat.le_of_ble_eq_true rfl⟩ [0, 1] rfl rfl 0 6 rfl rfl rfl rfl hl.1 rfl (Nat.le_of_ble_eq_true rfl) dX6_readRegulator_49 ⟨Nat.le_of_ble_eq_true rfl, Nat.le_of_ble_eq_true rfl⟩) w hA [0, 1] [] rfl rfl rfl (by decide) [0, 1] rfl rfl (fun H locs w => ?_)
      refine lv_istore_n (lv' := [(3, .int (rj (nuO tx len 99 i) (nuJ tx len 99 i))), (2, .int 0), (0, .ref ma), (1, .int (nI i))]) hx hb dX6_readRegulator_52 rfl hl (by decide) rfl (fun ls hl => ?_)
      refine lv_aload_n hx hb dX6_readRegulator_53 rfl (lv_at hl 2 rfl) ?_
      refine lv_iload_n hx hb dX6_readRegulator_54 rfl (lv_at hl 1 rfl) ?_
      refine lv_if_eq (tgt := 66) hx hb dX6_readRegulator_55 (by decide) (fun c4 => ?_) (fun c4 => absurd c4 (by decide))
      refine lv_aload_n hx hb dX6_readRegulator_66 rfl (lv_at hl 2 rfl) ?_
      refine k_get X w 0 rfl rfl 10 (by decide) rfl iX6_readRegulator_X6 (List.mem_of_getElem? (i := 1) rfl) (v := .int (nuV tx len 99 i)) (congrArg (fun t => some (Value.int t)) (upd_is _ _ _)) dX6_readRegulator_67 ?_
      refine k_put X w 0 rfl rfl 10 (by decide) rfl iX6_readRegulator_X6 (List.mem_of_getElem? (i := 1) rfl) tyX6_ok nmX6 rfl rfl (Nat.le_of_ble_eq_true rfl) (ws2 := [oM ma za aa va ka ta (upd (upd y 5 (nuV tx len 99 i)) 5 (nuV tx len 99 i)), aI cI ta 60 0 tx]) rfl dX6_readRegulator_70 (fun H locs w => ?_)
      have w := w.to (show [oM ma za aa va ka ta (upd (upd y 5 (nuV tx len 99 i)) 5 (nuV tx len 99 i)), aI cI ta 60 0 tx] = [oM ma za aa va ka ta (upd y 5 (nuV tx len 99 i)), aI cI ta 60 0 tx] by rw [show upd (upd y 5 (nuV tx len 99 i)) 5 (nuV tx len 99 i) = upd y 5 (nuV tx len 99 i) from upd_upd])
      refine lv_iload_n hx hb dX6_readRegulator_73 rfl (lv_at hl 0 rfl) ?_
      have er : ruV tx len i = nuV tx len 99 i := by rw [ruV, if_neg c1, if_neg c2, ruI, if_neg c2]
      have w := w.to (show [oM ma za aa va ka ta (upd y 5 (nuV tx len 99 i)), aI cI ta 60 0 tx] = [oM ma za aa va ka ta (upd y 5 (ruV tx len i)), aI cI ta 60 0 tx] by rw [er])
      exact fin _ _ _ _ _ w (by rw [ruO, ruJ, if_neg c1, if_neg c1, ruI, if_neg c2]) dX6_readRegulator_74
    · refine lv_iconst (v := 1) hx hb dX6_readRegulator_29 (by decide) ?_
      refine lv_goto (tgt := 34) hx hb dX6_readRegulator_30 (by decide) ?_
      refine lv_istore_n (lv' := [(2, .int 1), (0, .ref ma), (1, .int (nI i))]) hx hb dX6_readRegulator_34 rfl hl (by decide) rfl (fun ls hl => ?_)
      refine lv_aload_n hx hb dX6_readRegulator_35 rfl (lv_at hl 1 rfl) ?_
      refine lv_iload_n hx hb dX6_readRegulator_36 rfl (lv_at hl 0 rfl) ?_
      refine lv_if_eq (tgt := 46) hx hb dX6_readRegulator_37 (by decide) (fun c5 => absurd c5 (by decide)) (fun c5 => ?_)
      refine lv_iload_n hx hb dX6_readRegulator_40 rfl (lv_at hl 2 rfl) ?_
      refine lv_iconst (v := 1) hx hb dX6_readRegulator_41 (by decide) ?_
      refine lv_iadd hx hb dX6_readRegulator_42 ?_
      rw [show (nI i) + 1 = nI (i + 1) from nI_1 _]
      refine lv_goto (tgt := 47) hx hb dX6_readRegulator_43 (by decide) ?_
      refine lv_bipush (v := 99) hx hb dX6_readRegulator_47 (by decide) ?_
      refine k_ci (wr := []) (ws2 := [oM ma za aa va ka ta (upd y 5 (nuV tx len 99 (i + 1))), aI cI ta 60 0 tx]) (k_runV X w (met_X6_readNumber l D cI cJ cO ma za aa va ka ta y tx len (i + 1) 99 hL hL6 (by omega) H.size) gX6_readRegulator_X6_readNumber rfl rfl rfl 2 hdX6_readNumber ⟨Nat.le_of_ble_eq_true rfl, Nat.le_of_ble_eq_true rfl⟩ [0, 1] rfl rfl 0 6 rfl rfl rfl rfl hl.1 rfl (Nat.le_of_ble_eq_true rfl) dX6_readRegulator_49 ⟨Nat.le_of_ble_eq_true rfl, Nat.le_of_ble_eq_true rfl⟩) w hA [0, 1] [] rfl rfl rfl (by decide) [0, 1] rfl rfl (fun H locs w => ?_)
      refine lv_istore_n (lv' := [(3, .int (rj (nuO tx len 99 (i + 1)) (nuJ tx len 99 (i + 1)))), (2, .int 1), (0, .ref ma), (1, .int (nI i))]) hx hb dX6_readRegulator_52 rfl hl (by decide) rfl (fun ls hl => ?_)
      refine lv_aload_n hx hb dX6_readRegulator_53 rfl (lv_at hl 2 rfl) ?_
      refine lv_iload_n hx hb dX6_readRegulator_54 rfl (lv_at hl 1 rfl) ?_
      refine lv_if_eq (tgt := 66) hx hb dX6_readRegulator_55 (by decide) (fun c6 => absurd c6 (by decide)) (fun c6 => ?_)
      refine lv_aload_n hx hb dX6_readRegulator_58 rfl (lv_at hl 2 rfl) ?_
      refine k_get X w 0 rfl rfl 10 (by decide) rfl iX6_readRegulator_X6 (List.mem_of_getElem? (i := 1) rfl) (v := .int (nuV tx len 99 (i + 1))) (congrArg (fun t => some (Value.int t)) (upd_is _ _ _)) dX6_readRegulator_59 ?_
      refine lv_ineg hx hb dX6_readRegulator_62 ?_
      refine lv_goto (tgt := 70) hx hb dX6_readRegulator_63 (by decide) ?_
      refine k_put X w 0 rfl rfl 10 (by decide) rfl iX6_readRegulator_X6 (List.mem_of_getElem? (i := 1) rfl) tyX6_ok nmX6 rfl rfl (Nat.le_of_ble_eq_true rfl) (ws2 := [oM ma za aa va ka ta (upd (upd y 5 (nuV tx len 99 (i + 1))) 5 (-(nuV tx len 99 (i + 1)))), aI cI ta 60 0 tx]) rfl dX6_readRegulator_70 (fun H locs w => ?_)
      have w := w.to (show [oM ma za aa va ka ta (upd (upd y 5 (nuV tx len 99 (i + 1))) 5 (-(nuV tx len 99 (i + 1)))), aI cI ta 60 0 tx] = [oM ma za aa va ka ta (upd y 5 (-(nuV tx len 99 (i + 1)))), aI cI ta 60 0 tx] by rw [show upd (upd y 5 (nuV tx len 99 (i + 1))) 5 (-(nuV tx len 99 (i + 1))) = upd y 5 (-(nuV tx len 99 (i + 1))) from upd_upd])
      refine lv_iload_n hx hb dX6_readRegulator_73 rfl (lv_at hl 0 rfl) ?_
      have er : ruV tx len i = -(nuV tx len 99 (i + 1)) := by rw [ruV, if_neg c1, if_pos c2, ruI, if_pos c2]
      have w := w.to (show [oM ma za aa va ka ta (upd y 5 (-(nuV tx len 99 (i + 1)))), aI cI ta 60 0 tx] = [oM ma za aa va ka ta (upd y 5 (ruV tx len i)), aI cI ta 60 0 tx] by rw [er])
      exact fin _ _ _ _ _ w (by rw [ruO, ruJ, if_neg c1, if_neg c1, ruI, if_pos c2]) dX6_readRegulator_74
  · refine lv_aload_n hx hb dX6_readRegulator_10 rfl (lv_at hl 0 rfl) ?_
    refine lv_iconst (v := 0) hx hb dX6_readRegulator_11 (by decide) ?_
    refine k_put X w 0 rfl rfl 10 (by decide) rfl iX6_readRegulator_X6 (List.mem_of_getElem? (i := 1) rfl) tyX6_ok nmX6 rfl rfl (Nat.le_of_ble_eq_true rfl) (ws2 := [oM ma za aa va ka ta (upd y 5 0), aI cI ta 60 0 tx]) rfl dX6_readRegulator_12 (fun H locs w => ?_)
    refine lv_iload_n hx hb dX6_readRegulator_15 rfl (lv_at hl 1 rfl) ?_
    refine lv_iconst (v := 1) hx hb dX6_readRegulator_16 (by decide) ?_
    refine lv_iadd hx hb dX6_readRegulator_17 ?_
    have er : ruV tx len i = 0 := by rw [ruV, if_pos c1]
    have w := w.to (show [oM ma za aa va ka ta (upd y 5 0), aI cI ta 60 0 tx] = [oM ma za aa va ka ta (upd y 5 (ruV tx len i)), aI cI ta 60 0 tx] by rw [er])
    exact fin _ _ _ _ _ w (by rw [ruO, ruJ, if_pos c1, if_pos c1]; exact nI_1 _) dX6_readRegulator_18
theorem hdX6_readPart : yX6_readPart.cls = RX6 ∧ yX6_readPart.cls ≠ "java/lang/invoke/MethodHandle" ∧ yX6_readPart.cls ≠ "java/lang/invoke/VarHandle" ∧ (parseMethodDescriptor yX6_readPart.desc).map (fun d => d.parameters.length) = some 1 := ⟨rfl, by decide, by decide, by decide +kernel⟩
theorem iX6_readPart_X6 : ∀ w ∈ wsX60, w ∈ wsX6_readPart := fun _ h => List.mem_cons_of_mem _ (List.mem_append_right _ h)
set_option maxHeartbeats 4000000 in
set_option maxRecDepth 100000 in
theorem met_X6_readPart (l : Launch) (D : va_G) (cI cJ cO : ClassId) (ma : Nat) (za : Nat) (aa : Nat) (va : Nat) (ka : Nat) (ta : Nat) (y : Nat → Int32) (tx : Nat → Int32) (len : Nat) (i : Nat) (hL : y 3 = nI len) (hL6 : len ≤ 60) (hi : i ≤ 60) : CI l D (TY cI cJ cO) yX6_readPart wsX6_readPart ({ frames := 3, cells := 0, slots := 0, locals := 68 }) [.ref ma, .int (nI i)] [oM ma za aa va ka ta y, aI cI ta 60 0 tx] (rj (rpO tx len i) (rpJ tx len i)) [oM ma za aa va ka ta (rpY tx len i y), aI cI ta 60 0 tx] := by
  refine CI.of (plainFor_of_name (by decide)) rfl (Nat.le_of_ble_eq_true rfl) (rfl) (fun p e s m below meth c A ls Q X hA w hl fin => ?_)
  obtain ⟨hx, hb, hml, hown, hts⟩ := id X.1
  have hl : lv_has ls 2 [(0, .ref ma), (1, .int (nI i))] := hl
  refine lv_aload_n hx hb dX6_readPart_0 rfl (lv_at hl 0 rfl) ?_
  refine lv_aload_n hx hb dX6_readPart_1 rfl (lv_at hl 0 rfl) ?_
  refine lv_iload_n hx hb dX6_readPart_2 rfl (lv_at hl 1 rfl) ?_
  refine k_ciR (k_runV X w (met_X6_at l D cI cJ cO ma za aa va ka ta y tx len i hL hL6 (by omega) s.heap.size) gX6_readPart_X6_at rfl rfl rfl 1 hdX6_at ⟨Nat.le_of_ble_eq_true rfl, Nat.le_of_ble_eq_true rfl⟩ [0, 1] rfl rfl 0 6 rfl rfl rfl rfl hl.1 rfl (Nat.le_of_ble_eq_true rfl) dX6_readPart_3 ⟨Nat.le_of_ble_eq_true rfl, Nat.le_of_ble_eq_true rfl⟩) w hA [0, 1] rfl (fun H locs w => ?_)
  refine k_put X w 0 rfl rfl 9 (by decide) rfl iX6_readPart_X6 (List.mem_of_getElem? (i := 1) rfl) tyX6_ok nmX6 rfl rfl (Nat.le_of_ble_eq_true rfl) (ws2 := [oM ma za aa va ka ta (upd y 4 (atT tx len i)), aI cI ta 60 0 tx]) rfl dX6_readPart_6 (fun H locs w => ?_)
  refine lv_aload_n hx hb dX6_readPart_9 rfl (lv_at hl 0 rfl) ?_
  refine k_get X w 0 rfl rfl 9 (by decide) rfl iX6_readPart_X6 (List.mem_of_getElem? (i := 1) rfl) (v := .int (atT tx len i)) (congrArg (fun t => some (Value.int t)) (upd_is _ _ _)) dX6_readPart_10 ?_
  by_cases c1 : atT tx len i = 43
  · refine lv_lookup (off := 89) (tgt := 102) hx hb dX6_readPart_13 rfl (by rw [c1]; decide) (by decide) ?_
    refine lv_aload_n hx hb dX6_readPart_102 rfl (lv_at hl 0 rfl) ?_
    refine lv_iload_n hx hb dX6_readPart_103 rfl (lv_at hl 1 rfl) ?_
    refine lv_iconst (v := 1) hx hb dX6_readPart_104 (by decide) ?_
    refine lv_iadd hx hb dX6_readPart_105 ?_
    rw [show (nI i) + 1 = nI (i + 1) from nI_1 _]
    refine lv_bipush (v := 99) hx hb dX6_readPart_106 (by decide) ?_
    refine k_ci (wr := []) (ws2 := [oM ma za aa va ka ta (upd (upd y 4 (atT tx len i)) 5 (nuV tx len 99 (i + 1))), aI cI ta 60 0 tx]) (k_runV X w (met_X6_readNumber l D cI cJ cO ma za aa va ka ta (upd y 4 (atT tx len i)) tx len (i + 1) 99 ((upd_no (by decide)).trans hL) hL6 (by omega) H.size) gX6_readPart_X6_readNumber rfl rfl rfl 2 hdX6_readNumber ⟨Nat.le_of_ble_eq_true rfl, Nat.le_of_ble_eq_true rfl⟩ [0, 1] rfl rfl 0 6 rfl rfl rfl rfl hl.1 rfl (Nat.le_of_ble_eq_true rfl) dX6_readPart_108 ⟨Nat.le_of_ble_eq_true rfl, Nat.le_of_ble_eq_true rfl⟩) w hA [0, 1] [] rfl rfl rfl (by decide) [0, 1] rfl rfl (fun H locs w => ?_)
    have er : rpY tx len i y = upd (upd y 4 (atT tx len i)) 5 (nuV tx len 99 (i + 1)) := by rw [rpY, if_pos c1]
    have w := w.to (show [oM ma za aa va ka ta (upd (upd y 4 (atT tx len i)) 5 (nuV tx len 99 (i + 1))), aI cI ta 60 0 tx] = [oM ma za aa va ka ta (rpY tx len i y), aI cI ta 60 0 tx] by rw [er])
    exact fin _ _ _ _ _ w (by rw [rpO, if_pos c1, rpJ, if_pos c1]) dX6_readPart_111
  by_cases c2 : atT tx len i = 100
  · refine lv_lookup (off := 85) (tgt := 98) hx hb dX6_readPart_13 rfl (by rw [c2]; decide) (by decide) ?_
    refine lv_iload_n hx hb dX6_readPart_98 rfl (lv_at hl 1 rfl) ?_
    refine lv_iconst (v := 1) hx hb dX6_readPart_99 (by decide) ?_
    refine lv_iadd hx hb dX6_readPart_100 ?_
    rw [show (nI i) + 1 = nI (i + 1) from nI_1 _]
    have er : rpY tx len i y = upd y 4 (atT tx len i) := by rw [rpY, if_neg c1, if_pos c2]
    have w := w.to (show [oM ma za aa va ka ta (upd y 4 (atT tx len i)), aI cI ta 60 0 tx] = [oM ma za aa va ka ta (rpY tx len i y), aI cI ta 60 0 tx] by rw [er])
    exact fin _ _ _ _ _ w (by rw [rpO, if_neg c1, if_pos c2, rpJ, if_neg c1, if_pos c2]; rfl) dX6_readPart_101
  by_cases c3 : atT tx len i = 103
  · refine lv_lookup (off := 77) (tgt := 90) hx hb dX6_readPart_13 rfl (by rw [c3]; decide) (by decide) ?_
    have hil := atT_lt c3 (by decide)
    refine lv_aload_n hx hb dX6_readPart_90 rfl (lv_at hl 0 rfl) ?_
    refine lv_iload_n hx hb dX6_readPart_91 rfl (lv_at hl 1 rfl) ?_
    refine lv_iconst (v := 1) hx hb dX6_readPart_92 (by decide) ?_
    refine lv_iadd hx hb dX6_readPart_93 ?_
    rw [show (nI i) + 1 = nI (i + 1) from nI_1 _]
    refine k_ci (wr := []) (ws2 := [oM ma za aa va ka ta (upd (upd y 4 (atT tx len i)) 5 (ruV tx len (i + 1))), aI cI ta 60 0 tx]) (k_runV X w (met_X6_readRegulator l D cI cJ cO ma za aa va ka ta (upd y 4 (atT tx len i)) tx len (i + 1) ((upd_no (by decide)).trans hL) hL6 (by omega) H.size) gX6_readPart_X6_readRegulator rfl rfl rfl 1 hdX6_readRegulator ⟨Nat.le_of_ble_eq_true rfl, Nat.le_of_ble_eq_true rfl⟩ [0, 1] rfl rfl 0 6 rfl rfl rfl rfl hl.1 rfl (Nat.le_of_ble_eq_true rfl) dX6_readPart_94 ⟨Nat.le_of_ble_eq_true rfl, Nat.le_of_ble_eq_true rfl⟩) w hA [0, 1] [] rfl rfl rfl (by decide) [0, 1] rfl rfl (fun H locs w => ?_)
    have er : rpY tx len i y = upd (upd y 4 (atT tx len i)) 5 (ruV tx len (i + 1)) := by rw [rpY, if_neg c1, if_neg c2, if_pos c3]
    have w := w.to (show [oM ma za aa va ka ta (upd (upd y 4 (atT tx len i)) 5 (ruV tx len (i + 1))), aI cI ta 60 0 tx] = [oM ma za aa va ka ta (rpY tx len i y), aI cI ta 60 0 tx] by rw [er])
    exact fin _ _ _ _ _ w (by rw [rpO, if_neg c1, if_neg c2, if_pos c3, rpJ, if_neg c1, if_neg c2, if_pos c3]) dX6_readPart_97
  by_cases c4 : atT tx len i = 112
  · refine lv_lookup (off := 69) (tgt := 82) hx hb dX6_readPart_13 rfl (by rw [c4]; decide) (by decide) ?_
    refine lv_aload_n hx hb dX6_readPart_82 rfl (lv_at hl 0 rfl) ?_
    refine lv_iload_n hx hb dX6_readPart_83 rfl (lv_at hl 1 rfl) ?_
    refine lv_iconst (v := 1) hx hb dX6_readPart_84 (by decide) ?_
    refine lv_iadd hx hb dX6_readPart_85 ?_
    rw [show (nI i) + 1 = nI (i + 1) from nI_1 _]
    refine k_ci (wr := []) (ws2 := [oM ma za aa va ka ta (upd (upd y 4 (atT tx len i)) 5 (atT tx len (i + 1) - 48)), aI cI ta 60 0 tx]) (k_runV X w (met_X6_readPose l D cI cJ cO ma za aa va ka ta (upd y 4 (atT tx len i)) tx len (i + 1) ((upd_no (by decide)).trans hL) hL6 (by omega) H.size) gX6_readPart_X6_readPose rfl rfl rfl 1 hdX6_readPose ⟨Nat.le_of_ble_eq_true rfl, Nat.le_of_ble_eq_true rfl⟩ [0, 1] rfl rfl 0 6 rfl rfl rfl rfl hl.1 rfl (Nat.le_of_ble_eq_true rfl) dX6_readPart_86 ⟨Nat.le_of_ble_eq_true rfl, Nat.le_of_ble_eq_true rfl⟩) w hA [0, 1] [] rfl rfl rfl (by decide) [0, 1] rfl rfl (fun H locs w => ?_)
    have er : rpY tx len i y = upd (upd y 4 (atT tx len i)) 5 (atT tx len (i + 1) - 48) := by rw [rpY, if_neg c1, if_neg c2, if_neg c3, if_pos c4]
    have w := w.to (show [oM ma za aa va ka ta (upd (upd y 4 (atT tx len i)) 5 (atT tx len (i + 1) - 48)), aI cI ta 60 0 tx] = [oM ma za aa va ka ta (rpY tx len i y), aI cI ta 60 0 tx] by rw [er])
    exact fin _ _ _ _ _ w (by rw [rpO, if_neg c1, if_neg c2, if_neg c3, if_pos c4, rpJ, if_neg c1, if_neg c2, if_neg c3, if_pos c4]) dX6_readPart_89
  by_cases c5 : atT tx len i = 114
  · refine lv_lookup (off := 69) (tgt := 82) hx hb dX6_readPart_13 rfl (by rw [c5]; decide) (by decide) ?_
    refine lv_aload_n hx hb dX6_readPart_82 rfl (lv_at hl 0 rfl) ?_
    refine lv_iload_n hx hb dX6_readPart_83 rfl (lv_at hl 1 rfl) ?_
    refine lv_iconst (v := 1) hx hb dX6_readPart_84 (by decide) ?_
    refine lv_iadd hx hb dX6_readPart_85 ?_
    rw [show (nI i) + 1 = nI (i + 1) from nI_1 _]
    refine k_ci (wr := []) (ws2 := [oM ma za aa va ka ta (upd (upd y 4 (atT tx len i)) 5 (atT tx len (i + 1) - 48)), aI cI ta 60 0 tx]) (k_runV X w (met_X6_readPose l D cI cJ cO ma za aa va ka ta (upd y 4 (atT tx len i)) tx len (i + 1) ((upd_no (by decide)).trans hL) hL6 (by omega) H.size) gX6_readPart_X6_readPose rfl rfl rfl 1 hdX6_readPose ⟨Nat.le_of_ble_eq_true rfl, Nat.le_of_ble_eq_true rfl⟩ [0, 1] rfl rfl 0 6 rfl rfl rfl rfl hl.1 rfl (Nat.le_of_ble_eq_true rfl) dX6_readPart_86 ⟨Nat.le_of_ble_eq_true rfl, Nat.le_of_ble_eq_true rfl⟩) w hA [0, 1] [] rfl rfl rfl (by decide) [0, 1] rfl rfl (fun H locs w => ?_)
    have er : rpY tx len i y = upd (upd y 4 (atT tx len i)) 5 (atT tx len (i + 1) - 48) := by rw [rpY, if_neg c1, if_neg c2, if_neg c3, if_neg c4, if_pos c5]
    have w := w.to (show [oM ma za aa va ka ta (upd (upd y 4 (atT tx len i)) 5 (atT tx len (i + 1) - 48)), aI cI ta 60 0 tx] = [oM ma za aa va ka ta (rpY tx len i y), aI cI ta 60 0 tx] by rw [er])
    exact fin _ _ _ _ _ w (by rw [rpO, if_neg c1, if_neg c2, if_neg c3, if_neg c4, if_pos c5, rpJ, if_neg c1, if_neg c2, if_neg c3, if_neg c4, if_pos c5]) dX6_readPart_89
  by_cases c6 : atT tx len i = 119
  · refine lv_lookup (off := 59) (tgt := 72) hx hb dX6_readPart_13 rfl (by rw [c6]; decide) (by decide) ?_
    refine lv_aload_n hx hb dX6_readPart_72 rfl (lv_at hl 0 rfl) ?_
    refine lv_iload_n hx hb dX6_readPart_73 rfl (lv_at hl 1 rfl) ?_
    refine lv_iconst (v := 1) hx hb dX6_readPart_74 (by decide) ?_
    refine lv_iadd hx hb dX6_readPart_75 ?_
    rw [show (nI i) + 1 = nI (i + 1) from nI_1 _]
    refine lv_bipush (v := 48) hx hb dX6_readPart_76 (by decide) ?_
    refine k_ci (wr := []) (ws2 := [oM ma za aa va ka ta (upd (upd y 4 (atT tx len i)) 5 (nuV tx len 48 (i + 1))), aI cI ta 60 0 tx]) (k_runV X w (met_X6_readNumber l D cI cJ cO ma za aa va ka ta (upd y 4 (atT tx len i)) tx len (i + 1) 48 ((upd_no (by decide)).trans hL) hL6 (by omega) H.size) gX6_readPart_X6_readNumber rfl rfl rfl 2 hdX6_readNumber ⟨Nat.le_of_ble_eq_true rfl, Nat.le_of_ble_eq_true rfl⟩ [0, 1] rfl rfl 0 6 rfl rfl rfl rfl hl.1 rfl (Nat.le_of_ble_eq_true rfl) dX6_readPart_78 ⟨Nat.le_of_ble_eq_true rfl, Nat.le_of_ble_eq_true rfl⟩) w hA [0, 1] [] rfl rfl rfl (by decide) [0, 1] rfl rfl (fun H locs w => ?_)
    have er : rpY tx len i y = upd (upd y 4 (atT tx len i)) 5 (nuV tx len 48 (i + 1)) := by rw [rpY, if_neg c1, if_neg c2, if_neg c3, if_neg c4, if_neg c5, if_pos c6]
    have w := w.to (show [oM ma za aa va ka ta (upd (upd y 4 (atT tx len i)) 5 (nuV tx len 48 (i + 1))), aI cI ta 60 0 tx] = [oM ma za aa va ka ta (rpY tx len i y), aI cI ta 60 0 tx] by rw [er])
    exact fin _ _ _ _ _ w (by rw [rpO, if_neg c1, if_neg c2, if_neg c3, if_neg c4, if_neg c5, if_pos c6, rpJ, if_neg c1, if_neg c2, if_neg c3, if_neg c4, if_neg c5, if_pos c6]) dX6_readPart_81
  refine lv_lookup (off := 99) (tgt := 112) hx hb dX6_readPart_13 rfl ((lv_osw c1 (by decide)).trans ((lv_osw c2 (by decide)).trans ((lv_osw c3 (by decide)).trans ((lv_osw c4 (by decide)).trans ((lv_osw c5 (by decide)).trans ((lv_osw c6 (by decide)).trans rfl)))))) (by decide) ?_
  refine lv_iconst (v := (-1)) hx hb dX6_readPart_112 (by decide) ?_
  refine lv_iload_n hx hb dX6_readPart_113 rfl (lv_at hl 1 rfl) ?_
  refine lv_isub hx hb dX6_readPart_114 ?_
  have er : rpY tx len i y = upd y 4 (atT tx len i) := by rw [rpY, if_neg c1, if_neg c2, if_neg c3, if_neg c4, if_neg c5, if_neg c6]
  have w := w.to (show [oM ma za aa va ka ta (upd y 4 (atT tx len i)), aI cI ta 60 0 tx] = [oM ma za aa va ka ta (rpY tx len i y), aI cI ta 60 0 tx] by rw [er])
  exact fin _ _ _ _ _ w (by rw [rpO, if_neg c1, if_neg c2, if_neg c3, if_neg c4, if_neg c5, if_neg c6, rpJ, if_neg c1, if_neg c2, if_neg c3, if_neg c4, if_neg c5, if_neg c6]; rfl) dX6_readPart_115
