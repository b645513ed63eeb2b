theorem hdX6_findError : yX6_findError.cls = RX6 ∧ yX6_findError.cls ≠ "java/lang/invoke/MethodHandle" ∧ yX6_findError.cls ≠ "java/lang/invoke/VarHandle" ∧ (parseMethodDescriptor yX6_findError.desc).map (fun d => d.parameters.length) = some 0 := ⟨rfl, by decide, by decide, by decide +kernel⟩
theorem iX6_findError_X6 : ∀ w ∈ wsX60, w ∈ wsX6_findError := fun _ h => List.mem_cons_of_mem _ (List.mem_append_right _ h)
set_option maxHeartbeats 4000000 in
set_option maxRecDepth 100000 in
theorem met_X6_findError (l : Launch) (D : va_G) (cI cJ cO : ClassId) (ma : Nat) (za : Nat) (aa : Nat) (va : Nat) (ka : Nat) (ta : Nat) (y : Nat → Int32) (tx : Nat → Int32) (len : Nat) (hL : y 3 = nI len) (hL6 : len ≤ 60) : CI l D (TY cI cJ cO) yX6_findError wsX6_findError ({ frames := 4, cells := 0, slots := 0, locals := 89 }) [.ref ma] [oM ma za aa va ka ta y, aI cI ta 60 0 tx] (feR tx len (len + 1) 0) [oM ma za aa va ka ta (feY tx len (len + 1) 0 y), aI cI ta 60 0 tx] := by
  refine CI.of (plainFor_of_name (by decide)) rfl (Nat.le_of_ble_eq_true rfl) (rfl) (fun p e s m below meth c A ls Q X hA w hl fin => ?_)
  obtain ⟨hx, hb, hml, hown, hts⟩ := id X.1
  have hl : lv_has ls 2 [(0, .ref ma)] := hl
  refine lv_iconst (v := 0) hx hb dX6_findError_0 (by decide) ?_
  refine lv_istore_n (lv' := [(1, .int 0), (0, .ref ma)]) hx hb dX6_findError_1 rfl hl (by decide) rfl (fun ls hl => ?_)
  have lp2 : ∀ (n : Nat) (i : Nat) (yy : Nat → Int32), i ≤ len → len < i + n → yy 3 = nI len → feR tx len n i = feR tx len (len + 1) 0 → feY tx len n i yy = feY tx len (len + 1) 0 y → ∀ (H : Heap) (locs : List Loc) (ls : Array Slot), wd D A s.heap H locs ([oM ma za aa va ka ta yy, aI cI ta 60 0 tx]) → lv_has ls 2 [(1, .int (nI i)), (0, .ref ma)] → W p l e ({ frames := 4, cells := 0, slots := 0, locals := 89 }) s m [.ref ma].toArray below meth c H locs 0 0 Q (F0 m 2 ls []) := by
    intro n
    induction n with
    | zero =>
      intro i yy hi hf hLy he hye H locs ls w hl
      exact absurd hf (by omega)
    | succ n ih =>
      intro i yy hi hf hLy he hye H locs ls w hl
      refine lv_aload_n hx hb dX6_findError_2 rfl (lv_at hl 1 rfl) ?_
      refine lv_iload_n hx hb dX6_findError_3 rfl (lv_at hl 0 rfl) ?_
      refine k_ci (wr := []) (ws2 := [oM ma za aa va ka ta (rpY tx len i yy), aI cI ta 60 0 tx]) (k_runV X w (met_X6_readPart l D cI cJ cO ma za aa va ka ta yy tx len i hLy hL6 (by omega) H.size) gX6_findError_X6_readPart rfl rfl rfl 1 hdX6_readPart ⟨Nat.le_of_ble_eq_true rfl, Nat.le_of_ble_eq_true rfl⟩ [0, 1] rfl rfl 0 6 rfl rfl rfl rfl hl.1 rfl (Nat.le_of_ble_eq_true rfl) dX6_findError_4 ⟨Nat.le_of_ble_eq_true rfl, Nat.le_of_ble_eq_true rfl⟩) w hA [0, 1] [] rfl rfl rfl (by decide) [0, 1] rfl rfl (fun H locs w => ?_)
      obtain ⟨hJ1, hJ2⟩ := rpJ_b (tx := tx) hi
      refine lv_istore_n (lv' := [(1, .int (rj (rpO tx len i) (rpJ tx len i))), (0, .ref ma)]) hx hb dX6_findError_7 rfl hl (by decide) rfl (fun ls hl => ?_)
      refine lv_iload_n hx hb dX6_findError_8 rfl (lv_at hl 0 rfl) ?_
      refine lv_if_ge (tgt := 16) hx hb dX6_findError_9 (by decide) (fun c1 => ?_) (fun c1 => ?_)
      · have c1 := rj_ge (by omega) c1
        rw [rj_y c1] at hl
        refine lv_iload_n hx hb dX6_findError_16 rfl (lv_at hl 0 rfl) ?_
        refine lv_aload_n hx hb dX6_findError_17 rfl (lv_at hl 1 rfl) ?_
        refine k_get X w 0 rfl rfl 8 (by decide) rfl iX6_findError_X6 (List.mem_of_getElem? (i := 1) rfl) (v := .int (nI len)) (congrArg (fun t => some (Value.int t)) ((rpY_q (by decide) (by decide)).trans hLy)) dX6_findError_18 ?_
        refine lv_icmp_ne (tgt := 26) hx hb dX6_findError_21 (by decide) (fun c2 => ?_) (fun c2 => ?_)
        · have c2 : ¬ rpJ tx len i = len := fun h => c2 (by rw [h])
          refine lv_aload_n hx hb dX6_findError_26 rfl (lv_at hl 1 rfl) ?_
          refine k_get X w 0 rfl rfl 7 (by decide) rfl iX6_findError_X6 (List.mem_of_getElem? (i := 2) rfl) (v := .ref ta) rfl dX6_findError_27 ?_
          refine lv_iload_n hx hb dX6_findError_30 rfl (lv_at hl 0 rfl) ?_
          refine k_iald X w 1 0 rfl rfl (rpJ tx len i) (kj := rpJ tx len i) (Nat.zero_add _) (by omega) (by decide) rfl (v := tx (rpJ tx len i)) rfl dX6_findError_31 ?_
          refine lv_bipush (v := 59) hx hb dX6_findError_32 (by decide) ?_
          refine lv_icmp_eq (tgt := 39) hx hb dX6_findError_34 (by decide) (fun c3 => ?_) (fun c3 => ?_)
          · refine lv_iinc (v := nI (rpJ tx len i + 1)) (lv' := [(1, .int (nI (rpJ tx len i + 1))), (0, .ref ma)]) hx hb dX6_findError_39 hl (k := 0) rfl (nI_1 _) (by decide) rfl (fun ls hl => ?_)
            refine lv_goto (tgt := 2) hx hb dX6_findError_42 (by decide) ?_
            exact ih (rpJ tx len i + 1) (rpY tx len i yy) (by omega) (by omega) ((rpY_q (by decide) (by decide)).trans hLy) ((feR_s c1 c2 c3).symm.trans he) ((feY_s c1 c2 c3).symm.trans hye) _ _ _ w (lv_sub hl [0, 1] rfl)
          · refine lv_iload_n hx hb dX6_findError_37 rfl (lv_at hl 0 rfl) ?_
            have ez : rpY tx len i yy = feY tx len (len + 1) 0 y := (feY_e (by simp [c1, c2, c3])).symm.trans hye
            rw [ez] at w
            exact fin _ _ _ _ _ w (by rw [← he, feR_2 c1 c2 c3]) dX6_findError_38
        · have c2 : rpJ tx len i = len := nI_inj (by omega) (by omega) c2
          refine lv_iconst (v := (-1)) hx hb dX6_findError_24 (by decide) ?_
          have ez : rpY tx len i yy = feY tx len (len + 1) 0 y := (feY_e (by simp [c1, c2])).symm.trans hye
          rw [ez] at w
          exact fin _ _ _ _ _ w (by rw [← he, feR_1 c1 c2]) dX6_findError_25
      · have c1 := rj_lt (by omega) c1
        refine lv_iconst (v := (-1)) hx hb dX6_findError_12 (by decide) ?_
        refine lv_iload_n hx hb dX6_findError_13 rfl (lv_at hl 0 rfl) ?_
        refine lv_isub hx hb dX6_findError_14 ?_
        have ez : rpY tx len i yy = feY tx len (len + 1) 0 y := (feY_e (by simp [c1])).symm.trans hye
        rw [ez] at w
        exact fin _ _ _ _ _ w (by rw [← he, feR_3 c1, rj_n c1]; exact m1m1 (by omega)) dX6_findError_15
  exact lp2 (len + 1) 0 y (Nat.zero_le _) (by omega) hL rfl rfl _ _ _ w (lv_sub hl [0, 1] rfl)
theorem hdX6_firstError : yX6_firstError.cls = RX6 ∧ yX6_firstError.cls ≠ "java/lang/invoke/MethodHandle" ∧ yX6_firstError.cls ≠ "java/lang/invoke/VarHandle" ∧ (parseMethodDescriptor yX6_firstError.desc).map (fun d => d.parameters.length) = some 0 := ⟨rfl, by decide, by decide, by decide +kernel⟩
theorem iX6_firstError_X6 : ∀ w ∈ wsX60, w ∈ wsX6_firstError := fun _ h => List.mem_cons_of_mem _ (List.mem_append_right _ h)
set_option maxHeartbeats 4000000 in
set_option maxRecDepth 100000 in
theorem met_X6_firstError (l : Launch) (D : va_G) (cI cJ cO : ClassId) (ma : Nat) (za : Nat) (aa : Nat) (va : Nat) (ka : Nat) (ta : Nat) (y : Nat → Int32) (tx : Nat → Int32) (len : Nat) (hL : y 3 = nI len) (hL6 : len ≤ 60) : CI l D (TY cI cJ cO) yX6_firstError wsX6_firstError ({ frames := 5, cells := 0, slots := 0, locals := 110 }) [.ref ma] [oM ma za aa va ka ta y, aI cI ta 60 0 tx] (ferR tx len) [oM ma za aa va ka ta (feY tx len (len + 1) 0 (upd y 0 0)), aI cI ta 60 0 tx] := by
  refine CI.of (plainFor_of_name (by decide)) rfl (Nat.le_of_ble_eq_true rfl) (rfl) (fun p e s m below meth c A ls Q X hA w hl fin => ?_)
  obtain ⟨hx, hb, hml, hown, hts⟩ := id X.1
  have hl : lv_has ls 2 [(0, .ref ma)] := hl
  refine lv_aload_n hx hb dX6_firstError_0 rfl (lv_at hl 0 rfl) ?_
  refine lv_iconst (v := 0) hx hb dX6_firstError_1 (by decide) ?_
  refine k_put X w 0 rfl rfl 0 (by decide) rfl iX6_firstError_X6 (List.mem_of_getElem? (i := 1) rfl) tyX6_ok nmX6 rfl rfl (Nat.le_of_ble_eq_true rfl) (ws2 := [oM ma za aa va ka ta (upd y 0 0), aI cI ta 60 0 tx]) rfl dX6_firstError_2 (fun H locs w => ?_)
  refine lv_aload_n hx hb dX6_firstError_5 rfl (lv_at hl 0 rfl) ?_
  refine k_ci (wr := []) (ws2 := [oM ma za aa va ka ta (feY tx len (len + 1) 0 (upd y 0 0)), aI cI ta 60 0 tx]) (k_runV X w (met_X6_findError l D cI cJ cO ma za aa va ka ta (upd y 0 0) tx len ((upd_no (by decide)).trans hL) hL6 H.size) gX6_firstError_X6_findError rfl rfl rfl 0 hdX6_findError ⟨Nat.le_of_ble_eq_true rfl, Nat.le_of_ble_eq_true rfl⟩ [0, 1] rfl rfl 0 6 rfl rfl rfl rfl hl.1 rfl (Nat.le_of_ble_eq_true rfl) dX6_firstError_6 ⟨Nat.le_of_ble_eq_true rfl, Nat.le_of_ble_eq_true rfl⟩) w hA [0, 1] [] rfl rfl rfl (by decide) [0, 1] rfl rfl (fun H locs w => ?_)
  refine lv_istore_n (lv' := [(1, .int (feR tx len (len + 1) 0)), (0, .ref ma)]) hx hb dX6_firstError_9 rfl hl (by decide) rfl (fun ls hl => ?_)
  refine lv_iload_n hx hb dX6_firstError_10 rfl (lv_at hl 0 rfl) ?_
  refine lv_if_ge (tgt := 21) hx hb dX6_firstError_11 (by decide) (fun c1 => ?_) (fun c1 => ?_)
  · refine lv_iload_n hx hb dX6_firstError_21 rfl (lv_at hl 0 rfl) ?_
    exact fin _ _ _ _ _ w (by rw [ferR, if_pos c1]) dX6_firstError_22
  · refine lv_aload_n hx hb dX6_firstError_14 rfl (lv_at hl 1 rfl) ?_
    refine k_get X w 0 rfl rfl 8 (by decide) rfl iX6_firstError_X6 (List.mem_of_getElem? (i := 2) rfl) (v := .int (nI len)) (congrArg (fun t => some (Value.int t)) ((feY_q (by decide) (by decide) _ _ _).trans ((upd_no (by decide)).trans hL))) dX6_firstError_15 ?_
    refine lv_goto (tgt := 22) hx hb dX6_firstError_18 (by decide) ?_
    exact fin _ _ _ _ _ w (by rw [ferR, if_neg c1]) dX6_firstError_22
