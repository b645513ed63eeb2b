theorem hdX2_push : yX2_push.cls = RX2 ∧ yX2_push.cls ≠ "java/lang/invoke/MethodHandle" ∧ yX2_push.cls ≠ "java/lang/invoke/VarHandle" ∧ (parseMethodDescriptor yX2_push.desc).map (fun d => d.parameters.length) = some 1 := ⟨rfl, by decide, by decide, by decide +kernel⟩
theorem iX2_push_X2 : ∀ w ∈ wsX20, w ∈ wsX2_push := fun _ h => List.mem_cons_of_mem _ (List.mem_append_left _ (List.mem_append_left _ (List.mem_append_left _ (List.mem_append_right _ h))))
set_option maxHeartbeats 4000000 in
set_option maxRecDepth 100000 in
theorem met_X2_push (l : Launch) (D : va_G) (cI cJ cO : ClassId) (sv : Nat) (rr : Nat) (rg : Nat → Nat → Nat) (y : Nat → Int32) (zs : Nat → Nat → Int32) (a : Nat) (w1 : Nat) (wa : Nat) (pa : Nat) (ra : Nat) (sa : Nat) (z : Nat → Int32) (i : Nat) (hy : y 0 = nI i) (hi6 : i < 6) : CV l D (TY cI cJ cO) yX2_push wsX2_push ({ frames := 3, cells := 0, slots := 0, locals := 102 }) [.ref sv, .ref a] ([oV sv rr y, aO cO rr (rgA rg), oS a w1 pa sa z, aI cI sa 4 12 z, oW w1 wa z, aI cI wa 6 19 z, oP pa ra z, aI cI ra 200 25 z] ++ rgS cI rg zs) ([oV sv rr (pushY y), aO cO rr (rgA rg), oS a w1 pa sa z, aI cI sa 4 12 z, oW w1 wa z, aI cI wa 6 19 z, oP pa ra z, aI cI ra 200 25 z] ++ rgS cI rg (va_up zs i z)) := by
  refine CV.of (plainFor_of_name (by decide)) rfl (Nat.le_of_ble_eq_true rfl) (fun p e s m below meth c A ls Q X hA w hl fin => ?_)
  obtain ⟨hx, hb, hml, hown, hts⟩ := id X.1
  have hl : lv_has ls 2 [(0, .ref sv), (1, .ref a)] := hl
  have w : wd D A _ _ _ ([oV sv rr y, aO cO rr (rgA rg), oS a w1 pa sa z, aI cI sa 4 12 z, oW w1 wa z, aI cI wa 6 19 z, oP pa ra z, aI cI ra 200 25 z, oS (rg i 0) (rg i 1) (rg i 3) (rg i 5) (zs i), aI cI (rg i 5) 4 12 (zs i), oW (rg i 1) (rg i 2) (zs i), aI cI (rg i 2) 6 19 (zs i), oP (rg i 3) (rg i 4) (zs i), aI cI (rg i 4) 200 25 (zs i)] ++ rgO cI rg zs i) := w.perm (List.Perm.append_left [oV sv rr y, aO cO rr (rgA rg), oS a w1 pa sa z, aI cI sa 4 12 z, oW w1 wa z, aI cI wa 6 19 z, oP pa ra z, aI cI ra 200 25 z] (ring_out (i := i) hi6))
  refine lv_aload_n hx hb dX2_push_0 rfl (lv_at hl 0 rfl) ?_
  refine k_get X w 0 rfl rfl 0 (by decide) rfl iX2_push_X2 (List.mem_of_getElem? (i := 1) rfl) (v := .ref rr) rfl dX2_push_1 ?_
  refine lv_aload_n hx hb dX2_push_4 rfl (lv_at hl 0 rfl) ?_
  refine k_get X w 0 rfl rfl 1 (by decide) rfl iX2_push_X2 (List.mem_of_getElem? (i := 2) rfl) (v := .int (nI i)) (congrArg (fun t => some (Value.int t)) hy) dX2_push_5 ?_
  refine k_aldq X w 1 1 rfl rfl i hi6 (by decide) rfl (b := rg i 0) (rgA_at hi6) dX2_push_8 ?_
  refine lv_aload_n hx hb dX2_push_9 rfl (lv_at hl 1 rfl) ?_
  refine k_cvT (wr := [oV sv rr y, aO cO rr (rgA rg)]) (es2 := [oV sv rr y, aO cO rr (rgA rg), oS a w1 pa sa z, aI cI sa 4 12 z, oW w1 wa z, aI cI wa 6 19 z, oP pa ra z, aI cI ra 200 25 z, oS (rg i 0) (rg i 1) (rg i 3) (rg i 5) z, aI cI (rg i 5) 4 12 z, oW (rg i 1) (rg i 2) z, aI cI (rg i 2) 6 19 z, oP (rg i 3) (rg i 4) z, aI cI (rg i 4) 200 25 z]) (k_runV X w (met_X3_copyFrom l D cI cJ cO (rg i 0) (rg i 1) (rg i 2) (rg i 3) (rg i 4) (rg i 5) (zs i) a w1 wa pa ra sa z  s.heap.size) gX2_push_X3_copyFrom rfl rfl rfl 1 hdX3_copyFrom ⟨Nat.le_of_ble_eq_true rfl, Nat.le_of_ble_eq_true rfl⟩ [8, 9, 10, 11, 12, 13, 2, 3, 4, 5, 6, 7] (tl_C rfl) rfl 8 3 rfl rfl rfl rfl hl.1 rfl (Nat.le_of_ble_eq_true rfl) dX2_push_10 ⟨Nat.le_of_ble_eq_true rfl, Nat.le_of_ble_eq_true rfl⟩) w hA [8, 9, 10, 11, 12, 13, 2, 3, 4, 5, 6, 7] [0, 1] rfl rfl rfl (by decide) [0, 1, 8, 9, 10, 11, 12, 13, 2, 3, 4, 5, 6, 7] rfl rfl (fun H locs w => ?_)
  refine lv_aload_n hx hb dX2_push_13 rfl (lv_at hl 0 rfl) ?_
  refine lv_aload_n hx hb dX2_push_14 rfl (lv_at hl 0 rfl) ?_
  refine k_get X w 0 rfl rfl 1 (by decide) rfl iX2_push_X2 (List.mem_of_getElem? (i := 2) rfl) (v := .int (nI i)) (congrArg (fun t => some (Value.int t)) hy) dX2_push_15 ?_
  refine lv_iconst (v := 1) hx hb dX2_push_18 (by decide) ?_
  refine lv_iadd hx hb dX2_push_19 ?_
  refine lv_bipush (v := 6) hx hb dX2_push_20 (by decide) ?_
  refine lv_irem hx hb dX2_push_22 (by decide) ?_
  refine k_put X w 0 rfl rfl 1 (by decide) rfl iX2_push_X2 (List.mem_of_getElem? (i := 2) rfl) tyX2_ok nmX2 rfl rfl (Nat.le_of_ble_eq_true rfl) (ws2 := [oV sv rr (upd y 0 (((nI i) + 1) - ((nI i) + 1) / 6 * 6)), aO cO rr (rgA rg), oS a w1 pa sa z, aI cI sa 4 12 z, oW w1 wa z, aI cI wa 6 19 z, oP pa ra z, aI cI ra 200 25 z, oS (rg i 0) (rg i 1) (rg i 3) (rg i 5) z, aI cI (rg i 5) 4 12 z, oW (rg i 1) (rg i 2) z, aI cI (rg i 2) 6 19 z, oP (rg i 3) (rg i 4) z, aI cI (rg i 4) 200 25 z] ++ rgO cI rg zs i) rfl dX2_push_23 (fun H locs w => ?_)
  refine lv_aload_n hx hb dX2_push_26 rfl (lv_at hl 0 rfl) ?_
  refine lv_bipush (v := 6) hx hb dX2_push_27 (by decide) ?_
  refine lv_aload_n hx hb dX2_push_29 rfl (lv_at hl 0 rfl) ?_
  refine k_get X w 0 rfl rfl 2 (by decide) rfl iX2_push_X2 (List.mem_of_getElem? (i := 3) rfl) (v := .int (y 1)) rfl dX2_push_30 ?_
  refine lv_iconst (v := 1) hx hb dX2_push_33 (by decide) ?_
  refine lv_iadd hx hb dX2_push_34 ?_
  refine k_min X hl.1 (List.mem_of_getElem? (i := 4) rfl) (List.mem_of_getElem? (i := 5) rfl) (List.mem_of_getElem? (i := 6) rfl) (List.mem_of_getElem? (i := 7) rfl) (Nat.le_of_ble_eq_true rfl) (Nat.le_of_ble_eq_true rfl) (Nat.le_of_ble_eq_true rfl) (Nat.le_of_ble_eq_true rfl) dX2_push_35 ?_
  refine k_put X w 0 rfl rfl 2 (by decide) rfl iX2_push_X2 (List.mem_of_getElem? (i := 3) rfl) tyX2_ok nmX2 rfl rfl (Nat.le_of_ble_eq_true rfl) (ws2 := [oV sv rr (upd (upd y 0 (((nI i) + 1) - ((nI i) + 1) / 6 * 6)) 1 (if ((y 1) + 1) < 6 then (y 1) + 1 else 6)), aO cO rr (rgA rg), oS a w1 pa sa z, aI cI sa 4 12 z, oW w1 wa z, aI cI wa 6 19 z, oP pa ra z, aI cI ra 200 25 z, oS (rg i 0) (rg i 1) (rg i 3) (rg i 5) z, aI cI (rg i 5) 4 12 z, oW (rg i 1) (rg i 2) z, aI cI (rg i 2) 6 19 z, oP (rg i 3) (rg i 4) z, aI cI (rg i 4) 200 25 z] ++ rgO cI rg zs i) rfl dX2_push_38 (fun H locs w => ?_)
  have ey : upd (upd y 0 (((nI i) + 1) - ((nI i) + 1) / 6 * 6)) 1 (if ((y 1) + 1) < 6 then (y 1) + 1 else 6) = pushY y := by simp only [pushY, rem, hy]
  rw [ey] at w
  have w : wd D A _ _ _ ([oV sv rr (pushY y), aO cO rr (rgA rg), oS a w1 pa sa z, aI cI sa 4 12 z, oW w1 wa z, aI cI wa 6 19 z, oP pa ra z, aI cI ra 200 25 z] ++ rgS cI rg (va_up zs i z)) := w.perm (List.Perm.append_left [oV sv rr (pushY y), aO cO rr (rgA rg), oS a w1 pa sa z, aI cI sa 4 12 z, oW w1 wa z, aI cI wa 6 19 z, oP pa ra z, aI cI ra 200 25 z] (ring_in (z := z) hi6))
  exact fin _ _ _ _ w dX2_push_41
theorem hdX2_popInto : yX2_popInto.cls = RX2 ∧ yX2_popInto.cls ≠ "java/lang/invoke/MethodHandle" ∧ yX2_popInto.cls ≠ "java/lang/invoke/VarHandle" ∧ (parseMethodDescriptor yX2_popInto.desc).map (fun d => d.parameters.length) = some 1 := ⟨rfl, by decide, by decide, by decide +kernel⟩
theorem iX2_popInto_X2 : ∀ w ∈ wsX20, w ∈ wsX2_popInto := fun _ h => List.mem_cons_of_mem _ (List.mem_append_left _ (List.mem_append_left _ (List.mem_append_left _ (List.mem_append_right _ h))))
set_option maxHeartbeats 4000000 in
set_option maxRecDepth 100000 in
theorem met_X2_popInto (l : Launch) (D : va_G) (cI cJ cO : ClassId) (sv : Nat) (rr : Nat) (rg : Nat → Nat → Nat) (y : Nat → Int32) (zs : Nat → Nat → Int32) (a : Nat) (w1 : Nat) (wa : Nat) (pa : Nat) (ra : Nat) (sa : Nat) (z : Nat → Int32) (i : Nat) (hy : y 0 = nI i) (hi6 : i < 6) (hs : ¬ y 1 = 0) : CV l D (TY cI cJ cO) yX2_popInto wsX2_popInto ({ frames := 3, cells := 0, slots := 0, locals := 102 }) [.ref sv, .ref a] ([oV sv rr y, aO cO rr (rgA rg), oS a w1 pa sa z, aI cI sa 4 12 z, oW w1 wa z, aI cI wa 6 19 z, oP pa ra z, aI cI ra 200 25 z] ++ rgS cI rg zs) ([oV sv rr (popY y), aO cO rr (rgA rg), oS a w1 pa sa (zs ((i + 5) % 6)), aI cI sa 4 12 (zs ((i + 5) % 6)), oW w1 wa (zs ((i + 5) % 6)), aI cI wa 6 19 (zs ((i + 5) % 6)), oP pa ra (zs ((i + 5) % 6)), aI cI ra 200 25 (zs ((i + 5) % 6))] ++ rgS cI rg zs) := by
  refine CV.of (plainFor_of_name (by decide)) rfl (Nat.le_of_ble_eq_true rfl) (fun p e s m below meth c A ls Q X hA w hl fin => ?_)
  obtain ⟨hx, hb, hml, hown, hts⟩ := id X.1
  have hl : lv_has ls 2 [(0, .ref sv), (1, .ref a)] := hl
  have hj6 : (i + 5) % 6 < 6 := Nat.mod_lt _ (by decide)
  have w : wd D A _ _ _ ([oV sv rr y, aO cO rr (rgA rg), oS a w1 pa sa z, aI cI sa 4 12 z, oW w1 wa z, aI cI wa 6 19 z, oP pa ra z, aI cI ra 200 25 z, oS (rg ((i + 5) % 6) 0) (rg ((i + 5) % 6) 1) (rg ((i + 5) % 6) 3) (rg ((i + 5) % 6) 5) (zs ((i + 5) % 6)), aI cI (rg ((i + 5) % 6) 5) 4 12 (zs ((i + 5) % 6)), oW (rg ((i + 5) % 6) 1) (rg ((i + 5) % 6) 2) (zs ((i + 5) % 6)), aI cI (rg ((i + 5) % 6) 2) 6 19 (zs ((i + 5) % 6)), oP (rg ((i + 5) % 6) 3) (rg ((i + 5) % 6) 4) (zs ((i + 5) % 6)), aI cI (rg ((i + 5) % 6) 4) 200 25 (zs ((i + 5) % 6))] ++ rgO cI rg zs ((i + 5) % 6)) := w.perm (List.Perm.append_left [oV sv rr y, aO cO rr (rgA rg), oS a w1 pa sa z, aI cI sa 4 12 z, oW w1 wa z, aI cI wa 6 19 z, oP pa ra z, aI cI ra 200 25 z] (ring_out (i := (i + 5) % 6) hj6))
  refine lv_aload_n hx hb dX2_popInto_0 rfl (lv_at hl 0 rfl) ?_
  refine k_get X w 0 rfl rfl 2 (by decide) rfl iX2_popInto_X2 (List.mem_of_getElem? (i := 1) rfl) (v := .int (y 1)) rfl dX2_popInto_1 ?_
  refine lv_if_ne (tgt := 8) hx hb dX2_popInto_4 (by decide) (fun c1 => ?_) (fun c1 => absurd c1 hs)
  refine lv_aload_n hx hb dX2_popInto_8 rfl (lv_at hl 0 rfl) ?_
  refine lv_aload_n hx hb dX2_popInto_9 rfl (lv_at hl 0 rfl) ?_
  refine k_get X w 0 rfl rfl 1 (by decide) rfl iX2_popInto_X2 (List.mem_of_getElem? (i := 2) rfl) (v := .int (nI i)) (congrArg (fun t => some (Value.int t)) hy) dX2_popInto_10 ?_
  refine lv_bipush (v := 6) hx hb dX2_popInto_13 (by decide) ?_
  refine lv_iadd hx hb dX2_popInto_15 ?_
  refine lv_iconst (v := 1) hx hb dX2_popInto_16 (by decide) ?_
  refine lv_isub hx hb dX2_popInto_17 ?_
  refine lv_bipush (v := 6) hx hb dX2_popInto_18 (by decide) ?_
  refine lv_irem hx hb dX2_popInto_20 (by decide) ?_
  refine k_put X w 0 rfl rfl 1 (by decide) rfl iX2_popInto_X2 (List.mem_of_getElem? (i := 2) rfl) tyX2_ok nmX2 rfl rfl (Nat.le_of_ble_eq_true rfl) (ws2 := [oV sv rr (upd y 0 ((((nI i) + 6) - 1) - (((nI i) + 6) - 1) / 6 * 6)), aO cO rr (rgA rg), oS a w1 pa sa z, aI cI sa 4 12 z, oW w1 wa z, aI cI wa 6 19 z, oP pa ra z, aI cI ra 200 25 z, oS (rg ((i + 5) % 6) 0) (rg ((i + 5) % 6) 1) (rg ((i + 5) % 6) 3) (rg ((i + 5) % 6) 5) (zs ((i + 5) % 6)), aI cI (rg ((i + 5) % 6) 5) 4 12 (zs ((i + 5) % 6)), oW (rg ((i + 5) % 6) 1) (rg ((i + 5) % 6) 2) (zs ((i + 5) % 6)), aI cI (rg ((i + 5) % 6) 2) 6 19 (zs ((i + 5) % 6)), oP (rg ((i + 5) % 6) 3) (rg ((i + 5) % 6) 4) (zs ((i + 5) % 6)), aI cI (rg ((i + 5) % 6) 4) 200 25 (zs ((i + 5) % 6))] ++ rgO cI rg zs ((i + 5) % 6)) rfl dX2_popInto_21 (fun H locs w => ?_)
  refine lv_aload_n hx hb dX2_popInto_24 rfl (lv_at hl 0 rfl) ?_
  refine lv_dup hx hb dX2_popInto_25 rfl ?_
  refine k_get X w 0 rfl rfl 2 (by decide) rfl iX2_popInto_X2 (List.mem_of_getElem? (i := 1) rfl) (v := .int (y 1)) rfl dX2_popInto_26 ?_
  refine lv_iconst (v := 1) hx hb dX2_popInto_29 (by decide) ?_
  refine lv_isub hx hb dX2_popInto_30 ?_
  refine k_put X w 0 rfl rfl 2 (by decide) rfl iX2_popInto_X2 (List.mem_of_getElem? (i := 1) rfl) tyX2_ok nmX2 rfl rfl (Nat.le_of_ble_eq_true rfl) (ws2 := [oV sv rr (upd (upd y 0 ((((nI i) + 6) - 1) - (((nI i) + 6) - 1) / 6 * 6)) 1 ((y 1) - 1)), aO cO rr (rgA rg), oS a w1 pa sa z, aI cI sa 4 12 z, oW w1 wa z, aI cI wa 6 19 z, oP pa ra z, aI cI ra 200 25 z, oS (rg ((i + 5) % 6) 0) (rg ((i + 5) % 6) 1) (rg ((i + 5) % 6) 3) (rg ((i + 5) % 6) 5) (zs ((i + 5) % 6)), aI cI (rg ((i + 5) % 6) 5) 4 12 (zs ((i + 5) % 6)), oW (rg ((i + 5) % 6) 1) (rg ((i + 5) % 6) 2) (zs ((i + 5) % 6)), aI cI (rg ((i + 5) % 6) 2) 6 19 (zs ((i + 5) % 6)), oP (rg ((i + 5) % 6) 3) (rg ((i + 5) % 6) 4) (zs ((i + 5) % 6)), aI cI (rg ((i + 5) % 6) 4) 200 25 (zs ((i + 5) % 6))] ++ rgO cI rg zs ((i + 5) % 6)) rfl dX2_popInto_31 (fun H locs w => ?_)
  refine lv_aload_n hx hb dX2_popInto_34 rfl (lv_at hl 1 rfl) ?_
  refine lv_aload_n hx hb dX2_popInto_35 rfl (lv_at hl 0 rfl) ?_
  refine k_get X w 0 rfl rfl 0 (by decide) rfl iX2_popInto_X2 (List.mem_of_getElem? (i := 3) rfl) (v := .ref rr) rfl dX2_popInto_36 ?_
  refine lv_aload_n hx hb dX2_popInto_39 rfl (lv_at hl 0 rfl) ?_
  refine k_get X w 0 rfl rfl 1 (by decide) rfl iX2_popInto_X2 (List.mem_of_getElem? (i := 2) rfl) (v := .int ((((nI i) + 6) - 1) - (((nI i) + 6) - 1) / 6 * 6)) (congrArg (fun t => some (Value.int t)) ((upd_no (by decide)).trans (upd_is _ _ _))) dX2_popInto_40 ?_
  refine k_aldq X w 1 1 rfl rfl ((i + 5) % 6) hj6 (by decide) (pop_j hi6) (b := rg ((i + 5) % 6) 0) (rgA_at hj6) dX2_popInto_43 ?_
  refine k_cvT (wr := [oV sv rr (upd (upd y 0 ((((nI i) + 6) - 1) - (((nI i) + 6) - 1) / 6 * 6)) 1 ((y 1) - 1)), aO cO rr (rgA rg)]) (es2 := [oV sv rr (upd (upd y 0 ((((nI i) + 6) - 1) - (((nI i) + 6) - 1) / 6 * 6)) 1 ((y 1) - 1)), aO cO rr (rgA rg), oS a w1 pa sa (zs ((i + 5) % 6)), aI cI sa 4 12 (zs ((i + 5) % 6)), oW w1 wa (zs ((i + 5) % 6)), aI cI wa 6 19 (zs ((i + 5) % 6)), oP pa ra (zs ((i + 5) % 6)), aI cI ra 200 25 (zs ((i + 5) % 6)), oS (rg ((i + 5) % 6) 0) (rg ((i + 5) % 6) 1) (rg ((i + 5) % 6) 3) (rg ((i + 5) % 6) 5) (zs ((i + 5) % 6)), aI cI (rg ((i + 5) % 6) 5) 4 12 (zs ((i + 5) % 6)), oW (rg ((i + 5) % 6) 1) (rg ((i + 5) % 6) 2) (zs ((i + 5) % 6)), aI cI (rg ((i + 5) % 6) 2) 6 19 (zs ((i + 5) % 6)), oP (rg ((i + 5) % 6) 3) (rg ((i + 5) % 6) 4) (zs ((i + 5) % 6)), aI cI (rg ((i + 5) % 6) 4) 200 25 (zs ((i + 5) % 6))]) (k_runV X w (met_X3_copyFrom l D cI cJ cO a w1 wa pa ra sa z (rg ((i + 5) % 6) 0) (rg ((i + 5) % 6) 1) (rg ((i + 5) % 6) 2) (rg ((i + 5) % 6) 3) (rg ((i + 5) % 6) 4) (rg ((i + 5) % 6) 5) (zs ((i + 5) % 6))  H.size) gX2_popInto_X3_copyFrom rfl rfl rfl 1 hdX3_copyFrom ⟨Nat.le_of_ble_eq_true rfl, Nat.le_of_ble_eq_true rfl⟩ [2, 3, 4, 5, 6, 7, 8, 9, 10, 11, 12, 13] (tl_C rfl) rfl 2 3 rfl rfl rfl rfl hl.1 rfl (Nat.le_of_ble_eq_true rfl) dX2_popInto_44 ⟨Nat.le_of_ble_eq_true rfl, Nat.le_of_ble_eq_true rfl⟩) w hA [2, 3, 4, 5, 6, 7, 8, 9, 10, 11, 12, 13] [0, 1] rfl rfl rfl (by decide) [0, 1, 2, 3, 4, 5, 6, 7, 8, 9, 10, 11, 12, 13] rfl rfl (fun H locs w => ?_)
  have ey : upd (upd y 0 ((((nI i) + 6) - 1) - (((nI i) + 6) - 1) / 6 * 6)) 1 ((y 1) - 1) = popY y := by simp only [popY, rem, hy]
  rw [ey] at w
  have w : wd D A _ _ _ ([oV sv rr (popY y), aO cO rr (rgA rg), oS a w1 pa sa (zs ((i + 5) % 6)), aI cI sa 4 12 (zs ((i + 5) % 6)), oW w1 wa (zs ((i + 5) % 6)), aI cI wa 6 19 (zs ((i + 5) % 6)), oP pa ra (zs ((i + 5) % 6)), aI cI ra 200 25 (zs ((i + 5) % 6))] ++ rgS cI rg zs) := w.perm (List.Perm.append_left [oV sv rr (popY y), aO cO rr (rgA rg), oS a w1 pa sa (zs ((i + 5) % 6)), aI cI sa 4 12 (zs ((i + 5) % 6)), oW w1 wa (zs ((i + 5) % 6)), aI cI wa 6 19 (zs ((i + 5) % 6)), oP pa ra (zs ((i + 5) % 6)), aI cI ra 200 25 (zs ((i + 5) % 6))] (ring_same hj6))
  exact fin _ _ _ _ w dX2_popInto_47
