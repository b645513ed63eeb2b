theorem hdX6_record : yX6_record.cls = RX6 ∧ yX6_record.cls ≠ "java/lang/invoke/MethodHandle" ∧ yX6_record.cls ≠ "java/lang/invoke/VarHandle" ∧ (parseMethodDescriptor yX6_record.desc).map (fun d => d.parameters.length) = some 0 := ⟨rfl, by decide, by decide, by decide +kernel⟩
theorem iX6_record_X6 : ∀ w ∈ wsX60, w ∈ wsX6_record := fun _ h => List.mem_cons_of_mem _ (List.mem_append_right _ h)
set_option maxHeartbeats 4000000 in
set_option maxRecDepth 100000 in
theorem met_X6_record (l : Launch) (D : va_G) (cI cJ cO : ClassId) (ma : Nat) (za : Nat) (aa : Nat) (va : Nat) (ka : Nat) (ta : Nat) (y : Nat → Int32) (z : Nat → Int32) (sd : Nat → Int32) (q : Nat) (hy : y 1 = nI q) (hq : q ≤ 6) : CV l D (TY cI cJ cO) yX6_record wsX6_record ({ frames := 0, cells := 0, slots := 0, locals := 0 }) [.ref ma] [oM ma za aa va ka ta y, aI cI za 225 0 z, aI cI va 1350 0 sd] [oM ma za aa va ka ta (upd y 1 (nI (recN q))), aI cI za 225 0 z, aI cI va 1350 0 (recS sd z q)] := by
  refine CV.of (plainFor_of_name (by decide)) rfl (Nat.le_of_ble_eq_true rfl) (fun p e s m below meth c A ls Q X hA w hl fin => ?_)
  obtain ⟨hx, hb, hml, hown, hts⟩ := id X.1
  have hl : lv_has ls 2 [(0, .ref ma)] := hl
  refine lv_aload_n hx hb dX6_record_0 rfl (lv_at hl 0 rfl) ?_
  refine k_get X w 0 rfl rfl 4 (by decide) rfl iX6_record_X6 (List.mem_of_getElem? (i := 1) rfl) (v := .int (nI q)) (congrArg (fun t => some (Value.int t)) hy) dX6_record_1 ?_
  refine lv_bipush (v := 6) hx hb dX6_record_4 (by decide) ?_
  refine lv_icmp_ne (tgt := 50) hx hb dX6_record_6 (by decide) (fun c1 => ?_) (fun c1 => ?_)
  · have hq5 : q < 6 := nq_lt c1 hq
    refine lv_iconst (v := 0) hx hb dX6_record_50 (by decide) ?_
    refine lv_istore_n (lv' := [(1, .int 0), (0, .ref ma)]) hx hb dX6_record_51 rfl hl (by decide) rfl (fun ls hl => ?_)
    have w := w.to (show [oM ma za aa va ka ta y, aI cI za 225 0 z, aI cI va 1350 0 sd] = [oM ma za aa va ka ta y, aI cI za 225 0 z, aI cI va 1350 0 (cpy sd z (225 * q) 0)] by rw [show aI cI va 1350 0 sd = aI cI va 1350 0 (cpy sd z (225 * q) 0) from congrArg (aI cI va 1350 0) cpy_0.symm])
    have lp52 : ∀ (n : Nat) (i : Nat), i + n = 225 → ∀ (H : Heap) (locs : List Loc) (ls : Array Slot), wd D A s.heap H locs ([oM ma za aa va ka ta y, aI cI za 225 0 z, aI cI va 1350 0 (cpy sd z (225 * q) i)]) → lv_has ls 2 [(1, .int (nI i)), (0, .ref ma)] → W p l e ({ frames := 0, cells := 0, slots := 0, locals := 0 }) s m [.ref ma].toArray below meth c H locs 0 0 Q (F0 m 52 ls []) := by
      intro n
      induction n with
      | zero =>
        intro i hi H locs ls w hl
        refine lv_iload_n hx hb dX6_record_52 rfl (lv_at hl 0 rfl) ?_
        refine lv_sipush (v := 225) hx hb dX6_record_53 (by decide) ?_
        refine lv_icmp_ge (tgt := 86) hx hb dX6_record_56 (by decide) (fun c2 => ?_) (fun c2 => absurd (nI_le (a := 225) (b := i) (by omega) (by omega)) c2)
        have w := w.to (show [oM ma za aa va ka ta y, aI cI za 225 0 z, aI cI va 1350 0 (cpy sd z (225 * q) i)] = [oM ma za aa va ka ta y, aI cI za 225 0 z, aI cI va 1350 0 (cpy sd z (225 * q) 225)] by rw [show aI cI va 1350 0 (cpy sd z (225 * q) i) = aI cI va 1350 0 (cpy sd z (225 * q) 225) from (by rw [show i = 225 by omega])])
        refine lv_aload_n hx hb dX6_record_86 rfl (lv_at hl 1 rfl) ?_
        refine lv_dup hx hb dX6_record_87 rfl ?_
        refine k_get X w 0 rfl rfl 4 (by decide) rfl iX6_record_X6 (List.mem_of_getElem? (i := 1) rfl) (v := .int (nI q)) (congrArg (fun t => some (Value.int t)) hy) dX6_record_88 ?_
        refine lv_iconst (v := 1) hx hb dX6_record_91 (by decide) ?_
        refine lv_iadd hx hb dX6_record_92 ?_
        refine k_put X w 0 rfl rfl 4 (by decide) rfl iX6_record_X6 (List.mem_of_getElem? (i := 1) rfl) tyX6_ok nmX6 rfl rfl (Nat.le_of_ble_eq_true rfl) (ws2 := [oM ma za aa va ka ta (upd y 1 ((nI q) + 1)), aI cI za 225 0 z, aI cI va 1350 0 (cpy sd z (225 * q) 225)]) rfl dX6_record_93 (fun H locs w => ?_)
        have ey : upd y 1 ((nI q) + 1) = upd y 1 (nI (recN q)) := by rw [recN, if_neg (by omega), nI_1]
        rw [ey] at w
        have es : cpy sd z (225 * q) 225 = recS sd z q := (if_neg (by omega)).symm
        rw [es] at w
        exact fin _ _ _ _ w dX6_record_96
      | succ n ih =>
        intro i hi H locs ls w hl
        refine lv_iload_n hx hb dX6_record_52 rfl (lv_at hl 0 rfl) ?_
        refine lv_sipush (v := 225) hx hb dX6_record_53 (by decide) ?_
        refine lv_icmp_ge (tgt := 86) hx hb dX6_record_56 (by decide) (fun c3 => absurd c3 (nI_ge (a := i) (b := 225) (by omega) (by omega))) (fun c3 => ?_)
        refine lv_aload_n hx hb dX6_record_59 rfl (lv_at hl 1 rfl) ?_
        refine k_get X w 0 rfl rfl 3 (by decide) rfl iX6_record_X6 (List.mem_of_getElem? (i := 2) rfl) (v := .ref va) rfl dX6_record_60 ?_
        refine lv_sipush (v := 225) hx hb dX6_record_63 (by decide) ?_
        refine lv_aload_n hx hb dX6_record_66 rfl (lv_at hl 1 rfl) ?_
        refine k_get X w 0 rfl rfl 4 (by decide) rfl iX6_record_X6 (List.mem_of_getElem? (i := 1) rfl) (v := .int (nI q)) (congrArg (fun t => some (Value.int t)) hy) dX6_record_67 ?_
        refine lv_imul hx hb dX6_record_70 ?_
        refine lv_iload_n hx hb dX6_record_71 rfl (lv_at hl 0 rfl) ?_
        refine lv_iadd hx hb dX6_record_72 ?_
        refine lv_aload_n hx hb dX6_record_73 rfl (lv_at hl 1 rfl) ?_
        refine k_get X w 0 rfl rfl 1 (by decide) rfl iX6_record_X6 (List.mem_of_getElem? (i := 3) rfl) (v := .ref za) rfl dX6_record_74 ?_
        refine lv_iload_n hx hb dX6_record_77 rfl (lv_at hl 0 rfl) ?_
        refine k_iald X w 1 0 rfl rfl i (kj := i) (Nat.zero_add _) (by omega) (by decide) rfl (v := z i) rfl dX6_record_78 ?_
        refine k_iast X w 2 0 rfl rfl (225 * q + i) (kj := 225 * q + i) (Nat.zero_add _) (by omega) (by decide) (nI_addp (nI_mulp rfl rfl) rfl) (ws2 := [oM ma za aa va ka ta y, aI cI za 225 0 z, aI cI va 1350 0 (upd (cpy sd z (225 * q) i) (225 * q + i) (z i))]) rfl dX6_record_79 (fun H locs w => ?_)
        have w := w.to (show [oM ma za aa va ka ta y, aI cI za 225 0 z, aI cI va 1350 0 (upd (cpy sd z (225 * q) i) (225 * q + i) (z i))] = [oM ma za aa va ka ta y, aI cI za 225 0 z, aI cI va 1350 0 (cpy sd z (225 * q) (i + 1))] by rw [show aI cI va 1350 0 (upd (cpy sd z (225 * q) i) (225 * q + i) (z i)) = aI cI va 1350 0 (cpy sd z (225 * q) (i + 1)) from congrArg (aI cI va 1350 0) cpy_s])
        refine lv_iinc (v := nI (i + 1)) (lv' := [(1, .int (nI (i + 1))), (0, .ref ma)]) hx hb dX6_record_80 hl (k := 0) rfl (nI_1 _) (by decide) rfl (fun ls hl => ?_)
        refine lv_goto (tgt := 52) hx hb dX6_record_83 (by decide) ?_
        exact ih (i + 1) (by omega) _ _ _ w (lv_sub hl [0, 1] rfl)
    exact lp52 225 0 (Nat.zero_add _) _ _ _ w (lv_sub hl [0, 1] rfl)
  · have hq6 : q = 6 := nq_eq c1 hq
    refine lv_iconst (v := 0) hx hb dX6_record_9 (by decide) ?_
    refine lv_istore_n (lv' := [(1, .int 0), (0, .ref ma)]) hx hb dX6_record_10 rfl hl (by decide) rfl (fun ls hl => ?_)
    have w := w.to (show [oM ma za aa va ka ta y, aI cI za 225 0 z, aI cI va 1350 0 sd] = [oM ma za aa va ka ta y, aI cI za 225 0 z, aI cI va 1350 0 (shn sd 0)] by rw [show aI cI va 1350 0 sd = aI cI va 1350 0 (shn sd 0) from congrArg (aI cI va 1350 0) shn_0.symm])
    have lp11 : ∀ (n : Nat) (i : Nat), i + n = 1125 → ∀ (H : Heap) (locs : List Loc) (ls : Array Slot), wd D A s.heap H locs ([oM ma za aa va ka ta y, aI cI za 225 0 z, aI cI va 1350 0 (shn sd i)]) → lv_has ls 2 [(1, .int (nI i)), (0, .ref ma)] → W p l e ({ frames := 0, cells := 0, slots := 0, locals := 0 }) s m [.ref ma].toArray below meth c H locs 0 0 Q (F0 m 11 ls []) := by
      intro n
      induction n with
      | zero =>
        intro i hi H locs ls w hl
        refine lv_iload_n hx hb dX6_record_11 rfl (lv_at hl 0 rfl) ?_
        refine lv_sipush (v := 1125) hx hb dX6_record_12 (by decide) ?_
        refine lv_icmp_ge (tgt := 40) hx hb dX6_record_15 (by decide) (fun c2 => ?_) (fun c2 => absurd (nI_le (a := 1125) (b := i) (by omega) (by omega)) c2)
        have w := w.to (show [oM ma za aa va ka ta y, aI cI za 225 0 z, aI cI va 1350 0 (shn sd i)] = [oM ma za aa va ka ta y, aI cI za 225 0 z, aI cI va 1350 0 (shn sd 1125)] by rw [show i = 1125 by omega])
        refine lv_aload_n hx hb dX6_record_40 rfl (lv_at hl 1 rfl) ?_
        refine lv_dup hx hb dX6_record_41 rfl ?_
        refine k_get X w 0 rfl rfl 4 (by decide) rfl iX6_record_X6 (List.mem_of_getElem? (i := 1) rfl) (v := .int (nI q)) (congrArg (fun t => some (Value.int t)) hy) dX6_record_42 ?_
        refine lv_iconst (v := 1) hx hb dX6_record_45 (by decide) ?_
        refine lv_isub hx hb dX6_record_46 ?_
        rw [show nI q - 1 = (5 : Int32) by rw [hq6]; decide]
        refine k_put X w 0 rfl rfl 4 (by decide) rfl iX6_record_X6 (List.mem_of_getElem? (i := 1) rfl) tyX6_ok nmX6 rfl rfl (Nat.le_of_ble_eq_true rfl) (ws2 := [oM ma za aa va ka ta (upd y 1 5), aI cI za 225 0 z, aI cI va 1350 0 (shn sd 1125)]) rfl dX6_record_47 (fun H locs w => ?_)
        refine lv_iconst (v := 0) hx hb dX6_record_50 (by decide) ?_
        refine lv_istore_n (lv' := [(1, .int 0), (0, .ref ma)]) hx hb dX6_record_51 rfl hl (by decide) rfl (fun ls hl => ?_)
        have w := w.to (show [oM ma za aa va ka ta (upd y 1 5), aI cI za 225 0 z, aI cI va 1350 0 (shn sd 1125)] = [oM ma za aa va ka ta (upd y 1 5), aI cI za 225 0 z, aI cI va 1350 0 (cpy (shn sd 1125) z (225 * 5) 0)] by rw [show aI cI va 1350 0 (shn sd 1125) = aI cI va 1350 0 (cpy (shn sd 1125) z (225 * 5) 0) from congrArg (aI cI va 1350 0) cpy_0.symm])
        have lp52 : ∀ (n2 : Nat) (i : Nat), i + n2 = 225 → ∀ (H : Heap) (locs : List Loc) (ls : Array Slot), wd D A s.heap H locs ([oM ma za aa va ka ta (upd y 1 5), aI cI za 225 0 z, aI cI va 1350 0 (cpy (shn sd 1125) z (225 * 5) i)]) → lv_has ls 2 [(1, .int (nI i)), (0, .ref ma)] → W p l e ({ frames := 0, cells := 0, slots := 0, locals := 0 }) s m [.ref ma].toArray below meth c H locs 0 0 Q (F0 m 52 ls []) := by
          intro n2
          induction n2 with
          | zero =>
            intro i hi H locs ls w hl
            refine lv_iload_n hx hb dX6_record_52 rfl (lv_at hl 0 rfl) ?_
            refine lv_sipush (v := 225) hx hb dX6_record_53 (by decide) ?_
            refine lv_icmp_ge (tgt := 86) hx hb dX6_record_56 (by decide) (fun c3 => ?_) (fun c3 => absurd (nI_le (a := 225) (b := i) (by omega) (by omega)) c3)
            have w := w.to (show [oM ma za aa va ka ta (upd y 1 5), aI cI za 225 0 z, aI cI va 1350 0 (cpy (shn sd 1125) z (225 * 5) i)] = [oM ma za aa va ka ta (upd y 1 5), aI cI za 225 0 z, aI cI va 1350 0 (cpy (shn sd 1125) z (225 * 5) 225)] by rw [show aI cI va 1350 0 (cpy (shn sd 1125) z (225 * 5) i) = aI cI va 1350 0 (cpy (shn sd 1125) z (225 * 5) 225) from (by rw [show i = 225 by omega])])
            refine lv_aload_n hx hb dX6_record_86 rfl (lv_at hl 1 rfl) ?_
            refine lv_dup hx hb dX6_record_87 rfl ?_
            refine k_get X w 0 rfl rfl 4 (by decide) rfl iX6_record_X6 (List.mem_of_getElem? (i := 1) rfl) (v := .int 5) (congrArg (fun t => some (Value.int t)) (upd_is _ _ _)) dX6_record_88 ?_
            refine lv_iconst (v := 1) hx hb dX6_record_91 (by decide) ?_
            refine lv_iadd hx hb dX6_record_92 ?_
            refine k_put X w 0 rfl rfl 4 (by decide) rfl iX6_record_X6 (List.mem_of_getElem? (i := 1) rfl) tyX6_ok nmX6 rfl rfl (Nat.le_of_ble_eq_true rfl) (ws2 := [oM ma za aa va ka ta (upd (upd y 1 5) 1 (5 + 1)), aI cI za 225 0 z, aI cI va 1350 0 (cpy (shn sd 1125) z (225 * 5) 225)]) rfl dX6_record_93 (fun H locs w => ?_)
            have ey : upd (upd y 1 5) 1 (5 + 1) = upd y 1 (nI (recN q)) := by rw [upd_upd, hq6]; rfl
            rw [ey] at w
            have es : cpy (shn sd 1125) z (225 * 5) 225 = recS sd z q := (if_pos hq6).symm
            rw [es] at w
            exact fin _ _ _ _ w dX6_record_96
          | succ n2 ih2 =>
            intro i hi H locs ls w hl
            refine lv_iload_n hx hb dX6_record_52 rfl (lv_at hl 0 rfl) ?_
            refine lv_sipush (v := 225) hx hb dX6_record_53 (by decide) ?_
            refine lv_icmp_ge (tgt := 86) hx hb dX6_record_56 (by decide) (fun c4 => absurd c4 (nI_ge (a := i) (b := 225) (by omega) (by omega))) (fun c4 => ?_)
            refine lv_aload_n hx hb dX6_record_59 rfl (lv_at hl 1 rfl) ?_
            refine k_get X w 0 rfl rfl 3 (by decide) rfl iX6_record_X6 (List.mem_of_getElem? (i := 2) rfl) (v := .ref va) rfl dX6_record_60 ?_
            refine lv_sipush (v := 225) hx hb dX6_record_63 (by decide) ?_
            refine lv_aload_n hx hb dX6_record_66 rfl (lv_at hl 1 rfl) ?_
            refine k_get X w 0 rfl rfl 4 (by decide) rfl iX6_record_X6 (List.mem_of_getElem? (i := 1) rfl) (v := .int 5) (congrArg (fun t => some (Value.int t)) (upd_is _ _ _)) dX6_record_67 ?_
            refine lv_imul hx hb dX6_record_70 ?_
            refine lv_iload_n hx hb dX6_record_71 rfl (lv_at hl 0 rfl) ?_
            refine lv_iadd hx hb dX6_record_72 ?_
            refine lv_aload_n hx hb dX6_record_73 rfl (lv_at hl 1 rfl) ?_
            refine k_get X w 0 rfl rfl 1 (by decide) rfl iX6_record_X6 (List.mem_of_getElem? (i := 3) rfl) (v := .ref za) rfl dX6_record_74 ?_
            refine lv_iload_n hx hb dX6_record_77 rfl (lv_at hl 0 rfl) ?_
            refine k_iald X w 1 0 rfl rfl i (kj := i) (Nat.zero_add _) (by omega) (by decide) rfl (v := z i) rfl dX6_record_78 ?_
            refine k_iast X w 2 0 rfl rfl (225 * 5 + i) (kj := 225 * 5 + i) (Nat.zero_add _) (by omega) (by decide) (nI_addp (nI_mulp rfl rfl) rfl) (ws2 := [oM ma za aa va ka ta (upd y 1 5), aI cI za 225 0 z, aI cI va 1350 0 (upd (cpy (shn sd 1125) z (225 * 5) i) (225 * 5 + i) (z i))]) rfl dX6_record_79 (fun H locs w => ?_)
            have w := w.to (show [oM ma za aa va ka ta (upd y 1 5), aI cI za 225 0 z, aI cI va 1350 0 (upd (cpy (shn sd 1125) z (225 * 5) i) (225 * 5 + i) (z i))] = [oM ma za aa va ka ta (upd y 1 5), aI cI za 225 0 z, aI cI va 1350 0 (cpy (shn sd 1125) z (225 * 5) (i + 1))] by rw [show aI cI va 1350 0 (upd (cpy (shn sd 1125) z (225 * 5) i) (225 * 5 + i) (z i)) = aI cI va 1350 0 (cpy (shn sd 1125) z (225 * 5) (i + 1)) from congrArg (aI cI va 1350 0) cpy_s])
            refine lv_iinc (v := nI (i + 1)) (lv' := [(1, .int (nI (i + 1))), (0, .ref ma)]) hx hb dX6_record_80 hl (k := 0) rfl (nI_1 _) (by decide) rfl (fun ls hl => ?_)
            refine lv_goto (tgt := 52) hx hb dX6_record_83 (by decide) ?_
            exact ih2 (i + 1) (by omega) _ _ _ w (lv_sub hl [0, 1] rfl)
        exact lp52 225 0 (Nat.zero_add _) _ _ _ w (lv_sub hl [0, 1] rfl)
      | succ n ih =>
        intro i hi H locs ls w hl
        refine lv_iload_n hx hb dX6_record_11 rfl (lv_at hl 0 rfl) ?_
        refine lv_sipush (v := 1125) hx hb dX6_record_12 (by decide) ?_
        refine lv_icmp_ge (tgt := 40) hx hb dX6_record_15 (by decide) (fun c3 => absurd c3 (nI_ge (a := i) (b := 1125) (by omega) (by omega))) (fun c3 => ?_)
        refine lv_aload_n hx hb dX6_record_18 rfl (lv_at hl 1 rfl) ?_
        refine k_get X w 0 rfl rfl 3 (by decide) rfl iX6_record_X6 (List.mem_of_getElem? (i := 2) rfl) (v := .ref va) rfl dX6_record_19 ?_
        refine lv_iload_n hx hb dX6_record_22 rfl (lv_at hl 0 rfl) ?_
        refine lv_aload_n hx hb dX6_record_23 rfl (lv_at hl 1 rfl) ?_
        refine k_get X w 0 rfl rfl 3 (by decide) rfl iX6_record_X6 (List.mem_of_getElem? (i := 2) rfl) (v := .ref va) rfl dX6_record_24 ?_
        refine lv_sipush (v := 225) hx hb dX6_record_27 (by decide) ?_
        refine lv_iload_n hx hb dX6_record_30 rfl (lv_at hl 0 rfl) ?_
        refine lv_iadd hx hb dX6_record_31 ?_
        refine k_iald X w 2 0 rfl rfl (225 + i) (kj := 225 + i) (Nat.zero_add _) (by omega) (by decide) (nI_addp rfl rfl) (v := (shn sd i) (225 + i)) rfl dX6_record_32 ?_
        rw [shn_g]
        refine k_iast X w 2 0 rfl rfl i (kj := i) (Nat.zero_add _) (by omega) (by decide) rfl (ws2 := [oM ma za aa va ka ta y, aI cI za 225 0 z, aI cI va 1350 0 (upd (shn sd i) i (sd (225 + i)))]) rfl dX6_record_33 (fun H locs w => ?_)
        have w := w.to (show [oM ma za aa va ka ta y, aI cI za 225 0 z, aI cI va 1350 0 (upd (shn sd i) i (sd (225 + i)))] = [oM ma za aa va ka ta y, aI cI za 225 0 z, aI cI va 1350 0 (shn sd (i + 1))] by rw [show aI cI va 1350 0 (upd (shn sd i) i (sd (225 + i))) = aI cI va 1350 0 (shn sd (i + 1)) from congrArg (aI cI va 1350 0) shn_s])
        refine lv_iinc (v := nI (i + 1)) (lv' := [(1, .int (nI (i + 1))), (0, .ref ma)]) hx hb dX6_record_34 hl (k := 0) rfl (nI_1 _) (by decide) rfl (fun ls hl => ?_)
        refine lv_goto (tgt := 11) hx hb dX6_record_37 (by decide) ?_
        exact ih (i + 1) (by omega) _ _ _ w (lv_sub hl [0, 1] rfl)
    exact lp11 1125 0 (Nat.zero_add _) _ _ _ w (lv_sub hl [0, 1] rfl)
theorem hdX6_undo : yX6_undo.cls = RX6 ∧ yX6_undo.cls ≠ "java/lang/invoke/MethodHandle" ∧ yX6_undo.cls ≠ "java/lang/invoke/VarHandle" ∧ (parseMethodDescriptor yX6_undo.desc).map (fun d => d.parameters.length) = some 0 := ⟨rfl, by decide, by decide, by decide +kernel⟩
theorem iX6_undo_X6 : ∀ w ∈ wsX60, w ∈ wsX6_undo := fun _ h => List.mem_cons_of_mem _ (List.mem_append_right _ h)
set_option maxHeartbeats 4000000 in
set_option maxRecDepth 100000 in
theorem met_X6_undo (l : Launch) (D : va_G) (cI cJ cO : ClassId) (ma : Nat) (za : Nat) (aa : Nat) (va : Nat) (ka : Nat) (ta : Nat) (y : Nat → Int32) (z : Nat → Int32) (sd : Nat → Int32) (q : Nat) (hy : y 1 = nI (q + 1)) (hq : q < 6) : CI l D (TY cI cJ cO) yX6_undo wsX6_undo ({ frames := 0, cells := 0, slots := 0, locals := 0 }) [.ref ma] [oM ma za aa va ka ta y, aI cI za 225 0 z, aI cI va 1350 0 sd] (nI q) [oM ma za aa va ka ta (upd (upd y 0 0) 1 (nI q)), aI cI za 225 0 (undS sd q), aI cI va 1350 0 sd] := by
  refine CI.of (plainFor_of_name (by decide)) rfl (Nat.le_of_ble_eq_true rfl) (rfl) (fun p e s m below meth c A ls Q X hA w hl fin => ?_)
  obtain ⟨hx, hb, hml, hown, hts⟩ := id X.1
  have hl : lv_has ls 2 [(0, .ref ma)] := hl
  refine lv_aload_n hx hb dX6_undo_0 rfl (lv_at hl 0 rfl) ?_
  refine lv_aload_n hx hb dX6_undo_1 rfl (lv_at hl 0 rfl) ?_
  refine k_get X w 0 rfl rfl 4 (by decide) rfl iX6_undo_X6 (List.mem_of_getElem? (i := 1) rfl) (v := .int (nI (q + 1))) (congrArg (fun t => some (Value.int t)) hy) dX6_undo_2 ?_
  refine lv_if_ne (tgt := 12) hx hb dX6_undo_5 (by decide) (fun c1 => ?_) (fun c1 => absurd c1 (nq_s (by omega)))
  refine lv_iconst (v := 0) hx hb dX6_undo_12 (by decide) ?_
  refine k_put X w 0 rfl rfl 0 (by decide) rfl iX6_undo_X6 (List.mem_of_getElem? (i := 2) rfl) tyX6_ok nmX6 rfl rfl (Nat.le_of_ble_eq_true rfl) (ws2 := [oM ma za aa va ka ta (upd y 0 0), aI cI za 225 0 z, aI cI va 1350 0 sd]) rfl dX6_undo_13 (fun H locs w => ?_)
  refine lv_aload_n hx hb dX6_undo_16 rfl (lv_at hl 0 rfl) ?_
  refine k_get X w 0 rfl rfl 0 (by decide) rfl iX6_undo_X6 (List.mem_of_getElem? (i := 2) rfl) (v := .int 0) (congrArg (fun t => some (Value.int t)) (upd_is _ _ _)) dX6_undo_17 ?_
  refine lv_if_le (tgt := 25) hx hb dX6_undo_20 (by decide) (fun c2 => ?_) (fun c2 => absurd c2 (by decide))
  refine lv_aload_n hx hb dX6_undo_25 rfl (lv_at hl 0 rfl) ?_
  refine lv_dup hx hb dX6_undo_26 rfl ?_
  refine k_get X w 0 rfl rfl 4 (by decide) rfl iX6_undo_X6 (List.mem_of_getElem? (i := 1) rfl) (v := .int (nI (q + 1))) (congrArg (fun t => some (Value.int t)) hy) dX6_undo_27 ?_
  refine lv_iconst (v := 1) hx hb dX6_undo_30 (by decide) ?_
  refine lv_isub hx hb dX6_undo_31 ?_
  rw [nI_pred]
  refine k_put X w 0 rfl rfl 4 (by decide) rfl iX6_undo_X6 (List.mem_of_getElem? (i := 1) rfl) tyX6_ok nmX6 rfl rfl (Nat.le_of_ble_eq_true rfl) (ws2 := [oM ma za aa va ka ta (upd (upd y 0 0) 1 (nI q)), aI cI za 225 0 z, aI cI va 1350 0 sd]) rfl dX6_undo_32 (fun H locs w => ?_)
  refine lv_iconst (v := 0) hx hb dX6_undo_35 (by decide) ?_
  refine lv_istore_n (lv' := [(1, .int 0), (0, .ref ma)]) hx hb dX6_undo_36 rfl hl (by decide) rfl (fun ls hl => ?_)
  have w := w.to (show [oM ma za aa va ka ta (upd (upd y 0 0) 1 (nI q)), aI cI za 225 0 z, aI cI va 1350 0 sd] = [oM ma za aa va ka ta (upd (upd y 0 0) 1 (nI q)), aI cI za 225 0 (cpy z (undS sd q) (0) 0), aI cI va 1350 0 sd] by rw [show aI cI za 225 0 z = aI cI za 225 0 (cpy z (undS sd q) (0) 0) from congrArg (aI cI za 225 0) cpy_0.symm])
  have lp37 : ∀ (n : Nat) (i : Nat), i + n = 225 → ∀ (H : Heap) (locs : List Loc) (ls : Array Slot), wd D A s.heap H locs ([oM ma za aa va ka ta (upd (upd y 0 0) 1 (nI q)), aI cI za 225 0 (cpy z (undS sd q) (0) i), aI cI va 1350 0 sd]) → lv_has ls 2 [(1, .int (nI i)), (0, .ref ma)] → W p l e ({ frames := 0, cells := 0, slots := 0, locals := 0 }) s m [.ref ma].toArray below meth c H locs 0 0 Q (F0 m 37 ls []) := by
    intro n
    induction n with
    | zero =>
      intro i hi H locs ls w hl
      refine lv_iload_n hx hb dX6_undo_37 rfl (lv_at hl 0 rfl) ?_
      refine lv_sipush (v := 225) hx hb dX6_undo_38 (by decide) ?_
      refine lv_icmp_ge (tgt := 71) hx hb dX6_undo_41 (by decide) (fun c3 => ?_) (fun c3 => absurd (nI_le (a := 225) (b := i) (by omega) (by omega)) c3)
      have w := w.to (show [oM ma za aa va ka ta (upd (upd y 0 0) 1 (nI q)), aI cI za 225 0 (cpy z (undS sd q) (0) i), aI cI va 1350 0 sd] = [oM ma za aa va ka ta (upd (upd y 0 0) 1 (nI q)), aI cI za 225 0 (undS sd q), aI cI va 1350 0 sd] by rw [show aI cI za 225 0 (cpy z (undS sd q) (0) i) = aI cI za 225 0 (undS sd q) from cpy_al (by omega)])
      refine lv_aload_n hx hb dX6_undo_71 rfl (lv_at hl 1 rfl) ?_
      refine k_get X w 0 rfl rfl 4 (by decide) rfl iX6_undo_X6 (List.mem_of_getElem? (i := 1) rfl) (v := .int (nI q)) (congrArg (fun t => some (Value.int t)) (upd_is _ _ _)) dX6_undo_72 ?_
      exact fin _ _ _ _ _ w rfl dX6_undo_75
    | succ n ih =>
      intro i hi H locs ls w hl
      refine lv_iload_n hx hb dX6_undo_37 rfl (lv_at hl 0 rfl) ?_
      refine lv_sipush (v := 225) hx hb dX6_undo_38 (by decide) ?_
      refine lv_icmp_ge (tgt := 71) hx hb dX6_undo_41 (by decide) (fun c4 => absurd c4 (nI_ge (a := i) (b := 225) (by omega) (by omega))) (fun c4 => ?_)
      refine lv_aload_n hx hb dX6_undo_44 rfl (lv_at hl 1 rfl) ?_
      refine k_get X w 0 rfl rfl 1 (by decide) rfl iX6_undo_X6 (List.mem_of_getElem? (i := 3) rfl) (v := .ref za) rfl dX6_undo_45 ?_
      refine lv_iload_n hx hb dX6_undo_48 rfl (lv_at hl 0 rfl) ?_
      refine lv_aload_n hx hb dX6_undo_49 rfl (lv_at hl 1 rfl) ?_
      refine k_get X w 0 rfl rfl 3 (by decide) rfl iX6_undo_X6 (List.mem_of_getElem? (i := 4) rfl) (v := .ref va) rfl dX6_undo_50 ?_
      refine lv_sipush (v := 225) hx hb dX6_undo_53 (by decide) ?_
      refine lv_aload_n hx hb dX6_undo_56 rfl (lv_at hl 1 rfl) ?_
      refine k_get X w 0 rfl rfl 4 (by decide) rfl iX6_undo_X6 (List.mem_of_getElem? (i := 1) rfl) (v := .int (nI q)) (congrArg (fun t => some (Value.int t)) (upd_is _ _ _)) dX6_undo_57 ?_
      refine lv_imul hx hb dX6_undo_60 ?_
      refine lv_iload_n hx hb dX6_undo_61 rfl (lv_at hl 0 rfl) ?_
      refine lv_iadd hx hb dX6_undo_62 ?_
      refine k_iald X w 2 0 rfl rfl (225 * q + i) (kj := 225 * q + i) (Nat.zero_add _) (by omega) (by decide) (nI_addp (nI_mulp rfl rfl) rfl) (v := sd (225 * q + i)) rfl dX6_undo_63 ?_
      refine k_iast X w 1 0 rfl rfl i (kj := i) (Nat.zero_add _) (by omega) (by decide) rfl (ws2 := [oM ma za aa va ka ta (upd (upd y 0 0) 1 (nI q)), aI cI za 225 0 (upd (cpy z (undS sd q) (0) i) i (sd (225 * q + i))), aI cI va 1350 0 sd]) rfl dX6_undo_64 (fun H locs w => ?_)
      have w := w.to (show [oM ma za aa va ka ta (upd (upd y 0 0) 1 (nI q)), aI cI za 225 0 (upd (cpy z (undS sd q) (0) i) i (sd (225 * q + i))), aI cI va 1350 0 sd] = [oM ma za aa va ka ta (upd (upd y 0 0) 1 (nI q)), aI cI za 225 0 (cpy z (undS sd q) (0) (i + 1)), aI cI va 1350 0 sd] by rw [show aI cI za 225 0 (upd (cpy z (undS sd q) (0) i) i (sd (225 * q + i))) = aI cI za 225 0 (cpy z (undS sd q) (0) (i + 1)) from congrArg (aI cI za 225 0) cpy_s0])
      refine lv_iinc (v := nI (i + 1)) (lv' := [(1, .int (nI (i + 1))), (0, .ref ma)]) hx hb dX6_undo_65 hl (k := 0) rfl (nI_1 _) (by decide) rfl (fun ls hl => ?_)
      refine lv_goto (tgt := 37) hx hb dX6_undo_68 (by decide) ?_
      exact ih (i + 1) (by omega) _ _ _ w (lv_sub hl [0, 1] rfl)
  exact lp37 225 0 (Nat.zero_add _) _ _ _ w (lv_sub hl [0, 1] rfl)
set_option maxHeartbeats 4000000 in
set_option maxRecDepth 100000 in
theorem met_X6_undo_t (l : Launch) (D : va_G) (cI cJ cO : ClassId) (ma : Nat) (za : Nat) (aa : Nat) (va : Nat) (ka : Nat) (ta : Nat) (y : Nat → Int32) (hy : y 1 = 0) : CI l D (TY cI cJ cO) yX6_undo wsX6_undo ({ frames := 0, cells := 0, slots := 0, locals := 0 }) [.ref ma] [oM ma za aa va ka ta y] 0 [oM ma za aa va ka ta (upd y 0 1)] := by
  refine CI.of (plainFor_of_name (by decide)) rfl (Nat.le_of_ble_eq_true rfl) (rfl) (fun p e s m below meth c A ls Q X hA w hl fin => ?_)
  obtain ⟨hx, hb, hml, hown, hts⟩ := id X.1
  have hl : lv_has ls 2 [(0, .ref ma)] := hl
  refine lv_aload_n hx hb dX6_undo_0 rfl (lv_at hl 0 rfl) ?_
  refine lv_aload_n hx hb dX6_undo_1 rfl (lv_at hl 0 rfl) ?_
  refine k_get X w 0 rfl rfl 4 (by decide) rfl iX6_undo_X6 (List.mem_of_getElem? (i := 1) rfl) (v := .int 0) (congrArg (fun t => some (Value.int t)) hy) dX6_undo_2 ?_
  refine lv_if_ne (tgt := 12) hx hb dX6_undo_5 (by decide) (fun c1 => absurd c1 (by decide)) (fun c1 => ?_)
  refine lv_iconst (v := 1) hx hb dX6_undo_8 (by decide) ?_
  refine lv_goto (tgt := 13) hx hb dX6_undo_9 (by decide) ?_
  refine k_put X w 0 rfl rfl 0 (by decide) rfl iX6_undo_X6 (List.mem_of_getElem? (i := 2) rfl) tyX6_ok nmX6 rfl rfl (Nat.le_of_ble_eq_true rfl) (ws2 := [oM ma za aa va ka ta (upd y 0 1)]) rfl dX6_undo_13 (fun H locs w => ?_)
  refine lv_aload_n hx hb dX6_undo_16 rfl (lv_at hl 0 rfl) ?_
  refine k_get X w 0 rfl rfl 0 (by decide) rfl iX6_undo_X6 (List.mem_of_getElem? (i := 2) rfl) (v := .int 1) (congrArg (fun t => some (Value.int t)) (upd_is _ _ _)) dX6_undo_17 ?_
  refine lv_if_le (tgt := 25) hx hb dX6_undo_20 (by decide) (fun c2 => absurd c2 (by decide)) (fun c2 => ?_)
  refine lv_iconst (v := 0) hx hb dX6_undo_23 (by decide) ?_
  exact fin _ _ _ _ _ w rfl dX6_undo_24
theorem hdX6_keep : yX6_keep.cls = RX6 ∧ yX6_keep.cls ≠ "java/lang/invoke/MethodHandle" ∧ yX6_keep.cls ≠ "java/lang/invoke/VarHandle" ∧ (parseMethodDescriptor yX6_keep.desc).map (fun d => d.parameters.length) = some 0 := ⟨rfl, by decide, by decide, by decide +kernel⟩
theorem iX6_keep_X6 : ∀ w ∈ wsX60, w ∈ wsX6_keep := fun _ h => List.mem_cons_of_mem _ (List.mem_append_right _ h)
set_option maxHeartbeats 4000000 in
set_option maxRecDepth 100000 in
theorem met_X6_keep (l : Launch) (D : va_G) (cI cJ cO : ClassId) (ma : Nat) (za : Nat) (aa : Nat) (va : Nat) (ka : Nat) (ta : Nat) (y : Nat → Int32) (z : Nat → Int32) (kp : Nat → Int32)  : CI l D (TY cI cJ cO) yX6_keep wsX6_keep ({ frames := 0, cells := 0, slots := 0, locals := 0 }) [.ref ma] [oM ma za aa va ka ta y, aI cI za 225 0 z, aI cI ka 225 0 kp] (z 0) [oM ma za aa va ka ta (upd (upd y 0 0) 2 1), aI cI za 225 0 z, aI cI ka 225 0 z] := by
  refine CI.of (plainFor_of_name (by decide)) rfl (Nat.le_of_ble_eq_true rfl) (rfl) (fun p e s m below meth c A ls Q X hA w hl fin => ?_)
  obtain ⟨hx, hb, hml, hown, hts⟩ := id X.1
  have hl : lv_has ls 2 [(0, .ref ma)] := hl
  refine lv_aload_n hx hb dX6_keep_0 rfl (lv_at hl 0 rfl) ?_
  refine lv_iconst (v := 0) hx hb dX6_keep_1 (by decide) ?_
  refine k_put X w 0 rfl rfl 0 (by decide) rfl iX6_keep_X6 (List.mem_of_getElem? (i := 1) rfl) tyX6_ok nmX6 rfl rfl (Nat.le_of_ble_eq_true rfl) (ws2 := [oM ma za aa va ka ta (upd y 0 0), aI cI za 225 0 z, aI cI ka 225 0 kp]) rfl dX6_keep_2 (fun H locs w => ?_)
  refine lv_iconst (v := 0) hx hb dX6_keep_5 (by decide) ?_
  refine lv_istore_n (lv' := [(1, .int 0), (0, .ref ma)]) hx hb dX6_keep_6 rfl hl (by decide) rfl (fun ls hl => ?_)
  have w := w.to (show [oM ma za aa va ka ta (upd y 0 0), aI cI za 225 0 z, aI cI ka 225 0 kp] = [oM ma za aa va ka ta (upd y 0 0), aI cI za 225 0 z, aI cI ka 225 0 (cpy kp z (0) 0)] by rw [show aI cI ka 225 0 kp = aI cI ka 225 0 (cpy kp z (0) 0) from congrArg (aI cI ka 225 0) cpy_0.symm])
  have lp7 : ∀ (n : Nat) (i : Nat), i + n = 225 → ∀ (H : Heap) (locs : List Loc) (ls : Array Slot), wd D A s.heap H locs ([oM ma za aa va ka ta (upd y 0 0), aI cI za 225 0 z, aI cI ka 225 0 (cpy kp z (0) i)]) → lv_has ls 2 [(1, .int (nI i)), (0, .ref ma)] → W p l e ({ frames := 0, cells := 0, slots := 0, locals := 0 }) s m [.ref ma].toArray below meth c H locs 0 0 Q (F0 m 7 ls []) := by
    intro n
    induction n with
    | zero =>
      intro i hi H locs ls w hl
      refine lv_iload_n hx hb dX6_keep_7 rfl (lv_at hl 0 rfl) ?_
      refine lv_sipush (v := 225) hx hb dX6_keep_8 (by decide) ?_
      refine lv_icmp_ge (tgt := 32) hx hb dX6_keep_11 (by decide) (fun c1 => ?_) (fun c1 => absurd (nI_le (a := 225) (b := i) (by omega) (by omega)) c1)
      have w := w.to (show [oM ma za aa va ka ta (upd y 0 0), aI cI za 225 0 z, aI cI ka 225 0 (cpy kp z (0) i)] = [oM ma za aa va ka ta (upd y 0 0), aI cI za 225 0 z, aI cI ka 225 0 z] by rw [show aI cI ka 225 0 (cpy kp z (0) i) = aI cI ka 225 0 z from cpy_al (by omega)])
      refine lv_aload_n hx hb dX6_keep_32 rfl (lv_at hl 1 rfl) ?_
      refine lv_iconst (v := 1) hx hb dX6_keep_33 (by decide) ?_
      refine k_put X w 0 rfl rfl 6 (by decide) rfl iX6_keep_X6 (List.mem_of_getElem? (i := 4) rfl) tyX6_ok nmX6 rfl rfl (Nat.le_of_ble_eq_true rfl) (ws2 := [oM ma za aa va ka ta (upd (upd y 0 0) 2 1), aI cI za 225 0 z, aI cI ka 225 0 z]) rfl dX6_keep_34 (fun H locs w => ?_)
      refine lv_aload_n hx hb dX6_keep_37 rfl (lv_at hl 1 rfl) ?_
      refine k_get X w 0 rfl rfl 1 (by decide) rfl iX6_keep_X6 (List.mem_of_getElem? (i := 3) rfl) (v := .ref za) rfl dX6_keep_38 ?_
      refine lv_iconst (v := 0) hx hb dX6_keep_41 (by decide) ?_
      refine k_iald X w 1 0 rfl rfl 0 (kj := 0) rfl (by decide) (by decide) rfl (v := z 0) rfl dX6_keep_42 ?_
      exact fin _ _ _ _ _ w rfl dX6_keep_43
    | succ n ih =>
      intro i hi H locs ls w hl
      refine lv_iload_n hx hb dX6_keep_7 rfl (lv_at hl 0 rfl) ?_
      refine lv_sipush (v := 225) hx hb dX6_keep_8 (by decide) ?_
      refine lv_icmp_ge (tgt := 32) hx hb dX6_keep_11 (by decide) (fun c2 => absurd c2 (nI_ge (a := i) (b := 225) (by omega) (by omega))) (fun c2 => ?_)
      refine lv_aload_n hx hb dX6_keep_14 rfl (lv_at hl 1 rfl) ?_
      refine k_get X w 0 rfl rfl 5 (by decide) rfl iX6_keep_X6 (List.mem_of_getElem? (i := 2) rfl) (v := .ref ka) rfl dX6_keep_15 ?_
      refine lv_iload_n hx hb dX6_keep_18 rfl (lv_at hl 0 rfl) ?_
      refine lv_aload_n hx hb dX6_keep_19 rfl (lv_at hl 1 rfl) ?_
      refine k_get X w 0 rfl rfl 1 (by decide) rfl iX6_keep_X6 (List.mem_of_getElem? (i := 3) rfl) (v := .ref za) rfl dX6_keep_20 ?_
      refine lv_iload_n hx hb dX6_keep_23 rfl (lv_at hl 0 rfl) ?_
      refine k_iald X w 1 0 rfl rfl i (kj := i) (Nat.zero_add _) (by omega) (by decide) rfl (v := z i) rfl dX6_keep_24 ?_
      refine k_iast X w 2 0 rfl rfl i (kj := i) (Nat.zero_add _) (by omega) (by decide) rfl (ws2 := [oM ma za aa va ka ta (upd y 0 0), aI cI za 225 0 z, aI cI ka 225 0 (upd (cpy kp z (0) i) i (z i))]) rfl dX6_keep_25 (fun H locs w => ?_)
      have w := w.to (show [oM ma za aa va ka ta (upd y 0 0), aI cI za 225 0 z, aI cI ka 225 0 (upd (cpy kp z (0) i) i (z i))] = [oM ma za aa va ka ta (upd y 0 0), aI cI za 225 0 z, aI cI ka 225 0 (cpy kp z (0) (i + 1))] by rw [show aI cI ka 225 0 (upd (cpy kp z (0) i) i (z i)) = aI cI ka 225 0 (cpy kp z (0) (i + 1)) from congrArg (aI cI ka 225 0) cpy_s0])
      refine lv_iinc (v := nI (i + 1)) (lv' := [(1, .int (nI (i + 1))), (0, .ref ma)]) hx hb dX6_keep_26 hl (k := 0) rfl (nI_1 _) (by decide) rfl (fun ls hl => ?_)
      refine lv_goto (tgt := 7) hx hb dX6_keep_29 (by decide) ?_
      exact ih (i + 1) (by omega) _ _ _ w (lv_sub hl [0, 1] rfl)
  exact lp7 225 0 (Nat.zero_add _) _ _ _ w (lv_sub hl [0, 1] rfl)
theorem hdX6_restore : yX6_restore.cls = RX6 ∧ yX6_restore.cls ≠ "java/lang/invoke/MethodHandle" ∧ yX6_restore.cls ≠ "java/lang/invoke/VarHandle" ∧ (parseMethodDescriptor yX6_restore.desc).map (fun d => d.parameters.length) = some 0 := ⟨rfl, by decide, by decide, by decide +kernel⟩
theorem iX6_restore_X6 : ∀ w ∈ wsX60, w ∈ wsX6_restore := fun _ h => List.mem_cons_of_mem _ (List.mem_append_right _ h)
set_option maxHeartbeats 4000000 in
set_option maxRecDepth 100000 in
theorem met_X6_restore (l : Launch) (D : va_G) (cI cJ cO : ClassId) (ma : Nat) (za : Nat) (aa : Nat) (va : Nat) (ka : Nat) (ta : Nat) (y : Nat → Int32) (z : Nat → Int32) (sd : Nat → Int32) (q : Nat) (kp : Nat → Int32) (hy : y 1 = nI q) (hq : q ≤ 6) (hkp : y 2 = 1) : CI l D (TY cI cJ cO) yX6_restore wsX6_restore ({ frames := 1, cells := 0, slots := 0, locals := 21 }) [.ref ma] [oM ma za aa va ka ta y, aI cI za 225 0 z, aI cI va 1350 0 sd, aI cI ka 225 0 kp] (kp 0) [oM ma za aa va ka ta (upd (upd y 0 0) 1 (nI (recN q))), aI cI za 225 0 kp, aI cI va 1350 0 (recS sd z q), aI cI ka 225 0 kp] := by
  refine CI.of (plainFor_of_name (by decide)) rfl (Nat.le_of_ble_eq_true rfl) (rfl) (fun p e s m below meth c A ls Q X hA w hl fin => ?_)
  obtain ⟨hx, hb, hml, hown, hts⟩ := id X.1
  have hl : lv_has ls 2 [(0, .ref ma)] := hl
  refine lv_aload_n hx hb dX6_restore_0 rfl (lv_at hl 0 rfl) ?_
  refine lv_aload_n hx hb dX6_restore_1 rfl (lv_at hl 0 rfl) ?_
  refine k_get X w 0 rfl rfl 6 (by decide) rfl iX6_restore_X6 (List.mem_of_getElem? (i := 1) rfl) (v := .int 1) (congrArg (fun t => some (Value.int t)) hkp) dX6_restore_2 ?_
  refine lv_if_eq (tgt := 12) hx hb dX6_restore_5 (by decide) (fun c1 => absurd c1 (by decide)) (fun c1 => ?_)
  refine lv_iconst (v := 0) hx hb dX6_restore_8 (by decide) ?_
  refine lv_goto (tgt := 13) hx hb dX6_restore_9 (by decide) ?_
  refine k_put X w 0 rfl rfl 0 (by decide) rfl iX6_restore_X6 (List.mem_of_getElem? (i := 2) rfl) tyX6_ok nmX6 rfl rfl (Nat.le_of_ble_eq_true rfl) (ws2 := [oM ma za aa va ka ta (upd y 0 0), aI cI za 225 0 z, aI cI va 1350 0 sd, aI cI ka 225 0 kp]) rfl dX6_restore_13 (fun H locs w => ?_)
  refine lv_aload_n hx hb dX6_restore_16 rfl (lv_at hl 0 rfl) ?_
  refine k_get X w 0 rfl rfl 0 (by decide) rfl iX6_restore_X6 (List.mem_of_getElem? (i := 2) rfl) (v := .int 0) (congrArg (fun t => some (Value.int t)) (upd_is _ _ _)) dX6_restore_17 ?_
  refine lv_if_le (tgt := 25) hx hb dX6_restore_20 (by decide) (fun c2 => ?_) (fun c2 => absurd c2 (by decide))
  refine lv_aload_n hx hb dX6_restore_25 rfl (lv_at hl 0 rfl) ?_
  refine k_cv (wr := [aI cI ka 225 0 kp]) (ws2 := [oM ma za aa va ka ta (upd (upd y 0 0) 1 (nI (recN q))), aI cI za 225 0 z, aI cI va 1350 0 (recS sd z q), aI cI ka 225 0 kp]) (k_runV X w (met_X6_record l D cI cJ cO ma za aa va ka ta (upd y 0 0) z sd q ((upd_no (by decide)).trans hy) hq H.size) gX6_restore_X6_record rfl rfl rfl 0 hdX6_record ⟨Nat.le_of_ble_eq_true rfl, Nat.le_of_ble_eq_true rfl⟩ [0, 1, 2] rfl rfl 0 6 rfl rfl rfl rfl hl.1 rfl (Nat.le_of_ble_eq_true rfl) dX6_restore_26 ⟨Nat.le_of_ble_eq_true rfl, Nat.le_of_ble_eq_true rfl⟩) w hA [0, 1, 2] [3] rfl rfl rfl (by decide) [1, 2, 3, 0] rfl rfl (fun H locs w => ?_)
  refine lv_iconst (v := 0) hx hb dX6_restore_29 (by decide) ?_
  refine lv_istore_n (lv' := [(1, .int 0), (0, .ref ma)]) hx hb dX6_restore_30 rfl hl (by decide) rfl (fun ls hl => ?_)
  have w := w.to (show [oM ma za aa va ka ta (upd (upd y 0 0) 1 (nI (recN q))), aI cI za 225 0 z, aI cI va 1350 0 (recS sd z q), aI cI ka 225 0 kp] = [oM ma za aa va ka ta (upd (upd y 0 0) 1 (nI (recN q))), aI cI za 225 0 (cpy z kp (0) 0), aI cI va 1350 0 (recS sd z q), aI cI ka 225 0 kp] by rw [show aI cI za 225 0 z = aI cI za 225 0 (cpy z kp (0) 0) from congrArg (aI cI za 225 0) cpy_0.symm])
  have lp31 : ∀ (n : Nat) (i : Nat), i + n = 225 → ∀ (H : Heap) (locs : List Loc) (ls : Array Slot), wd D A s.heap H locs ([oM ma za aa va ka ta (upd (upd y 0 0) 1 (nI (recN q))), aI cI za 225 0 (cpy z kp (0) i), aI cI va 1350 0 (recS sd z q), aI cI ka 225 0 kp]) → lv_has ls 2 [(1, .int (nI i)), (0, .ref ma)] → W p l e ({ frames := 1, cells := 0, slots := 0, locals := 21 }) s m [.ref ma].toArray below meth c H locs 0 0 Q (F0 m 31 ls []) := by
    intro n
    induction n with
    | zero =>
      intro i hi H locs ls w hl
      refine lv_iload_n hx hb dX6_restore_31 rfl (lv_at hl 0 rfl) ?_
      refine lv_sipush (v := 225) hx hb dX6_restore_32 (by decide) ?_
      refine lv_icmp_ge (tgt := 56) hx hb dX6_restore_35 (by decide) (fun c3 => ?_) (fun c3 => absurd (nI_le (a := 225) (b := i) (by omega) (by omega)) c3)
      have w := w.to (show [oM ma za aa va ka ta (upd (upd y 0 0) 1 (nI (recN q))), aI cI za 225 0 (cpy z kp (0) i), aI cI va 1350 0 (recS sd z q), aI cI ka 225 0 kp] = [oM ma za aa va ka ta (upd (upd y 0 0) 1 (nI (recN q))), aI cI za 225 0 kp, aI cI va 1350 0 (recS sd z q), aI cI ka 225 0 kp] by rw [show aI cI za 225 0 (cpy z kp (0) i) = aI cI za 225 0 kp from cpy_al (by omega)])
      refine lv_aload_n hx hb dX6_restore_56 rfl (lv_at hl 1 rfl) ?_
      refine k_get X w 0 rfl rfl 1 (by decide) rfl iX6_restore_X6 (List.mem_of_getElem? (i := 3) rfl) (v := .ref za) rfl dX6_restore_57 ?_
      refine lv_iconst (v := 0) hx hb dX6_restore_60 (by decide) ?_
      refine k_iald X w 1 0 rfl rfl 0 (kj := 0) rfl (by decide) (by decide) rfl (v := kp 0) rfl dX6_restore_61 ?_
      exact fin _ _ _ _ _ w rfl dX6_restore_62
    | succ n ih =>
      intro i hi H locs ls w hl
      refine lv_iload_n hx hb dX6_restore_31 rfl (lv_at hl 0 rfl) ?_
      refine lv_sipush (v := 225) hx hb dX6_restore_32 (by decide) ?_
      refine lv_icmp_ge (tgt := 56) hx hb dX6_restore_35 (by decide) (fun c4 => absurd c4 (nI_ge (a := i) (b := 225) (by omega) (by omega))) (fun c4 => ?_)
      refine lv_aload_n hx hb dX6_restore_38 rfl (lv_at hl 1 rfl) ?_
      refine k_get X w 0 rfl rfl 1 (by decide) rfl iX6_restore_X6 (List.mem_of_getElem? (i := 3) rfl) (v := .ref za) rfl dX6_restore_39 ?_
      refine lv_iload_n hx hb dX6_restore_42 rfl (lv_at hl 0 rfl) ?_
      refine lv_aload_n hx hb dX6_restore_43 rfl (lv_at hl 1 rfl) ?_
      refine k_get X w 0 rfl rfl 5 (by decide) rfl iX6_restore_X6 (List.mem_of_getElem? (i := 4) rfl) (v := .ref ka) rfl dX6_restore_44 ?_
      refine lv_iload_n hx hb dX6_restore_47 rfl (lv_at hl 0 rfl) ?_
      refine k_iald X w 3 0 rfl rfl i (kj := i) (Nat.zero_add _) (by omega) (by decide) rfl (v := kp i) rfl dX6_restore_48 ?_
      refine k_iast X w 1 0 rfl rfl i (kj := i) (Nat.zero_add _) (by omega) (by decide) rfl (ws2 := [oM ma za aa va ka ta (upd (upd y 0 0) 1 (nI (recN q))), aI cI za 225 0 (upd (cpy z kp (0) i) i (kp i)), aI cI va 1350 0 (recS sd z q), aI cI ka 225 0 kp]) rfl dX6_restore_49 (fun H locs w => ?_)
      have w := w.to (show [oM ma za aa va ka ta (upd (upd y 0 0) 1 (nI (recN q))), aI cI za 225 0 (upd (cpy z kp (0) i) i (kp i)), aI cI va 1350 0 (recS sd z q), aI cI ka 225 0 kp] = [oM ma za aa va ka ta (upd (upd y 0 0) 1 (nI (recN q))), aI cI za 225 0 (cpy z kp (0) (i + 1)), aI cI va 1350 0 (recS sd z q), aI cI ka 225 0 kp] by rw [show aI cI za 225 0 (upd (cpy z kp (0) i) i (kp i)) = aI cI za 225 0 (cpy z kp (0) (i + 1)) from congrArg (aI cI za 225 0) cpy_s0])
      refine lv_iinc (v := nI (i + 1)) (lv' := [(1, .int (nI (i + 1))), (0, .ref ma)]) hx hb dX6_restore_50 hl (k := 0) rfl (nI_1 _) (by decide) rfl (fun ls hl => ?_)
      refine lv_goto (tgt := 31) hx hb dX6_restore_53 (by decide) ?_
      exact ih (i + 1) (by omega) _ _ _ w (lv_sub hl [0, 1] rfl)
  exact lp31 225 0 (Nat.zero_add _) _ _ _ w (lv_sub hl [0, 1] rfl)
set_option maxHeartbeats 4000000 in
set_option maxRecDepth 100000 in
theorem met_X6_restore_t (l : Launch) (D : va_G) (cI cJ cO : ClassId) (ma : Nat) (za : Nat) (aa : Nat) (va : Nat) (ka : Nat) (ta : Nat) (y : Nat → Int32) (hkp : y 2 = 0) : CI l D (TY cI cJ cO) yX6_restore wsX6_restore ({ frames := 0, cells := 0, slots := 0, locals := 0 }) [.ref ma] [oM ma za aa va ka ta y] 0 [oM ma za aa va ka ta (upd y 0 1)] := by
  refine CI.of (plainFor_of_name (by decide)) rfl (Nat.le_of_ble_eq_true rfl) (rfl) (fun p e s m below meth c A ls Q X hA w hl fin => ?_)
  obtain ⟨hx, hb, hml, hown, hts⟩ := id X.1
  have hl : lv_has ls 2 [(0, .ref ma)] := hl
  refine lv_aload_n hx hb dX6_restore_0 rfl (lv_at hl 0 rfl) ?_
  refine lv_aload_n hx hb dX6_restore_1 rfl (lv_at hl 0 rfl) ?_
  refine k_get X w 0 rfl rfl 6 (by decide) rfl iX6_restore_X6 (List.mem_of_getElem? (i := 1) rfl) (v := .int 0) (congrArg (fun t => some (Value.int t)) hkp) dX6_restore_2 ?_
  refine lv_if_eq (tgt := 12) hx hb dX6_restore_5 (by decide) (fun c1 => ?_) (fun c1 => absurd c1 (by decide))
  refine lv_iconst (v := 1) hx hb dX6_restore_12 (by decide) ?_
  refine k_put X w 0 rfl rfl 0 (by decide) rfl iX6_restore_X6 (List.mem_of_getElem? (i := 2) rfl) tyX6_ok nmX6 rfl rfl (Nat.le_of_ble_eq_true rfl) (ws2 := [oM ma za aa va ka ta (upd y 0 1)]) rfl dX6_restore_13 (fun H locs w => ?_)
  refine lv_aload_n hx hb dX6_restore_16 rfl (lv_at hl 0 rfl) ?_
  refine k_get X w 0 rfl rfl 0 (by decide) rfl iX6_restore_X6 (List.mem_of_getElem? (i := 2) rfl) (v := .int 1) (congrArg (fun t => some (Value.int t)) (upd_is _ _ _)) dX6_restore_17 ?_
  refine lv_if_le (tgt := 25) hx hb dX6_restore_20 (by decide) (fun c2 => absurd c2 (by decide)) (fun c2 => ?_)
  refine lv_iconst (v := 0) hx hb dX6_restore_23 (by decide) ?_
  exact fin _ _ _ _ _ w rfl dX6_restore_24
theorem hdX6_wind : yX6_wind.cls = RX6 ∧ yX6_wind.cls ≠ "java/lang/invoke/MethodHandle" ∧ yX6_wind.cls ≠ "java/lang/invoke/VarHandle" ∧ (parseMethodDescriptor yX6_wind.desc).map (fun d => d.parameters.length) = some 1 := ⟨rfl, by decide, by decide, by decide +kernel⟩
theorem iX6_wind_X6 : ∀ w ∈ wsX60, w ∈ wsX6_wind := fun _ h => List.mem_cons_of_mem _ (List.mem_append_right _ h)
set_option maxHeartbeats 4000000 in
set_option maxRecDepth 100000 in
theorem met_X6_wind (l : Launch) (D : va_G) (cI cJ cO : ClassId) (ma : Nat) (za : Nat) (aa : Nat) (va : Nat) (ka : Nat) (ta : Nat) (y : Nat → Int32) (z : Nat → Int32) (sd : Nat → Int32) (q : Nat) (x : Int32) (hy : y 1 = nI q) (hq : q ≤ 6) (hin : inR x 1 48) : CI l D (TY cI cJ cO) yX6_wind wsX6_wind ({ frames := 2, cells := 0, slots := 0, locals := 42 }) [.ref ma, .int x] [oM ma za aa va ka ta y, aI cI za 225 0 z, aI cI va 1350 0 sd] (mn48 (z 1 + x)) [oM ma za aa va ka ta (upd (upd y 0 0) 1 (nI (recN q))), aI cI za 225 0 (upd z 1 (mn48 (z 1 + x))), aI cI va 1350 0 (recS sd z q)] := by
  refine CI.of (plainFor_of_name (by decide)) rfl (Nat.le_of_ble_eq_true rfl) (rfl) (fun p e s m below meth c A ls Q X hA w hl fin => ?_)
  obtain ⟨hx, hb, hml, hown, hts⟩ := id X.1
  have hl : lv_has ls 2 [(0, .ref ma), (1, .int x)] := hl
  refine lv_aload_n hx hb dX6_wind_0 rfl (lv_at hl 0 rfl) ?_
  refine lv_iload_n hx hb dX6_wind_1 rfl (lv_at hl 1 rfl) ?_
  refine lv_iconst (v := 1) hx hb dX6_wind_2 (by decide) ?_
  refine lv_bipush (v := 48) hx hb dX6_wind_3 (by decide) ?_
  refine k_ciR (k_runS X w (met_X6_in l D cI cJ cO x 1 48  s.heap.size) gX6_wind_X6_in rfl rfl rfl 3 hdX6_in ⟨Nat.le_of_ble_eq_true rfl, Nat.le_of_ble_eq_true rfl⟩ [] rfl rfl rfl hl.1 rfl (Nat.le_of_ble_eq_true rfl) dX6_wind_5 ⟨Nat.le_of_ble_eq_true rfl, Nat.le_of_ble_eq_true rfl⟩) w hA [] rfl (fun H locs w => ?_)
  refine lv_if_eq (tgt := 15) hx hb dX6_wind_8 (by decide) (fun c1 => absurd c1 (inB_y hin)) (fun c1 => ?_)
  refine lv_iconst (v := 0) hx hb dX6_wind_11 (by decide) ?_
  refine lv_goto (tgt := 16) hx hb dX6_wind_12 (by decide) ?_
  refine k_put X w 0 rfl rfl 0 (by decide) rfl iX6_wind_X6 (List.mem_of_getElem? (i := 1) rfl) tyX6_ok nmX6 rfl rfl (Nat.le_of_ble_eq_true rfl) (ws2 := [oM ma za aa va ka ta (upd y 0 0), aI cI za 225 0 z, aI cI va 1350 0 sd]) rfl dX6_wind_16 (fun H locs w => ?_)
  refine lv_aload_n hx hb dX6_wind_19 rfl (lv_at hl 0 rfl) ?_
  refine k_get X w 0 rfl rfl 0 (by decide) rfl iX6_wind_X6 (List.mem_of_getElem? (i := 1) rfl) (v := .int 0) (congrArg (fun t => some (Value.int t)) (upd_is _ _ _)) dX6_wind_20 ?_
  refine lv_if_le (tgt := 28) hx hb dX6_wind_23 (by decide) (fun c2 => ?_) (fun c2 => absurd c2 (by decide))
  refine lv_aload_n hx hb dX6_wind_28 rfl (lv_at hl 0 rfl) ?_
  refine k_cv (wr := []) (ws2 := [oM ma za aa va ka ta (upd (upd y 0 0) 1 (nI (recN q))), aI cI za 225 0 z, aI cI va 1350 0 (recS sd z q)]) (k_runV X w (met_X6_record l D cI cJ cO ma za aa va ka ta (upd y 0 0) z sd q ((upd_no (by decide)).trans hy) hq H.size) gX6_wind_X6_record rfl rfl rfl 0 hdX6_record ⟨Nat.le_of_ble_eq_true rfl, Nat.le_of_ble_eq_true rfl⟩ [0, 1, 2] rfl rfl 0 6 rfl rfl rfl rfl hl.1 rfl (Nat.le_of_ble_eq_true rfl) dX6_wind_29 ⟨Nat.le_of_ble_eq_true rfl, Nat.le_of_ble_eq_true rfl⟩) w hA [0, 1, 2] [] rfl rfl rfl (by decide) [0, 1, 2] rfl rfl (fun H locs w => ?_)
  refine lv_aload_n hx hb dX6_wind_32 rfl (lv_at hl 0 rfl) ?_
  refine lv_iload_n hx hb dX6_wind_33 rfl (lv_at hl 1 rfl) ?_
  refine k_ci (wr := [aI cI va 1350 0 (recS sd z q)]) (ws2 := [oM ma za aa va ka ta (upd (upd y 0 0) 1 (nI (recN q))), aI cI za 225 0 (upd z 1 (mn48 (z 1 + x))), aI cI va 1350 0 (recS sd z q)]) (k_runV X w (met_X6_doWind l D cI cJ cO ma za aa va ka ta (upd (upd y 0 0) 1 (nI (recN q))) z x  H.size) gX6_wind_X6_doWind rfl rfl rfl 1 hdX6_doWind ⟨Nat.le_of_ble_eq_true rfl, Nat.le_of_ble_eq_true rfl⟩ [0, 1] rfl rfl 0 6 rfl rfl rfl rfl hl.1 rfl (Nat.le_of_ble_eq_true rfl) dX6_wind_34 ⟨Nat.le_of_ble_eq_true rfl, Nat.le_of_ble_eq_true rfl⟩) w hA [0, 1] [2] rfl rfl rfl (by decide) [1, 2, 0] rfl rfl (fun H locs w => ?_)
  exact fin _ _ _ _ _ w rfl dX6_wind_37
set_option maxHeartbeats 4000000 in
set_option maxRecDepth 100000 in
theorem met_X6_wind_t (l : Launch) (D : va_G) (cI cJ cO : ClassId) (ma : Nat) (za : Nat) (aa : Nat) (va : Nat) (ka : Nat) (ta : Nat) (y : Nat → Int32) (x : Int32) (hin : ¬ inR x 1 48) : CI l D (TY cI cJ cO) yX6_wind wsX6_wind ({ frames := 1, cells := 0, slots := 0, locals := 22 }) [.ref ma, .int x] [oM ma za aa va ka ta y] 0 [oM ma za aa va ka ta (upd y 0 1)] := by
  refine CI.of (plainFor_of_name (by decide)) rfl (Nat.le_of_ble_eq_true rfl) (rfl) (fun p e s m below meth c A ls Q X hA w hl fin => ?_)
  obtain ⟨hx, hb, hml, hown, hts⟩ := id X.1
  have hl : lv_has ls 2 [(0, .ref ma), (1, .int x)] := hl
  refine lv_aload_n hx hb dX6_wind_0 rfl (lv_at hl 0 rfl) ?_
  refine lv_iload_n hx hb dX6_wind_1 rfl (lv_at hl 1 rfl) ?_
  refine lv_iconst (v := 1) hx hb dX6_wind_2 (by decide) ?_
  refine lv_bipush (v := 48) hx hb dX6_wind_3 (by decide) ?_
  refine k_ciR (k_runS X w (met_X6_in l D cI cJ cO x 1 48  s.heap.size) gX6_wind_X6_in rfl rfl rfl 3 hdX6_in ⟨Nat.le_of_ble_eq_true rfl, Nat.le_of_ble_eq_true rfl⟩ [] rfl rfl rfl hl.1 rfl (Nat.le_of_ble_eq_true rfl) dX6_wind_5 ⟨Nat.le_of_ble_eq_true rfl, Nat.le_of_ble_eq_true rfl⟩) w hA [] rfl (fun H locs w => ?_)
  refine lv_if_eq (tgt := 15) hx hb dX6_wind_8 (by decide) (fun c1 => ?_) (fun c1 => absurd (inB_n hin) c1)
  refine lv_iconst (v := 1) hx hb dX6_wind_15 (by decide) ?_
  refine k_put X w 0 rfl rfl 0 (by decide) rfl iX6_wind_X6 (List.mem_of_getElem? (i := 1) rfl) tyX6_ok nmX6 rfl rfl (Nat.le_of_ble_eq_true rfl) (ws2 := [oM ma za aa va ka ta (upd y 0 1)]) rfl dX6_wind_16 (fun H locs w => ?_)
  refine lv_aload_n hx hb dX6_wind_19 rfl (lv_at hl 0 rfl) ?_
  refine k_get X w 0 rfl rfl 0 (by decide) rfl iX6_wind_X6 (List.mem_of_getElem? (i := 1) rfl) (v := .int 1) (congrArg (fun t => some (Value.int t)) (upd_is _ _ _)) dX6_wind_20 ?_
  refine lv_if_le (tgt := 28) hx hb dX6_wind_23 (by decide) (fun c2 => absurd c2 (by decide)) (fun c2 => ?_)
  refine lv_iconst (v := 0) hx hb dX6_wind_26 (by decide) ?_
  exact fin _ _ _ _ _ w rfl dX6_wind_27
theorem hdX6_weigh : yX6_weigh.cls = RX6 ∧ yX6_weigh.cls ≠ "java/lang/invoke/MethodHandle" ∧ yX6_weigh.cls ≠ "java/lang/invoke/VarHandle" ∧ (parseMethodDescriptor yX6_weigh.desc).map (fun d => d.parameters.length) = some 2 := ⟨rfl, by decide, by decide, by decide +kernel⟩
theorem iX6_weigh_X6 : ∀ w ∈ wsX60, w ∈ wsX6_weigh := fun _ h => List.mem_cons_of_mem _ (List.mem_append_right _ h)
set_option maxHeartbeats 4000000 in
set_option maxRecDepth 100000 in
theorem met_X6_weigh (l : Launch) (D : va_G) (cI cJ cO : ClassId) (ma : Nat) (za : Nat) (aa : Nat) (va : Nat) (ka : Nat) (ta : Nat) (y : Nat → Int32) (z : Nat → Int32) (sd : Nat → Int32) (q : Nat) (k : Nat) (x : Int32) (hy : y 1 = nI q) (hq : q ≤ 6) (hk : k < 6) (hin : inR x (-60) 60) : CI l D (TY cI cJ cO) yX6_weigh wsX6_weigh ({ frames := 2, cells := 0, slots := 0, locals := 42 }) [.ref ma, .int (nI k), .int x] [oM ma za aa va ka ta y, aI cI za 225 0 z, aI cI va 1350 0 sd] (z (19 + k) + 100) [oM ma za aa va ka ta (upd (upd y 0 0) 1 (nI (recN q))), aI cI za 225 0 (upd z (19 + k) x), aI cI va 1350 0 (recS sd z q)] := by
  refine CI.of (plainFor_of_name (by decide)) rfl (Nat.le_of_ble_eq_true rfl) (rfl) (fun p e s m below meth c A ls Q X hA w hl fin => ?_)
  obtain ⟨hx, hb, hml, hown, hts⟩ := id X.1
  have hl : lv_has ls 4 [(0, .ref ma), (1, .int (nI k)), (2, .int x)] := hl
  refine lv_aload_n hx hb dX6_weigh_0 rfl (lv_at hl 0 rfl) ?_
  refine lv_iload_n hx hb dX6_weigh_1 rfl (lv_at hl 1 rfl) ?_
  refine k_ciR (k_runS X w (met_X6_isPose l D cI cJ cO (nI k)  s.heap.size) gX6_weigh_X6_isPose rfl rfl rfl 1 hdX6_isPose ⟨Nat.le_of_ble_eq_true rfl, Nat.le_of_ble_eq_true rfl⟩ [] rfl rfl rfl hl.1 rfl (Nat.le_of_ble_eq_true rfl) dX6_weigh_2 ⟨Nat.le_of_ble_eq_true rfl, Nat.le_of_ble_eq_true rfl⟩) w hA [] rfl (fun H locs w => ?_)
  refine lv_if_ne (tgt := 12) hx hb dX6_weigh_5 (by decide) (fun c1 => ?_) (fun c1 => absurd c1 (in5 hk))
  refine lv_iload_n hx hb dX6_weigh_12 rfl (lv_at hl 2 rfl) ?_
  refine lv_bipush (v := (-60)) hx hb dX6_weigh_13 (by decide) ?_
  refine lv_bipush (v := 60) hx hb dX6_weigh_15 (by decide) ?_
  refine k_ciR (k_runS X w (met_X6_in l D cI cJ cO x (-60) 60  H.size) gX6_weigh_X6_in rfl rfl rfl 3 hdX6_in ⟨Nat.le_of_ble_eq_true rfl, Nat.le_of_ble_eq_true rfl⟩ [] rfl rfl rfl hl.1 rfl (Nat.le_of_ble_eq_true rfl) dX6_weigh_17 ⟨Nat.le_of_ble_eq_true rfl, Nat.le_of_ble_eq_true rfl⟩) w hA [] rfl (fun H locs w => ?_)
  refine lv_if_eq (tgt := 27) hx hb dX6_weigh_20 (by decide) (fun c2 => absurd c2 (inB_y hin)) (fun c2 => ?_)
  refine lv_iconst (v := 0) hx hb dX6_weigh_23 (by decide) ?_
  refine lv_goto (tgt := 28) hx hb dX6_weigh_24 (by decide) ?_
  refine k_put X w 0 rfl rfl 0 (by decide) rfl iX6_weigh_X6 (List.mem_of_getElem? (i := 1) rfl) tyX6_ok nmX6 rfl rfl (Nat.le_of_ble_eq_true rfl) (ws2 := [oM ma za aa va ka ta (upd y 0 0), aI cI za 225 0 z, aI cI va 1350 0 sd]) rfl dX6_weigh_28 (fun H locs w => ?_)
  refine lv_aload_n hx hb dX6_weigh_31 rfl (lv_at hl 0 rfl) ?_
  refine k_get X w 0 rfl rfl 0 (by decide) rfl iX6_weigh_X6 (List.mem_of_getElem? (i := 1) rfl) (v := .int 0) (congrArg (fun t => some (Value.int t)) (upd_is _ _ _)) dX6_weigh_32 ?_
  refine lv_if_le (tgt := 40) hx hb dX6_weigh_35 (by decide) (fun c3 => ?_) (fun c3 => absurd c3 (by decide))
  refine lv_aload_n hx hb dX6_weigh_40 rfl (lv_at hl 0 rfl) ?_
  refine k_cv (wr := []) (ws2 := [oM ma za aa va ka ta (upd (upd y 0 0) 1 (nI (recN q))), aI cI za 225 0 z, aI cI va 1350 0 (recS sd z q)]) (k_runV X w (met_X6_record l D cI cJ cO ma za aa va ka ta (upd y 0 0) z sd q ((upd_no (by decide)).trans hy) hq H.size) gX6_weigh_X6_record rfl rfl rfl 0 hdX6_record ⟨Nat.le_of_ble_eq_true rfl, Nat.le_of_ble_eq_true rfl⟩ [0, 1, 2] rfl rfl 0 6 rfl rfl rfl rfl hl.1 rfl (Nat.le_of_ble_eq_true rfl) dX6_weigh_41 ⟨Nat.le_of_ble_eq_true rfl, Nat.le_of_ble_eq_true rfl⟩) w hA [0, 1, 2] [] rfl rfl rfl (by decide) [0, 1, 2] rfl rfl (fun H locs w => ?_)
  refine lv_aload_n hx hb dX6_weigh_44 rfl (lv_at hl 0 rfl) ?_
  refine k_get X w 0 rfl rfl 1 (by decide) rfl iX6_weigh_X6 (List.mem_of_getElem? (i := 2) rfl) (v := .ref za) rfl dX6_weigh_45 ?_
  refine lv_bipush (v := 19) hx hb dX6_weigh_48 (by decide) ?_
  refine lv_iload_n hx hb dX6_weigh_50 rfl (lv_at hl 1 rfl) ?_
  refine lv_iadd hx hb dX6_weigh_51 ?_
  refine k_iald X w 1 0 rfl rfl (19 + k) (kj := 19 + k) (Nat.zero_add _) (by omega) (by decide) (nI_addp rfl rfl) (v := z (19 + k)) rfl dX6_weigh_52 ?_
  refine lv_istore_n (lv' := [(3, .int (z (19 + k))), (0, .ref ma), (1, .int (nI k)), (2, .int x)]) hx hb dX6_weigh_53 rfl hl (by decide) rfl (fun ls hl => ?_)
  refine lv_aload_n hx hb dX6_weigh_54 rfl (lv_at hl 1 rfl) ?_
  refine k_get X w 0 rfl rfl 1 (by decide) rfl iX6_weigh_X6 (List.mem_of_getElem? (i := 2) rfl) (v := .ref za) rfl dX6_weigh_55 ?_
  refine lv_bipush (v := 19) hx hb dX6_weigh_58 (by decide) ?_
  refine lv_iload_n hx hb dX6_weigh_60 rfl (lv_at hl 2 rfl) ?_
  refine lv_iadd hx hb dX6_weigh_61 ?_
  refine lv_iload_n hx hb dX6_weigh_62 rfl (lv_at hl 3 rfl) ?_
  refine k_iast X w 1 0 rfl rfl (19 + k) (kj := 19 + k) (Nat.zero_add _) (by omega) (by decide) (nI_addp rfl rfl) (ws2 := [oM ma za aa va ka ta (upd (upd y 0 0) 1 (nI (recN q))), aI cI za 225 0 (upd z (19 + k) x), aI cI va 1350 0 (recS sd z q)]) rfl dX6_weigh_63 (fun H locs w => ?_)
  refine lv_iload_n hx hb dX6_weigh_64 rfl (lv_at hl 0 rfl) ?_
  refine lv_bipush (v := 100) hx hb dX6_weigh_65 (by decide) ?_
  refine lv_iadd hx hb dX6_weigh_67 ?_
  exact fin _ _ _ _ _ w (by rfl) dX6_weigh_68
set_option maxHeartbeats 4000000 in
set_option maxRecDepth 100000 in
theorem met_X6_weigh_t1 (l : Launch) (D : va_G) (cI cJ cO : ClassId) (ma : Nat) (za : Nat) (aa : Nat) (va : Nat) (ka : Nat) (ta : Nat) (y : Nat → Int32) (x : Int32) (u : Int32) (hin : ¬ inR x 0 5) : CI l D (TY cI cJ cO) yX6_weigh wsX6_weigh ({ frames := 2, cells := 0, slots := 0, locals := 42 }) [.ref ma, .int x, .int u] [oM ma za aa va ka ta y] 0 [oM ma za aa va ka ta (upd y 0 1)] := by
  refine CI.of (plainFor_of_name (by decide)) rfl (Nat.le_of_ble_eq_true rfl) (rfl) (fun p e s m below meth c A ls Q X hA w hl fin => ?_)
  obtain ⟨hx, hb, hml, hown, hts⟩ := id X.1
  have hl : lv_has ls 4 [(0, .ref ma), (1, .int x), (2, .int u)] := hl
  refine lv_aload_n hx hb dX6_weigh_0 rfl (lv_at hl 0 rfl) ?_
  refine lv_iload_n hx hb dX6_weigh_1 rfl (lv_at hl 1 rfl) ?_
  refine k_ciR (k_runS X w (met_X6_isPose l D cI cJ cO x  s.heap.size) gX6_weigh_X6_isPose rfl rfl rfl 1 hdX6_isPose ⟨Nat.le_of_ble_eq_true rfl, Nat.le_of_ble_eq_true rfl⟩ [] rfl rfl rfl hl.1 rfl (Nat.le_of_ble_eq_true rfl) dX6_weigh_2 ⟨Nat.le_of_ble_eq_true rfl, Nat.le_of_ble_eq_true rfl⟩) w hA [] rfl (fun H locs w => ?_)
  refine lv_if_ne (tgt := 12) hx hb dX6_weigh_5 (by decide) (fun c1 => absurd (inB_n hin) c1) (fun c1 => ?_)
  refine lv_iconst (v := 1) hx hb dX6_weigh_8 (by decide) ?_
  refine lv_goto (tgt := 28) hx hb dX6_weigh_9 (by decide) ?_
  refine k_put X w 0 rfl rfl 0 (by decide) rfl iX6_weigh_X6 (List.mem_of_getElem? (i := 1) rfl) tyX6_ok nmX6 rfl rfl (Nat.le_of_ble_eq_true rfl) (ws2 := [oM ma za aa va ka ta (upd y 0 1)]) rfl dX6_weigh_28 (fun H locs w => ?_)
  refine lv_aload_n hx hb dX6_weigh_31 rfl (lv_at hl 0 rfl) ?_
  refine k_get X w 0 rfl rfl 0 (by decide) rfl iX6_weigh_X6 (List.mem_of_getElem? (i := 1) rfl) (v := .int 1) (congrArg (fun t => some (Value.int t)) (upd_is _ _ _)) dX6_weigh_32 ?_
  refine lv_if_le (tgt := 40) hx hb dX6_weigh_35 (by decide) (fun c2 => absurd c2 (by decide)) (fun c2 => ?_)
  refine lv_iconst (v := 0) hx hb dX6_weigh_38 (by decide) ?_
  exact fin _ _ _ _ _ w rfl dX6_weigh_39
set_option maxHeartbeats 4000000 in
set_option maxRecDepth 100000 in
theorem met_X6_weigh_t2 (l : Launch) (D : va_G) (cI cJ cO : ClassId) (ma : Nat) (za : Nat) (aa : Nat) (va : Nat) (ka : Nat) (ta : Nat) (y : Nat → Int32) (k : Nat) (x : Int32) (hk : k < 6) (hin : ¬ inR x (-60) 60) : CI l D (TY cI cJ cO) yX6_weigh wsX6_weigh ({ frames := 2, cells := 0, slots := 0, locals := 42 }) [.ref ma, .int (nI k), .int x] [oM ma za aa va ka ta y] 0 [oM ma za aa va ka ta (upd y 0 2)] := by
  refine CI.of (plainFor_of_name (by decide)) rfl (Nat.le_of_ble_eq_true rfl) (rfl) (fun p e s m below meth c A ls Q X hA w hl fin => ?_)
  obtain ⟨hx, hb, hml, hown, hts⟩ := id X.1
  have hl : lv_has ls 4 [(0, .ref ma), (1, .int (nI k)), (2, .int x)] := hl
  refine lv_aload_n hx hb dX6_weigh_0 rfl (lv_at hl 0 rfl) ?_
  refine lv_iload_n hx hb dX6_weigh_1 rfl (lv_at hl 1 rfl) ?_
  refine k_ciR (k_runS X w (met_X6_isPose l D cI cJ cO (nI k)  s.heap.size) gX6_weigh_X6_isPose rfl rfl rfl 1 hdX6_isPose ⟨Nat.le_of_ble_eq_true rfl, Nat.le_of_ble_eq_true rfl⟩ [] rfl rfl rfl hl.1 rfl (Nat.le_of_ble_eq_true rfl) dX6_weigh_2 ⟨Nat.le_of_ble_eq_true rfl, Nat.le_of_ble_eq_true rfl⟩) w hA [] rfl (fun H locs w => ?_)
  refine lv_if_ne (tgt := 12) hx hb dX6_weigh_5 (by decide) (fun c1 => ?_) (fun c1 => absurd c1 (in5 hk))
  refine lv_iload_n hx hb dX6_weigh_12 rfl (lv_at hl 2 rfl) ?_
  refine lv_bipush (v := (-60)) hx hb dX6_weigh_13 (by decide) ?_
  refine lv_bipush (v := 60) hx hb dX6_weigh_15 (by decide) ?_
  refine k_ciR (k_runS X w (met_X6_in l D cI cJ cO x (-60) 60  H.size) gX6_weigh_X6_in rfl rfl rfl 3 hdX6_in ⟨Nat.le_of_ble_eq_true rfl, Nat.le_of_ble_eq_true rfl⟩ [] rfl rfl rfl hl.1 rfl (Nat.le_of_ble_eq_true rfl) dX6_weigh_17 ⟨Nat.le_of_ble_eq_true rfl, Nat.le_of_ble_eq_true rfl⟩) w hA [] rfl (fun H locs w => ?_)
  refine lv_if_eq (tgt := 27) hx hb dX6_weigh_20 (by decide) (fun c2 => ?_) (fun c2 => absurd (inB_n hin) c2)
  refine lv_iconst (v := 2) hx hb dX6_weigh_27 (by decide) ?_
  refine k_put X w 0 rfl rfl 0 (by decide) rfl iX6_weigh_X6 (List.mem_of_getElem? (i := 1) rfl) tyX6_ok nmX6 rfl rfl (Nat.le_of_ble_eq_true rfl) (ws2 := [oM ma za aa va ka ta (upd y 0 2)]) rfl dX6_weigh_28 (fun H locs w => ?_)
  refine lv_aload_n hx hb dX6_weigh_31 rfl (lv_at hl 0 rfl) ?_
  refine k_get X w 0 rfl rfl 0 (by decide) rfl iX6_weigh_X6 (List.mem_of_getElem? (i := 1) rfl) (v := .int 2) (congrArg (fun t => some (Value.int t)) (upd_is _ _ _)) dX6_weigh_32 ?_
  refine lv_if_le (tgt := 40) hx hb dX6_weigh_35 (by decide) (fun c3 => absurd c3 (by decide)) (fun c3 => ?_)
  refine lv_iconst (v := 0) hx hb dX6_weigh_38 (by decide) ?_
  exact fin _ _ _ _ _ w rfl dX6_weigh_39
theorem hdX6_adjust : yX6_adjust.cls = RX6 ∧ yX6_adjust.cls ≠ "java/lang/invoke/MethodHandle" ∧ yX6_adjust.cls ≠ "java/lang/invoke/VarHandle" ∧ (parseMethodDescriptor yX6_adjust.desc).map (fun d => d.parameters.length) = some 2 := ⟨rfl, by decide, by decide, by decide +kernel⟩
theorem iX6_adjust_X6 : ∀ w ∈ wsX60, w ∈ wsX6_adjust := fun _ h => List.mem_cons_of_mem _ (List.mem_append_right _ h)
set_option maxHeartbeats 4000000 in
set_option maxRecDepth 100000 in
theorem met_X6_adjust (l : Launch) (D : va_G) (cI cJ cO : ClassId) (ma : Nat) (za : Nat) (aa : Nat) (va : Nat) (ka : Nat) (ta : Nat) (y : Nat → Int32) (z : Nat → Int32) (sd : Nat → Int32) (q : Nat) (x : Int32) (u : Int32) (hy : y 1 = nI q) (hq : q ≤ 6) (hx2 : inR x (-99) 99) (hu : inR u (-50) 50) : CI l D (TY cI cJ cO) yX6_adjust wsX6_adjust ({ frames := 1, cells := 0, slots := 0, locals := 22 }) [.ref ma, .int x, .int u] [oM ma za aa va ka ta y, aI cI za 225 0 z, aI cI va 1350 0 sd] (z 2 + 100) [oM ma za aa va ka ta (upd (upd y 0 0) 1 (nI (recN q))), aI cI za 225 0 (upd (upd z 2 x) 3 u), aI cI va 1350 0 (recS sd z q)] := by
  refine CI.of (plainFor_of_name (by decide)) rfl (Nat.le_of_ble_eq_true rfl) (rfl) (fun p e s m below meth c A ls Q X hA w hl fin => ?_)
  obtain ⟨hx, hb, hml, hown, hts⟩ := id X.1
  have hl : lv_has ls 4 [(0, .ref ma), (1, .int x), (2, .int u)] := hl
  refine lv_aload_n hx hb dX6_adjust_0 rfl (lv_at hl 0 rfl) ?_
  refine lv_iload_n hx hb dX6_adjust_1 rfl (lv_at hl 1 rfl) ?_
  refine lv_bipush (v := (-99)) hx hb dX6_adjust_2 (by decide) ?_
  refine lv_bipush (v := 99) hx hb dX6_adjust_4 (by decide) ?_
  refine k_ciR (k_runS X w (met_X6_in l D cI cJ cO x (-99) 99  s.heap.size) gX6_adjust_X6_in rfl rfl rfl 3 hdX6_in ⟨Nat.le_of_ble_eq_true rfl, Nat.le_of_ble_eq_true rfl⟩ [] rfl rfl rfl hl.1 rfl (Nat.le_of_ble_eq_true rfl) dX6_adjust_6 ⟨Nat.le_of_ble_eq_true rfl, Nat.le_of_ble_eq_true rfl⟩) w hA [] rfl (fun H locs w => ?_)
  refine lv_if_eq (tgt := 27) hx hb dX6_adjust_9 (by decide) (fun c1 => absurd c1 (inB_y hx2)) (fun c1 => ?_)
  refine lv_iload_n hx hb dX6_adjust_12 rfl (lv_at hl 2 rfl) ?_
  refine lv_bipush (v := (-50)) hx hb dX6_adjust_13 (by decide) ?_
  refine lv_bipush (v := 50) hx hb dX6_adjust_15 (by decide) ?_
  refine k_ciR (k_runS X w (met_X6_in l D cI cJ cO u (-50) 50  H.size) gX6_adjust_X6_in rfl rfl rfl 3 hdX6_in ⟨Nat.le_of_ble_eq_true rfl, Nat.le_of_ble_eq_true rfl⟩ [] rfl rfl rfl hl.1 rfl (Nat.le_of_ble_eq_true rfl) dX6_adjust_17 ⟨Nat.le_of_ble_eq_true rfl, Nat.le_of_ble_eq_true rfl⟩) w hA [] rfl (fun H locs w => ?_)
  refine lv_if_eq (tgt := 27) hx hb dX6_adjust_20 (by decide) (fun c2 => absurd c2 (inB_y hu)) (fun c2 => ?_)
  refine lv_iconst (v := 0) hx hb dX6_adjust_23 (by decide) ?_
  refine lv_goto (tgt := 28) hx hb dX6_adjust_24 (by decide) ?_
  refine k_put X w 0 rfl rfl 0 (by decide) rfl iX6_adjust_X6 (List.mem_of_getElem? (i := 1) rfl) tyX6_ok nmX6 rfl rfl (Nat.le_of_ble_eq_true rfl) (ws2 := [oM ma za aa va ka ta (upd y 0 0), aI cI za 225 0 z, aI cI va 1350 0 sd]) rfl dX6_adjust_28 (fun H locs w => ?_)
  refine lv_aload_n hx hb dX6_adjust_31 rfl (lv_at hl 0 rfl) ?_
  refine k_get X w 0 rfl rfl 0 (by decide) rfl iX6_adjust_X6 (List.mem_of_getElem? (i := 1) rfl) (v := .int 0) (congrArg (fun t => some (Value.int t)) (upd_is _ _ _)) dX6_adjust_32 ?_
  refine lv_if_le (tgt := 40) hx hb dX6_adjust_35 (by decide) (fun c3 => ?_) (fun c3 => absurd c3 (by decide))
  refine lv_aload_n hx hb dX6_adjust_40 rfl (lv_at hl 0 rfl) ?_
  refine k_cv (wr := []) (ws2 := [oM ma za aa va ka ta (upd (upd y 0 0) 1 (nI (recN q))), aI cI za 225 0 z, aI cI va 1350 0 (recS sd z q)]) (k_runV X w (met_X6_record l D cI cJ cO ma za aa va ka ta (upd y 0 0) z sd q ((upd_no (by decide)).trans hy) hq H.size) gX6_adjust_X6_record rfl rfl rfl 0 hdX6_record ⟨Nat.le_of_ble_eq_true rfl, Nat.le_of_ble_eq_true rfl⟩ [0, 1, 2] rfl rfl 0 6 rfl rfl rfl rfl hl.1 rfl (Nat.le_of_ble_eq_true rfl) dX6_adjust_41 ⟨Nat.le_of_ble_eq_true rfl, Nat.le_of_ble_eq_true rfl⟩) w hA [0, 1, 2] [] rfl rfl rfl (by decide) [0, 1, 2] rfl rfl (fun H locs w => ?_)
  refine lv_aload_n hx hb dX6_adjust_44 rfl (lv_at hl 0 rfl) ?_
  refine k_get X w 0 rfl rfl 1 (by decide) rfl iX6_adjust_X6 (List.mem_of_getElem? (i := 2) rfl) (v := .ref za) rfl dX6_adjust_45 ?_
  refine lv_iconst (v := 2) hx hb dX6_adjust_48 (by decide) ?_
  refine k_iald X w 1 0 rfl rfl 2 (kj := 2) rfl (by decide) (by decide) rfl (v := z 2) rfl dX6_adjust_49 ?_
  refine lv_istore_n (lv' := [(3, .int (z 2)), (0, .ref ma), (1, .int x), (2, .int u)]) hx hb dX6_adjust_50 rfl hl (by decide) rfl (fun ls hl => ?_)
  refine lv_aload_n hx hb dX6_adjust_51 rfl (lv_at hl 1 rfl) ?_
  refine k_get X w 0 rfl rfl 1 (by decide) rfl iX6_adjust_X6 (List.mem_of_getElem? (i := 2) rfl) (v := .ref za) rfl dX6_adjust_52 ?_
  refine lv_iconst (v := 2) hx hb dX6_adjust_55 (by decide) ?_
  refine lv_iload_n hx hb dX6_adjust_56 rfl (lv_at hl 2 rfl) ?_
  refine k_iast X w 1 0 rfl rfl 2 (kj := 2) rfl (by decide) (by decide) rfl (ws2 := [oM ma za aa va ka ta (upd (upd y 0 0) 1 (nI (recN q))), aI cI za 225 0 (upd z 2 x), aI cI va 1350 0 (recS sd z q)]) rfl dX6_adjust_57 (fun H locs w => ?_)
  refine lv_aload_n hx hb dX6_adjust_58 rfl (lv_at hl 1 rfl) ?_
  refine k_get X w 0 rfl rfl 1 (by decide) rfl iX6_adjust_X6 (List.mem_of_getElem? (i := 2) rfl) (v := .ref za) rfl dX6_adjust_59 ?_
  refine lv_iconst (v := 3) hx hb dX6_adjust_62 (by decide) ?_
  refine lv_iload_n hx hb dX6_adjust_63 rfl (lv_at hl 3 rfl) ?_
  refine k_iast X w 1 0 rfl rfl 3 (kj := 3) rfl (by decide) (by decide) rfl (ws2 := [oM ma za aa va ka ta (upd (upd y 0 0) 1 (nI (recN q))), aI cI za 225 0 (upd (upd z 2 x) 3 u), aI cI va 1350 0 (recS sd z q)]) rfl dX6_adjust_64 (fun H locs w => ?_)
  refine lv_iload_n hx hb dX6_adjust_65 rfl (lv_at hl 0 rfl) ?_
  refine lv_bipush (v := 100) hx hb dX6_adjust_66 (by decide) ?_
  refine lv_iadd hx hb dX6_adjust_68 ?_
  exact fin _ _ _ _ _ w (by rfl) dX6_adjust_69
set_option maxHeartbeats 4000000 in
set_option maxRecDepth 100000 in
theorem met_X6_adjust_t1 (l : Launch) (D : va_G) (cI cJ cO : ClassId) (ma : Nat) (za : Nat) (aa : Nat) (va : Nat) (ka : Nat) (ta : Nat) (y : Nat → Int32) (x : Int32) (u : Int32) (hin : ¬ inR x (-99) 99) : CI l D (TY cI cJ cO) yX6_adjust wsX6_adjust ({ frames := 1, cells := 0, slots := 0, locals := 22 }) [.ref ma, .int x, .int u] [oM ma za aa va ka ta y] 0 [oM ma za aa va ka ta (upd y 0 1)] := by
  refine CI.of (plainFor_of_name (by decide)) rfl (Nat.le_of_ble_eq_true rfl) (rfl) (fun p e s m below meth c A ls Q X hA w hl fin => ?_)
  obtain ⟨hx, hb, hml, hown, hts⟩ := id X.1
  have hl : lv_has ls 4 [(0, .ref ma), (1, .int x), (2, .int u)] := hl
  refine lv_aload_n hx hb dX6_adjust_0 rfl (lv_at hl 0 rfl) ?_
  refine lv_iload_n hx hb dX6_adjust_1 rfl (lv_at hl 1 rfl) ?_
  refine lv_bipush (v := (-99)) hx hb dX6_adjust_2 (by decide) ?_
  refine lv_bipush (v := 99) hx hb dX6_adjust_4 (by decide) ?_
  refine k_ciR (k_runS X w (met_X6_in l D cI cJ cO x (-99) 99  s.heap.size) gX6_adjust_X6_in rfl rfl rfl 3 hdX6_in ⟨Nat.le_of_ble_eq_true rfl, Nat.le_of_ble_eq_true rfl⟩ [] rfl rfl rfl hl.1 rfl (Nat.le_of_ble_eq_true rfl) dX6_adjust_6 ⟨Nat.le_of_ble_eq_true rfl, Nat.le_of_ble_eq_true rfl⟩) w hA [] rfl (fun H locs w => ?_)
  refine lv_if_eq (tgt := 27) hx hb dX6_adjust_9 (by decide) (fun c1 => ?_) (fun c1 => absurd (inB_n hin) c1)
  refine lv_iconst (v := 1) hx hb dX6_adjust_27 (by decide) ?_
  refine k_put X w 0 rfl rfl 0 (by decide) rfl iX6_adjust_X6 (List.mem_of_getElem? (i := 1) rfl) tyX6_ok nmX6 rfl rfl (Nat.le_of_ble_eq_true rfl) (ws2 := [oM ma za aa va ka ta (upd y 0 1)]) rfl dX6_adjust_28 (fun H locs w => ?_)
  refine lv_aload_n hx hb dX6_adjust_31 rfl (lv_at hl 0 rfl) ?_
  refine k_get X w 0 rfl rfl 0 (by decide) rfl iX6_adjust_X6 (List.mem_of_getElem? (i := 1) rfl) (v := .int 1) (congrArg (fun t => some (Value.int t)) (upd_is _ _ _)) dX6_adjust_32 ?_
  refine lv_if_le (tgt := 40) hx hb dX6_adjust_35 (by decide) (fun c2 => absurd c2 (by decide)) (fun c2 => ?_)
  refine lv_iconst (v := 0) hx hb dX6_adjust_38 (by decide) ?_
  exact fin _ _ _ _ _ w rfl dX6_adjust_39
set_option maxHeartbeats 4000000 in
set_option maxRecDepth 100000 in
theorem met_X6_adjust_t2 (l : Launch) (D : va_G) (cI cJ cO : ClassId) (ma : Nat) (za : Nat) (aa : Nat) (va : Nat) (ka : Nat) (ta : Nat) (y : Nat → Int32) (x : Int32) (u : Int32) (hx2 : inR x (-99) 99) (hin : ¬ inR u (-50) 50) : CI l D (TY cI cJ cO) yX6_adjust wsX6_adjust ({ frames := 1, cells := 0, slots := 0, locals := 22 }) [.ref ma, .int x, .int u] [oM ma za aa va ka ta y] 0 [oM ma za aa va ka ta (upd y 0 1)] := by
  refine CI.of (plainFor_of_name (by decide)) rfl (Nat.le_of_ble_eq_true rfl) (rfl) (fun p e s m below meth c A ls Q X hA w hl fin => ?_)
  obtain ⟨hx, hb, hml, hown, hts⟩ := id X.1
  have hl : lv_has ls 4 [(0, .ref ma), (1, .int x), (2, .int u)] := hl
  refine lv_aload_n hx hb dX6_adjust_0 rfl (lv_at hl 0 rfl) ?_
  refine lv_iload_n hx hb dX6_adjust_1 rfl (lv_at hl 1 rfl) ?_
  refine lv_bipush (v := (-99)) hx hb dX6_adjust_2 (by decide) ?_
  refine lv_bipush (v := 99) hx hb dX6_adjust_4 (by decide) ?_
  refine k_ciR (k_runS X w (met_X6_in l D cI cJ cO x (-99) 99  s.heap.size) gX6_adjust_X6_in rfl rfl rfl 3 hdX6_in ⟨Nat.le_of_ble_eq_true rfl, Nat.le_of_ble_eq_true rfl⟩ [] rfl rfl rfl hl.1 rfl (Nat.le_of_ble_eq_true rfl) dX6_adjust_6 ⟨Nat.le_of_ble_eq_true rfl, Nat.le_of_ble_eq_true rfl⟩) w hA [] rfl (fun H locs w => ?_)
  refine lv_if_eq (tgt := 27) hx hb dX6_adjust_9 (by decide) (fun c1 => absurd c1 (inB_y hx2)) (fun c1 => ?_)
  refine lv_iload_n hx hb dX6_adjust_12 rfl (lv_at hl 2 rfl) ?_
  refine lv_bipush (v := (-50)) hx hb dX6_adjust_13 (by decide) ?_
  refine lv_bipush (v := 50) hx hb dX6_adjust_15 (by decide) ?_
  refine k_ciR (k_runS X w (met_X6_in l D cI cJ cO u (-50) 50  H.size) gX6_adjust_X6_in rfl rfl rfl 3 hdX6_in ⟨Nat.le_of_ble_eq_true rfl, Nat.le_of_ble_eq_true rfl⟩ [] rfl rfl rfl hl.1 rfl (Nat.le_of_ble_eq_true rfl) dX6_adjust_17 ⟨Nat.le_of_ble_eq_true rfl, Nat.le_of_ble_eq_true rfl⟩) w hA [] rfl (fun H locs w => ?_)
  refine lv_if_eq (tgt := 27) hx hb dX6_adjust_20 (by decide) (fun c2 => ?_) (fun c2 => absurd (inB_n hin) c2)
  refine lv_iconst (v := 1) hx hb dX6_adjust_27 (by decide) ?_
  refine k_put X w 0 rfl rfl 0 (by decide) rfl iX6_adjust_X6 (List.mem_of_getElem? (i := 1) rfl) tyX6_ok nmX6 rfl rfl (Nat.le_of_ble_eq_true rfl) (ws2 := [oM ma za aa va ka ta (upd y 0 1)]) rfl dX6_adjust_28 (fun H locs w => ?_)
  refine lv_aload_n hx hb dX6_adjust_31 rfl (lv_at hl 0 rfl) ?_
  refine k_get X w 0 rfl rfl 0 (by decide) rfl iX6_adjust_X6 (List.mem_of_getElem? (i := 1) rfl) (v := .int 1) (congrArg (fun t => some (Value.int t)) (upd_is _ _ _)) dX6_adjust_32 ?_
  refine lv_if_le (tgt := 40) hx hb dX6_adjust_35 (by decide) (fun c3 => absurd c3 (by decide)) (fun c3 => ?_)
  refine lv_iconst (v := 0) hx hb dX6_adjust_38 (by decide) ?_
  exact fin _ _ _ _ _ w rfl dX6_adjust_39
theorem hdX6_magnetise : yX6_magnetise.cls = RX6 ∧ yX6_magnetise.cls ≠ "java/lang/invoke/MethodHandle" ∧ yX6_magnetise.cls ≠ "java/lang/invoke/VarHandle" ∧ (parseMethodDescriptor yX6_magnetise.desc).map (fun d => d.parameters.length) = some 1 := ⟨rfl, by decide, by decide, by decide +kernel⟩
theorem iX6_magnetise_X6 : ∀ w ∈ wsX60, w ∈ wsX6_magnetise := fun _ h => List.mem_cons_of_mem _ (List.mem_append_right _ h)
set_option maxHeartbeats 4000000 in
set_option maxRecDepth 100000 in
theorem met_X6_magnetise (l : Launch) (D : va_G) (cI cJ cO : ClassId) (ma : Nat) (za : Nat) (aa : Nat) (va : Nat) (ka : Nat) (ta : Nat) (y : Nat → Int32) (z : Nat → Int32) (sd : Nat → Int32) (q : Nat) (x : Int32) (hy : y 1 = nI q) (hq : q ≤ 6) (hin : inR x 1 100) : CI l D (TY cI cJ cO) yX6_magnetise wsX6_magnetise ({ frames := 1, cells := 0, slots := 0, locals := 22 }) [.ref ma, .int x] [oM ma za aa va ka ta y, aI cI za 225 0 z, aI cI va 1350 0 sd] (mn100 (z 4 + x)) [oM ma za aa va ka ta (upd (upd y 0 0) 1 (nI (recN q))), aI cI za 225 0 (upd z 4 (mn100 (z 4 + x))), aI cI va 1350 0 (recS sd z q)] := by
  refine CI.of (plainFor_of_name (by decide)) rfl (Nat.le_of_ble_eq_true rfl) (rfl) (fun p e s m below meth c A ls Q X hA w hl fin => ?_)
  obtain ⟨hx, hb, hml, hown, hts⟩ := id X.1
  have hl : lv_has ls 2 [(0, .ref ma), (1, .int x)] := hl
  refine lv_aload_n hx hb dX6_magnetise_0 rfl (lv_at hl 0 rfl) ?_
  refine lv_iload_n hx hb dX6_magnetise_1 rfl (lv_at hl 1 rfl) ?_
  refine lv_iconst (v := 1) hx hb dX6_magnetise_2 (by decide) ?_
  refine lv_bipush (v := 100) hx hb dX6_magnetise_3 (by decide) ?_
  refine k_ciR (k_runS X w (met_X6_in l D cI cJ cO x 1 100  s.heap.size) gX6_magnetise_X6_in rfl rfl rfl 3 hdX6_in ⟨Nat.le_of_ble_eq_true rfl, Nat.le_of_ble_eq_true rfl⟩ [] rfl rfl rfl hl.1 rfl (Nat.le_of_ble_eq_true rfl) dX6_magnetise_5 ⟨Nat.le_of_ble_eq_true rfl, Nat.le_of_ble_eq_true rfl⟩) w hA [] rfl (fun H locs w => ?_)
  refine lv_if_eq (tgt := 15) hx hb dX6_magnetise_8 (by decide) (fun c1 => absurd c1 (inB_y hin)) (fun c1 => ?_)
  refine lv_iconst (v := 0) hx hb dX6_magnetise_11 (by decide) ?_
  refine lv_goto (tgt := 16) hx hb dX6_magnetise_12 (by decide) ?_
  refine k_put X w 0 rfl rfl 0 (by decide) rfl iX6_magnetise_X6 (List.mem_of_getElem? (i := 1) rfl) tyX6_ok nmX6 rfl rfl (Nat.le_of_ble_eq_true rfl) (ws2 := [oM ma za aa va ka ta (upd y 0 0), aI cI za 225 0 z, aI cI va 1350 0 sd]) rfl dX6_magnetise_16 (fun H locs w => ?_)
  refine lv_aload_n hx hb dX6_magnetise_19 rfl (lv_at hl 0 rfl) ?_
  refine k_get X w 0 rfl rfl 0 (by decide) rfl iX6_magnetise_X6 (List.mem_of_getElem? (i := 1) rfl) (v := .int 0) (congrArg (fun t => some (Value.int t)) (upd_is _ _ _)) dX6_magnetise_20 ?_
  refine lv_if_le (tgt := 28) hx hb dX6_magnetise_23 (by decide) (fun c2 => ?_) (fun c2 => absurd c2 (by decide))
  refine lv_aload_n hx hb dX6_magnetise_28 rfl (lv_at hl 0 rfl) ?_
  refine k_cv (wr := []) (ws2 := [oM ma za aa va ka ta (upd (upd y 0 0) 1 (nI (recN q))), aI cI za 225 0 z, aI cI va 1350 0 (recS sd z q)]) (k_runV X w (met_X6_record l D cI cJ cO ma za aa va ka ta (upd y 0 0) z sd q ((upd_no (by decide)).trans hy) hq H.size) gX6_magnetise_X6_record rfl rfl rfl 0 hdX6_record ⟨Nat.le_of_ble_eq_true rfl, Nat.le_of_ble_eq_true rfl⟩ [0, 1, 2] rfl rfl 0 6 rfl rfl rfl rfl hl.1 rfl (Nat.le_of_ble_eq_true rfl) dX6_magnetise_29 ⟨Nat.le_of_ble_eq_true rfl, Nat.le_of_ble_eq_true rfl⟩) w hA [0, 1, 2] [] rfl rfl rfl (by decide) [0, 1, 2] rfl rfl (fun H locs w => ?_)
  refine lv_aload_n hx hb dX6_magnetise_32 rfl (lv_at hl 0 rfl) ?_
  refine k_get X w 0 rfl rfl 1 (by decide) rfl iX6_magnetise_X6 (List.mem_of_getElem? (i := 2) rfl) (v := .ref za) rfl dX6_magnetise_33 ?_
  refine lv_iconst (v := 4) hx hb dX6_magnetise_36 (by decide) ?_
  refine lv_aload_n hx hb dX6_magnetise_37 rfl (lv_at hl 0 rfl) ?_
  refine k_get X w 0 rfl rfl 1 (by decide) rfl iX6_magnetise_X6 (List.mem_of_getElem? (i := 2) rfl) (v := .ref za) rfl dX6_magnetise_38 ?_
  refine lv_iconst (v := 4) hx hb dX6_magnetise_41 (by decide) ?_
  refine k_iald X w 1 0 rfl rfl 4 (kj := 4) rfl (by decide) (by decide) rfl (v := z 4) rfl dX6_magnetise_42 ?_
  refine lv_iload_n hx hb dX6_magnetise_43 rfl (lv_at hl 1 rfl) ?_
  refine lv_iadd hx hb dX6_magnetise_44 ?_
  refine lv_bipush (v := 100) hx hb dX6_magnetise_45 (by decide) ?_
  refine k_ciR (k_runS X w (met_X6_atMost l D cI cJ cO ((z 4) + x) 100  H.size) gX6_magnetise_X6_atMost rfl rfl rfl 2 hdX6_atMost ⟨Nat.le_of_ble_eq_true rfl, Nat.le_of_ble_eq_true rfl⟩ [] rfl rfl rfl hl.1 rfl (Nat.le_of_ble_eq_true rfl) dX6_magnetise_47 ⟨Nat.le_of_ble_eq_true rfl, Nat.le_of_ble_eq_true rfl⟩) w hA [] rfl (fun H locs w => ?_)
  refine k_iast X w 1 0 rfl rfl 4 (kj := 4) rfl (by decide) (by decide) rfl (ws2 := [oM ma za aa va ka ta (upd (upd y 0 0) 1 (nI (recN q))), aI cI za 225 0 (upd z 4 (mnv ((z 4) + x) 100)), aI cI va 1350 0 (recS sd z q)]) rfl dX6_magnetise_50 (fun H locs w => ?_)
  refine lv_aload_n hx hb dX6_magnetise_51 rfl (lv_at hl 0 rfl) ?_
  refine k_get X w 0 rfl rfl 1 (by decide) rfl iX6_magnetise_X6 (List.mem_of_getElem? (i := 2) rfl) (v := .ref za) rfl dX6_magnetise_52 ?_
  refine lv_iconst (v := 4) hx hb dX6_magnetise_55 (by decide) ?_
  refine k_iald X w 1 0 rfl rfl 4 (kj := 4) rfl (by decide) (by decide) rfl (v := mnv ((z 4) + x) 100) (upd_is _ _ _) dX6_magnetise_56 ?_
  have ez : upd z 4 (mnv ((z 4) + x) 100) = upd z 4 (mn100 (z 4 + x)) := by rfl
  rw [ez] at w
  exact fin _ _ _ _ _ w (by rfl) dX6_magnetise_57
set_option maxHeartbeats 4000000 in
set_option maxRecDepth 100000 in
theorem met_X6_magnetise_t (l : Launch) (D : va_G) (cI cJ cO : ClassId) (ma : Nat) (za : Nat) (aa : Nat) (va : Nat) (ka : Nat) (ta : Nat) (y : Nat → Int32) (x : Int32) (hin : ¬ inR x 1 100) : CI l D (TY cI cJ cO) yX6_magnetise wsX6_magnetise ({ frames := 1, cells := 0, slots := 0, locals := 22 }) [.ref ma, .int x] [oM ma za aa va ka ta y] 0 [oM ma za aa va ka ta (upd y 0 1)] := by
  refine CI.of (plainFor_of_name (by decide)) rfl (Nat.le_of_ble_eq_true rfl) (rfl) (fun p e s m below meth c A ls Q X hA w hl fin => ?_)
  obtain ⟨hx, hb, hml, hown, hts⟩ := id X.1
  have hl : lv_has ls 2 [(0, .ref ma), (1, .int x)] := hl
  refine lv_aload_n hx hb dX6_magnetise_0 rfl (lv_at hl 0 rfl) ?_
  refine lv_iload_n hx hb dX6_magnetise_1 rfl (lv_at hl 1 rfl) ?_
  refine lv_iconst (v := 1) hx hb dX6_magnetise_2 (by decide) ?_
  refine lv_bipush (v := 100) hx hb dX6_magnetise_3 (by decide) ?_
  refine k_ciR (k_runS X w (met_X6_in l D cI cJ cO x 1 100  s.heap.size) gX6_magnetise_X6_in rfl rfl rfl 3 hdX6_in ⟨Nat.le_of_ble_eq_true rfl, Nat.le_of_ble_eq_true rfl⟩ [] rfl rfl rfl hl.1 rfl (Nat.le_of_ble_eq_true rfl) dX6_magnetise_5 ⟨Nat.le_of_ble_eq_true rfl, Nat.le_of_ble_eq_true rfl⟩) w hA [] rfl (fun H locs w => ?_)
  refine lv_if_eq (tgt := 15) hx hb dX6_magnetise_8 (by decide) (fun c1 => ?_) (fun c1 => absurd (inB_n hin) c1)
  refine lv_iconst (v := 1) hx hb dX6_magnetise_15 (by decide) ?_
  refine k_put X w 0 rfl rfl 0 (by decide) rfl iX6_magnetise_X6 (List.mem_of_getElem? (i := 1) rfl) tyX6_ok nmX6 rfl rfl (Nat.le_of_ble_eq_true rfl) (ws2 := [oM ma za aa va ka ta (upd y 0 1)]) rfl dX6_magnetise_16 (fun H locs w => ?_)
  refine lv_aload_n hx hb dX6_magnetise_19 rfl (lv_at hl 0 rfl) ?_
  refine k_get X w 0 rfl rfl 0 (by decide) rfl iX6_magnetise_X6 (List.mem_of_getElem? (i := 1) rfl) (v := .int 1) (congrArg (fun t => some (Value.int t)) (upd_is _ _ _)) dX6_magnetise_20 ?_
  refine lv_if_le (tgt := 28) hx hb dX6_magnetise_23 (by decide) (fun c2 => absurd c2 (by decide)) (fun c2 => ?_)
  refine lv_iconst (v := 0) hx hb dX6_magnetise_26 (by decide) ?_
  exact fin _ _ _ _ _ w rfl dX6_magnetise_27
theorem hdX6_change : yX6_change.cls = RX6 ∧ yX6_change.cls ≠ "java/lang/invoke/MethodHandle" ∧ yX6_change.cls ≠ "java/lang/invoke/VarHandle" ∧ (parseMethodDescriptor yX6_change.desc).map (fun d => d.parameters.length) = some 2 := ⟨rfl, by decide, by decide, by decide +kernel⟩
theorem iX6_change_X6 : ∀ w ∈ wsX60, w ∈ wsX6_change := fun _ h => List.mem_cons_of_mem _ (List.mem_append_right _ h)
set_option maxHeartbeats 4000000 in
set_option maxRecDepth 100000 in
theorem met_X6_change (l : Launch) (D : va_G) (cI cJ cO : ClassId) (ma : Nat) (za : Nat) (aa : Nat) (va : Nat) (ka : Nat) (ta : Nat) (y : Nat → Int32) (z : Nat → Int32) (sd : Nat → Int32) (q : Nat) (i : Nat) (x : Int32) (hy : y 1 = nI q) (hq : q ≤ 6) (hi : i < 225) : CI l D (TY cI cJ cO) yX6_change wsX6_change ({ frames := 1, cells := 0, slots := 0, locals := 21 }) [.ref ma, .int (nI i), .int x] [oM ma za aa va ka ta y, aI cI za 225 0 z, aI cI va 1350 0 sd] (z i) [oM ma za aa va ka ta (upd y 1 (nI (recN q))), aI cI za 225 0 (upd z i x), aI cI va 1350 0 (recS sd z q)] := by
  refine CI.of (plainFor_of_name (by decide)) rfl (Nat.le_of_ble_eq_true rfl) (rfl) (fun p e s m below meth c A ls Q X hA w hl fin => ?_)
  obtain ⟨hx, hb, hml, hown, hts⟩ := id X.1
  have hl : lv_has ls 4 [(0, .ref ma), (1, .int (nI i)), (2, .int x)] := hl
  refine lv_aload_n hx hb dX6_change_0 rfl (lv_at hl 0 rfl) ?_
  refine k_cv (wr := []) (ws2 := [oM ma za aa va ka ta (upd y 1 (nI (recN q))), aI cI za 225 0 z, aI cI va 1350 0 (recS sd z q)]) (k_runV X w (met_X6_record l D cI cJ cO ma za aa va ka ta y z sd q (by first | assumption | omega) (by first | assumption | omega) s.heap.size) gX6_change_X6_record rfl rfl rfl 0 hdX6_record ⟨Nat.le_of_ble_eq_true rfl, Nat.le_of_ble_eq_true rfl⟩ [0, 1, 2] rfl rfl 0 6 rfl rfl rfl rfl hl.1 rfl (Nat.le_of_ble_eq_true rfl) dX6_change_1 ⟨Nat.le_of_ble_eq_true rfl, Nat.le_of_ble_eq_true rfl⟩) w hA [0, 1, 2] [] rfl rfl rfl (by decide) [0, 1, 2] rfl rfl (fun H locs w => ?_)
  refine lv_aload_n hx hb dX6_change_4 rfl (lv_at hl 0 rfl) ?_
  refine k_get X w 0 rfl rfl 1 (by decide) rfl iX6_change_X6 (List.mem_of_getElem? (i := 1) rfl) (v := .ref za) rfl dX6_change_5 ?_
  refine lv_iload_n hx hb dX6_change_8 rfl (lv_at hl 1 rfl) ?_
  refine k_iald X w 1 0 rfl rfl i (kj := i) (Nat.zero_add _) (by omega) (by decide) rfl (v := z i) rfl dX6_change_9 ?_
  refine lv_istore_n (lv' := [(3, .int (z i)), (0, .ref ma), (1, .int (nI i)), (2, .int x)]) hx hb dX6_change_10 rfl hl (by decide) rfl (fun ls hl => ?_)
  refine lv_aload_n hx hb dX6_change_11 rfl (lv_at hl 1 rfl) ?_
  refine k_get X w 0 rfl rfl 1 (by decide) rfl iX6_change_X6 (List.mem_of_getElem? (i := 1) rfl) (v := .ref za) rfl dX6_change_12 ?_
  refine lv_iload_n hx hb dX6_change_15 rfl (lv_at hl 2 rfl) ?_
  refine lv_iload_n hx hb dX6_change_16 rfl (lv_at hl 3 rfl) ?_
  refine k_iast X w 1 0 rfl rfl i (kj := i) (Nat.zero_add _) (by omega) (by decide) rfl (ws2 := [oM ma za aa va ka ta (upd y 1 (nI (recN q))), aI cI za 225 0 (upd z i x), aI cI va 1350 0 (recS sd z q)]) rfl dX6_change_17 (fun H locs w => ?_)
  refine lv_iload_n hx hb dX6_change_18 rfl (lv_at hl 0 rfl) ?_
  exact fin _ _ _ _ _ w rfl dX6_change_19
theorem hdX6_demagnetise : yX6_demagnetise.cls = RX6 ∧ yX6_demagnetise.cls ≠ "java/lang/invoke/MethodHandle" ∧ yX6_demagnetise.cls ≠ "java/lang/invoke/VarHandle" ∧ (parseMethodDescriptor yX6_demagnetise.desc).map (fun d => d.parameters.length) = some 0 := ⟨rfl, by decide, by decide, by decide +kernel⟩
theorem iX6_demagnetise_X6 : ∀ w ∈ wsX60, w ∈ wsX6_demagnetise := fun _ h => List.mem_cons_of_mem _ (List.mem_append_right _ h)
set_option maxHeartbeats 4000000 in
set_option maxRecDepth 100000 in
theorem met_X6_demagnetise (l : Launch) (D : va_G) (cI cJ cO : ClassId) (ma : Nat) (za : Nat) (aa : Nat) (va : Nat) (ka : Nat) (ta : Nat) (y : Nat → Int32) (z : Nat → Int32) (sd : Nat → Int32) (q : Nat) (hy : y 1 = nI q) (hq : q ≤ 6) : CI l D (TY cI cJ cO) yX6_demagnetise wsX6_demagnetise ({ frames := 2, cells := 0, slots := 0, locals := 44 }) [.ref ma] [oM ma za aa va ka ta y, aI cI za 225 0 z, aI cI va 1350 0 sd] (z 4) [oM ma za aa va ka ta (upd (upd y 0 0) 1 (nI (recN q))), aI cI za 225 0 (upd z 4 0), aI cI va 1350 0 (recS sd z q)] := by
  refine CI.of (plainFor_of_name (by decide)) rfl (Nat.le_of_ble_eq_true rfl) (rfl) (fun p e s m below meth c A ls Q X hA w hl fin => ?_)
  obtain ⟨hx, hb, hml, hown, hts⟩ := id X.1
  have hl : lv_has ls 1 [(0, .ref ma)] := hl
  refine lv_aload_n hx hb dX6_demagnetise_0 rfl (lv_at hl 0 rfl) ?_
  refine lv_iconst (v := 0) hx hb dX6_demagnetise_1 (by decide) ?_
  refine k_put X w 0 rfl rfl 0 (by decide) rfl iX6_demagnetise_X6 (List.mem_of_getElem? (i := 1) rfl) tyX6_ok nmX6 rfl rfl (Nat.le_of_ble_eq_true rfl) (ws2 := [oM ma za aa va ka ta (upd y 0 0), aI cI za 225 0 z, aI cI va 1350 0 sd]) rfl dX6_demagnetise_2 (fun H locs w => ?_)
  refine lv_aload_n hx hb dX6_demagnetise_5 rfl (lv_at hl 0 rfl) ?_
  refine lv_iconst (v := 4) hx hb dX6_demagnetise_6 (by decide) ?_
  refine lv_iconst (v := 0) hx hb dX6_demagnetise_7 (by decide) ?_
  refine k_ci (wr := []) (ws2 := [oM ma za aa va ka ta (upd (upd y 0 0) 1 (nI (recN q))), aI cI za 225 0 (upd z 4 0), aI cI va 1350 0 (recS sd z q)]) (k_runV X w (met_X6_change l D cI cJ cO ma za aa va ka ta (upd y 0 0) z sd q 4 0 ((upd_no (by decide)).trans hy) hq (by omega) H.size) gX6_demagnetise_X6_change rfl rfl rfl 2 hdX6_change ⟨Nat.le_of_ble_eq_true rfl, Nat.le_of_ble_eq_true rfl⟩ [0, 1, 2] rfl rfl 0 6 rfl rfl rfl rfl hl.1 rfl (Nat.le_of_ble_eq_true rfl) dX6_demagnetise_8 ⟨Nat.le_of_ble_eq_true rfl, Nat.le_of_ble_eq_true rfl⟩) w hA [0, 1, 2] [] rfl rfl rfl (by decide) [0, 1, 2] rfl rfl (fun H locs w => ?_)
  exact fin _ _ _ _ _ w rfl dX6_demagnetise_11
theorem hdX6_clean : yX6_clean.cls = RX6 ∧ yX6_clean.cls ≠ "java/lang/invoke/MethodHandle" ∧ yX6_clean.cls ≠ "java/lang/invoke/VarHandle" ∧ (parseMethodDescriptor yX6_clean.desc).map (fun d => d.parameters.length) = some 0 := ⟨rfl, by decide, by decide, by decide +kernel⟩
theorem iX6_clean_X6 : ∀ w ∈ wsX60, w ∈ wsX6_clean := fun _ h => List.mem_cons_of_mem _ (List.mem_append_right _ h)
set_option maxHeartbeats 4000000 in
set_option maxRecDepth 100000 in
theorem met_X6_clean (l : Launch) (D : va_G) (cI cJ cO : ClassId) (ma : Nat) (za : Nat) (aa : Nat) (va : Nat) (ka : Nat) (ta : Nat) (y : Nat → Int32) (z : Nat → Int32) (sd : Nat → Int32) (q : Nat) (hy : y 1 = nI q) (hq : q ≤ 6) : CI l D (TY cI cJ cO) yX6_clean wsX6_clean ({ frames := 2, cells := 0, slots := 0, locals := 44 }) [.ref ma] [oM ma za aa va ka ta y, aI cI za 225 0 z, aI cI va 1350 0 sd] (z 5) [oM ma za aa va ka ta (upd (upd y 0 0) 1 (nI (recN q))), aI cI za 225 0 (upd z 5 0), aI cI va 1350 0 (recS sd z q)] := by
  refine CI.of (plainFor_of_name (by decide)) rfl (Nat.le_of_ble_eq_true rfl) (rfl) (fun p e s m below meth c A ls Q X hA w hl fin => ?_)
  obtain ⟨hx, hb, hml, hown, hts⟩ := id X.1
  have hl : lv_has ls 1 [(0, .ref ma)] := hl
  refine lv_aload_n hx hb dX6_clean_0 rfl (lv_at hl 0 rfl) ?_
  refine lv_iconst (v := 0) hx hb dX6_clean_1 (by decide) ?_
  refine k_put X w 0 rfl rfl 0 (by decide) rfl iX6_clean_X6 (List.mem_of_getElem? (i := 1) rfl) tyX6_ok nmX6 rfl rfl (Nat.le_of_ble_eq_true rfl) (ws2 := [oM ma za aa va ka ta (upd y 0 0), aI cI za 225 0 z, aI cI va 1350 0 sd]) rfl dX6_clean_2 (fun H locs w => ?_)
  refine lv_aload_n hx hb dX6_clean_5 rfl (lv_at hl 0 rfl) ?_
  refine lv_iconst (v := 5) hx hb dX6_clean_6 (by decide) ?_
  refine lv_iconst (v := 0) hx hb dX6_clean_7 (by decide) ?_
  refine k_ci (wr := []) (ws2 := [oM ma za aa va ka ta (upd (upd y 0 0) 1 (nI (recN q))), aI cI za 225 0 (upd z 5 0), aI cI va 1350 0 (recS sd z q)]) (k_runV X w (met_X6_change l D cI cJ cO ma za aa va ka ta (upd y 0 0) z sd q 5 0 ((upd_no (by decide)).trans hy) hq (by omega) H.size) gX6_clean_X6_change rfl rfl rfl 2 hdX6_change ⟨Nat.le_of_ble_eq_true rfl, Nat.le_of_ble_eq_true rfl⟩ [0, 1, 2] rfl rfl 0 6 rfl rfl rfl rfl hl.1 rfl (Nat.le_of_ble_eq_true rfl) dX6_clean_8 ⟨Nat.le_of_ble_eq_true rfl, Nat.le_of_ble_eq_true rfl⟩) w hA [0, 1, 2] [] rfl rfl rfl (by decide) [0, 1, 2] rfl rfl (fun H locs w => ?_)
  exact fin _ _ _ _ _ w rfl dX6_clean_11
theorem hdX6_renew : yX6_renew.cls = RX6 ∧ yX6_renew.cls ≠ "java/lang/invoke/MethodHandle" ∧ yX6_renew.cls ≠ "java/lang/invoke/VarHandle" ∧ (parseMethodDescriptor yX6_renew.desc).map (fun d => d.parameters.length) = some 0 := ⟨rfl, by decide, by decide, by decide +kernel⟩
theorem iX6_renew_X6 : ∀ w ∈ wsX60, w ∈ wsX6_renew := fun _ h => List.mem_cons_of_mem _ (List.mem_append_right _ h)
set_option maxHeartbeats 4000000 in
set_option maxRecDepth 100000 in
theorem met_X6_renew (l : Launch) (D : va_G) (cI cJ cO : ClassId) (ma : Nat) (za : Nat) (aa : Nat) (va : Nat) (ka : Nat) (ta : Nat) (y : Nat → Int32) (z : Nat → Int32) (sd : Nat → Int32) (q : Nat) (hy : y 1 = nI q) (hq : q ≤ 6) : CI l D (TY cI cJ cO) yX6_renew wsX6_renew ({ frames := 2, cells := 0, slots := 0, locals := 44 }) [.ref ma] [oM ma za aa va ka ta y, aI cI za 225 0 z, aI cI va 1350 0 sd] (z 10) [oM ma za aa va ka ta (upd (upd y 0 0) 1 (nI (recN q))), aI cI za 225 0 (upd z 10 0), aI cI va 1350 0 (recS sd z q)] := by
  refine CI.of (plainFor_of_name (by decide)) rfl (Nat.le_of_ble_eq_true rfl) (rfl) (fun p e s m below meth c A ls Q X hA w hl fin => ?_)
  obtain ⟨hx, hb, hml, hown, hts⟩ := id X.1
  have hl : lv_has ls 1 [(0, .ref ma)] := hl
  refine lv_aload_n hx hb dX6_renew_0 rfl (lv_at hl 0 rfl) ?_
  refine lv_iconst (v := 0) hx hb dX6_renew_1 (by decide) ?_
  refine k_put X w 0 rfl rfl 0 (by decide) rfl iX6_renew_X6 (List.mem_of_getElem? (i := 1) rfl) tyX6_ok nmX6 rfl rfl (Nat.le_of_ble_eq_true rfl) (ws2 := [oM ma za aa va ka ta (upd y 0 0), aI cI za 225 0 z, aI cI va 1350 0 sd]) rfl dX6_renew_2 (fun H locs w => ?_)
  refine lv_aload_n hx hb dX6_renew_5 rfl (lv_at hl 0 rfl) ?_
  refine lv_bipush (v := 10) hx hb dX6_renew_6 (by decide) ?_
  refine lv_iconst (v := 0) hx hb dX6_renew_8 (by decide) ?_
  refine k_ci (wr := []) (ws2 := [oM ma za aa va ka ta (upd (upd y 0 0) 1 (nI (recN q))), aI cI za 225 0 (upd z 10 0), aI cI va 1350 0 (recS sd z q)]) (k_runV X w (met_X6_change l D cI cJ cO ma za aa va ka ta (upd y 0 0) z sd q 10 0 ((upd_no (by decide)).trans hy) hq (by omega) H.size) gX6_renew_X6_change rfl rfl rfl 2 hdX6_change ⟨Nat.le_of_ble_eq_true rfl, Nat.le_of_ble_eq_true rfl⟩ [0, 1, 2] rfl rfl 0 6 rfl rfl rfl rfl hl.1 rfl (Nat.le_of_ble_eq_true rfl) dX6_renew_9 ⟨Nat.le_of_ble_eq_true rfl, Nat.le_of_ble_eq_true rfl⟩) w hA [0, 1, 2] [] rfl rfl rfl (by decide) [0, 1, 2] rfl rfl (fun H locs w => ?_)
  exact fin _ _ _ _ _ w rfl dX6_renew_12
theorem hdX6_lay : yX6_lay.cls = RX6 ∧ yX6_lay.cls ≠ "java/lang/invoke/MethodHandle" ∧ yX6_lay.cls ≠ "java/lang/invoke/VarHandle" ∧ (parseMethodDescriptor yX6_lay.desc).map (fun d => d.parameters.length) = some 1 := ⟨rfl, by decide, by decide, by decide +kernel⟩
theorem iX6_lay_X6 : ∀ w ∈ wsX60, w ∈ wsX6_lay := fun _ h => List.mem_cons_of_mem _ (List.mem_append_right _ h)
set_option maxHeartbeats 4000000 in
set_option maxRecDepth 100000 in
theorem met_X6_lay (l : Launch) (D : va_G) (cI cJ cO : ClassId) (ma : Nat) (za : Nat) (aa : Nat) (va : Nat) (ka : Nat) (ta : Nat) (y : Nat → Int32) (z : Nat → Int32) (sd : Nat → Int32) (q : Nat) (k : Nat) (hy : y 1 = nI q) (hq : q ≤ 6) (hk : k < 6) : CI l D (TY cI cJ cO) yX6_lay wsX6_lay ({ frames := 2, cells := 0, slots := 0, locals := 44 }) [.ref ma, .int (nI k)] [oM ma za aa va ka ta y, aI cI za 225 0 z, aI cI va 1350 0 sd] (z 6) [oM ma za aa va ka ta (upd (upd y 0 0) 1 (nI (recN q))), aI cI za 225 0 (upd z 6 (nI k)), aI cI va 1350 0 (recS sd z q)] := by
  refine CI.of (plainFor_of_name (by decide)) rfl (Nat.le_of_ble_eq_true rfl) (rfl) (fun p e s m below meth c A ls Q X hA w hl fin => ?_)
  obtain ⟨hx, hb, hml, hown, hts⟩ := id X.1
  have hl : lv_has ls 2 [(0, .ref ma), (1, .int (nI k))] := hl
  refine lv_aload_n hx hb dX6_lay_0 rfl (lv_at hl 0 rfl) ?_
  refine lv_iload_n hx hb dX6_lay_1 rfl (lv_at hl 1 rfl) ?_
  refine k_ciR (k_runS X w (met_X6_isPose l D cI cJ cO (nI k)  s.heap.size) gX6_lay_X6_isPose rfl rfl rfl 1 hdX6_isPose ⟨Nat.le_of_ble_eq_true rfl, Nat.le_of_ble_eq_true rfl⟩ [] rfl rfl rfl hl.1 rfl (Nat.le_of_ble_eq_true rfl) dX6_lay_2 ⟨Nat.le_of_ble_eq_true rfl, Nat.le_of_ble_eq_true rfl⟩) w hA [] rfl (fun H locs w => ?_)
  refine lv_if_eq (tgt := 12) hx hb dX6_lay_5 (by decide) (fun c1 => absurd c1 (in5 hk)) (fun c1 => ?_)
  refine lv_iconst (v := 0) hx hb dX6_lay_8 (by decide) ?_
  refine lv_goto (tgt := 13) hx hb dX6_lay_9 (by decide) ?_
  refine k_put X w 0 rfl rfl 0 (by decide) rfl iX6_lay_X6 (List.mem_of_getElem? (i := 1) rfl) tyX6_ok nmX6 rfl rfl (Nat.le_of_ble_eq_true rfl) (ws2 := [oM ma za aa va ka ta (upd y 0 0), aI cI za 225 0 z, aI cI va 1350 0 sd]) rfl dX6_lay_13 (fun H locs w => ?_)
  refine lv_aload_n hx hb dX6_lay_16 rfl (lv_at hl 0 rfl) ?_
  refine k_get X w 0 rfl rfl 0 (by decide) rfl iX6_lay_X6 (List.mem_of_getElem? (i := 1) rfl) (v := .int 0) (congrArg (fun t => some (Value.int t)) (upd_is _ _ _)) dX6_lay_17 ?_
  refine lv_if_le (tgt := 27) hx hb dX6_lay_20 (by decide) (fun c2 => ?_) (fun c2 => absurd c2 (by decide))
  refine lv_aload_n hx hb dX6_lay_27 rfl (lv_at hl 0 rfl) ?_
  refine lv_bipush (v := 6) hx hb dX6_lay_28 (by decide) ?_
  refine lv_iload_n hx hb dX6_lay_30 rfl (lv_at hl 1 rfl) ?_
  refine k_ci (wr := []) (ws2 := [oM ma za aa va ka ta (upd (upd y 0 0) 1 (nI (recN q))), aI cI za 225 0 (upd z 6 (nI k)), aI cI va 1350 0 (recS sd z q)]) (k_runV X w (met_X6_change l D cI cJ cO ma za aa va ka ta (upd y 0 0) z sd q 6 (nI k) ((upd_no (by decide)).trans hy) hq (by omega) H.size) gX6_lay_X6_change rfl rfl rfl 2 hdX6_change ⟨Nat.le_of_ble_eq_true rfl, Nat.le_of_ble_eq_true rfl⟩ [0, 1, 2] rfl rfl 0 6 rfl rfl rfl rfl hl.1 rfl (Nat.le_of_ble_eq_true rfl) dX6_lay_31 ⟨Nat.le_of_ble_eq_true rfl, Nat.le_of_ble_eq_true rfl⟩) w hA [0, 1, 2] [] rfl rfl rfl (by decide) [0, 1, 2] rfl rfl (fun H locs w => ?_)
  exact fin _ _ _ _ _ w rfl dX6_lay_34
set_option maxHeartbeats 4000000 in
set_option maxRecDepth 100000 in
theorem met_X6_lay_t (l : Launch) (D : va_G) (cI cJ cO : ClassId) (ma : Nat) (za : Nat) (aa : Nat) (va : Nat) (ka : Nat) (ta : Nat) (y : Nat → Int32) (x : Int32) (hin : ¬ inR x 0 5) : CI l D (TY cI cJ cO) yX6_lay wsX6_lay ({ frames := 2, cells := 0, slots := 0, locals := 42 }) [.ref ma, .int x] [oM ma za aa va ka ta y] 0 [oM ma za aa va ka ta (upd y 0 1)] := by
  refine CI.of (plainFor_of_name (by decide)) rfl (Nat.le_of_ble_eq_true rfl) (rfl) (fun p e s m below meth c A ls Q X hA w hl fin => ?_)
  obtain ⟨hx, hb, hml, hown, hts⟩ := id X.1
  have hl : lv_has ls 2 [(0, .ref ma), (1, .int x)] := hl
  refine lv_aload_n hx hb dX6_lay_0 rfl (lv_at hl 0 rfl) ?_
  refine lv_iload_n hx hb dX6_lay_1 rfl (lv_at hl 1 rfl) ?_
  refine k_ciR (k_runS X w (met_X6_isPose l D cI cJ cO x  s.heap.size) gX6_lay_X6_isPose rfl rfl rfl 1 hdX6_isPose ⟨Nat.le_of_ble_eq_true rfl, Nat.le_of_ble_eq_true rfl⟩ [] rfl rfl rfl hl.1 rfl (Nat.le_of_ble_eq_true rfl) dX6_lay_2 ⟨Nat.le_of_ble_eq_true rfl, Nat.le_of_ble_eq_true rfl⟩) w hA [] rfl (fun H locs w => ?_)
  refine lv_if_eq (tgt := 12) hx hb dX6_lay_5 (by decide) (fun c1 => ?_) (fun c1 => absurd (inB_n hin) c1)
  refine lv_iconst (v := 1) hx hb dX6_lay_12 (by decide) ?_
  refine k_put X w 0 rfl rfl 0 (by decide) rfl iX6_lay_X6 (List.mem_of_getElem? (i := 1) rfl) tyX6_ok nmX6 rfl rfl (Nat.le_of_ble_eq_true rfl) (ws2 := [oM ma za aa va ka ta (upd y 0 1)]) rfl dX6_lay_13 (fun H locs w => ?_)
  refine lv_aload_n hx hb dX6_lay_16 rfl (lv_at hl 0 rfl) ?_
  refine k_get X w 0 rfl rfl 0 (by decide) rfl iX6_lay_X6 (List.mem_of_getElem? (i := 1) rfl) (v := .int 1) (congrArg (fun t => some (Value.int t)) (upd_is _ _ _)) dX6_lay_17 ?_
  refine lv_if_le (tgt := 27) hx hb dX6_lay_20 (by decide) (fun c2 => absurd c2 (by decide)) (fun c2 => ?_)
  refine lv_iconst (v := 0) hx hb dX6_lay_23 (by decide) ?_
  refine lv_goto (tgt := 34) hx hb dX6_lay_24 (by decide) ?_
  exact fin _ _ _ _ _ w rfl dX6_lay_34
theorem hdX6_pass : yX6_pass.cls = RX6 ∧ yX6_pass.cls ≠ "java/lang/invoke/MethodHandle" ∧ yX6_pass.cls ≠ "java/lang/invoke/VarHandle" ∧ (parseMethodDescriptor yX6_pass.desc).map (fun d => d.parameters.length) = some 1 := ⟨rfl, by decide, by decide, by decide +kernel⟩
theorem iX6_pass_X6 : ∀ w ∈ wsX60, w ∈ wsX6_pass := fun _ h => List.mem_cons_of_mem _ (List.mem_append_right _ h)
set_option maxHeartbeats 4000000 in
set_option maxRecDepth 100000 in
theorem met_X6_pass (l : Launch) (D : va_G) (cI cJ cO : ClassId) (ma : Nat) (za : Nat) (aa : Nat) (va : Nat) (ka : Nat) (ta : Nat) (y : Nat → Int32) (z : Nat → Int32) (sd : Nat → Int32) (q : Nat) (k : Nat) (N : Nat) (hy : y 1 = nI q) (hq : q ≤ 6) (hob : okb z) (hz : z 6 = nI k) (hk : k < 6) (hin : inR (nI N) 1 99) (hN : N < 2 ^ 31) : CI l D (TY cI cJ cO) yX6_pass wsX6_pass ({ frames := 4, cells := 0, slots := 0, locals := 88 }) [.ref ma, .int (nI N)] [oM ma za aa va ka ta y, aI cI za 225 0 z, aI cI va 1350 0 sd] (hoursF N z k 9 - z 9) [oM ma za aa va ka ta (upd (upd y 0 0) 1 (nI (recN q))), aI cI za 225 0 (hoursF N z k), aI cI va 1350 0 (recS sd z q)] := by
  refine CI.of (plainFor_of_name (by decide)) rfl (Nat.le_of_ble_eq_true rfl) (rfl) (fun p e s m below meth c A ls Q X hA w hl fin => ?_)
  obtain ⟨hx, hb, hml, hown, hts⟩ := id X.1
  have hl : lv_has ls 2 [(0, .ref ma), (1, .int (nI N))] := hl
  refine lv_aload_n hx hb dX6_pass_0 rfl (lv_at hl 0 rfl) ?_
  refine lv_iload_n hx hb dX6_pass_1 rfl (lv_at hl 1 rfl) ?_
  refine lv_iconst (v := 1) hx hb dX6_pass_2 (by decide) ?_
  refine lv_bipush (v := 99) hx hb dX6_pass_3 (by decide) ?_
  refine k_ciR (k_runS X w (met_X6_in l D cI cJ cO (nI N) 1 99  s.heap.size) gX6_pass_X6_in rfl rfl rfl 3 hdX6_in ⟨Nat.le_of_ble_eq_true rfl, Nat.le_of_ble_eq_true rfl⟩ [] rfl rfl rfl hl.1 rfl (Nat.le_of_ble_eq_true rfl) dX6_pass_5 ⟨Nat.le_of_ble_eq_true rfl, Nat.le_of_ble_eq_true rfl⟩) w hA [] rfl (fun H locs w => ?_)
  refine lv_if_eq (tgt := 15) hx hb dX6_pass_8 (by decide) (fun c1 => absurd c1 (inB_y hin)) (fun c1 => ?_)
  refine lv_iconst (v := 0) hx hb dX6_pass_11 (by decide) ?_
  refine lv_goto (tgt := 16) hx hb dX6_pass_12 (by decide) ?_
  refine k_put X w 0 rfl rfl 0 (by decide) rfl iX6_pass_X6 (List.mem_of_getElem? (i := 1) rfl) tyX6_ok nmX6 rfl rfl (Nat.le_of_ble_eq_true rfl) (ws2 := [oM ma za aa va ka ta (upd y 0 0), aI cI za 225 0 z, aI cI va 1350 0 sd]) rfl dX6_pass_16 (fun H locs w => ?_)
  refine lv_aload_n hx hb dX6_pass_19 rfl (lv_at hl 0 rfl) ?_
  refine k_get X w 0 rfl rfl 0 (by decide) rfl iX6_pass_X6 (List.mem_of_getElem? (i := 1) rfl) (v := .int 0) (congrArg (fun t => some (Value.int t)) (upd_is _ _ _)) dX6_pass_20 ?_
  refine lv_if_le (tgt := 28) hx hb dX6_pass_23 (by decide) (fun c2 => ?_) (fun c2 => absurd c2 (by decide))
  refine lv_aload_n hx hb dX6_pass_28 rfl (lv_at hl 0 rfl) ?_
  refine k_cv (wr := []) (ws2 := [oM ma za aa va ka ta (upd (upd y 0 0) 1 (nI (recN q))), aI cI za 225 0 z, aI cI va 1350 0 (recS sd z q)]) (k_runV X w (met_X6_record l D cI cJ cO ma za aa va ka ta (upd y 0 0) z sd q ((upd_no (by decide)).trans hy) hq H.size) gX6_pass_X6_record rfl rfl rfl 0 hdX6_record ⟨Nat.le_of_ble_eq_true rfl, Nat.le_of_ble_eq_true rfl⟩ [0, 1, 2] rfl rfl 0 6 rfl rfl rfl rfl hl.1 rfl (Nat.le_of_ble_eq_true rfl) dX6_pass_29 ⟨Nat.le_of_ble_eq_true rfl, Nat.le_of_ble_eq_true rfl⟩) w hA [0, 1, 2] [] rfl rfl rfl (by decide) [0, 1, 2] rfl rfl (fun H locs w => ?_)
  refine lv_aload_n hx hb dX6_pass_32 rfl (lv_at hl 0 rfl) ?_
  refine lv_iload_n hx hb dX6_pass_33 rfl (lv_at hl 1 rfl) ?_
  refine k_ci (wr := [aI cI va 1350 0 (recS sd z q)]) (ws2 := [oM ma za aa va ka ta (upd (upd y 0 0) 1 (nI (recN q))), aI cI za 225 0 (hoursF N z k), aI cI va 1350 0 (recS sd z q)]) (k_runV X w (met_X6_hours l D cI cJ cO ma za aa va ka ta (upd (upd y 0 0) 1 (nI (recN q))) z k N hob hz hk hN H.size) gX6_pass_X6_hours rfl rfl rfl 1 hdX6_hours ⟨Nat.le_of_ble_eq_true rfl, Nat.le_of_ble_eq_true rfl⟩ [0, 1] rfl rfl 0 6 rfl rfl rfl rfl hl.1 rfl (Nat.le_of_ble_eq_true rfl) dX6_pass_34 ⟨Nat.le_of_ble_eq_true rfl, Nat.le_of_ble_eq_true rfl⟩) w hA [0, 1] [2] rfl rfl rfl (by decide) [1, 2, 0] rfl rfl (fun H locs w => ?_)
  exact fin _ _ _ _ _ w rfl dX6_pass_37
set_option maxHeartbeats 4000000 in
set_option maxRecDepth 100000 in
theorem met_X6_pass_t (l : Launch) (D : va_G) (cI cJ cO : ClassId) (ma : Nat) (za : Nat) (aa : Nat) (va : Nat) (ka : Nat) (ta : Nat) (y : Nat → Int32) (x : Int32) (hin : ¬ inR x 1 99) : CI l D (TY cI cJ cO) yX6_pass wsX6_pass ({ frames := 1, cells := 0, slots := 0, locals := 22 }) [.ref ma, .int x] [oM ma za aa va ka ta y] 0 [oM ma za aa va ka ta (upd y 0 1)] := by
  refine CI.of (plainFor_of_name (by decide)) rfl (Nat.le_of_ble_eq_true rfl) (rfl) (fun p e s m below meth c A ls Q X hA w hl fin => ?_)
  obtain ⟨hx, hb, hml, hown, hts⟩ := id X.1
  have hl : lv_has ls 2 [(0, .ref ma), (1, .int x)] := hl
  refine lv_aload_n hx hb dX6_pass_0 rfl (lv_at hl 0 rfl) ?_
  refine lv_iload_n hx hb dX6_pass_1 rfl (lv_at hl 1 rfl) ?_
  refine lv_iconst (v := 1) hx hb dX6_pass_2 (by decide) ?_
  refine lv_bipush (v := 99) hx hb dX6_pass_3 (by decide) ?_
  refine k_ciR (k_runS X w (met_X6_in l D cI cJ cO x 1 99  s.heap.size) gX6_pass_X6_in rfl rfl rfl 3 hdX6_in ⟨Nat.le_of_ble_eq_true rfl, Nat.le_of_ble_eq_true rfl⟩ [] rfl rfl rfl hl.1 rfl (Nat.le_of_ble_eq_true rfl) dX6_pass_5 ⟨Nat.le_of_ble_eq_true rfl, Nat.le_of_ble_eq_true rfl⟩) w hA [] rfl (fun H locs w => ?_)
  refine lv_if_eq (tgt := 15) hx hb dX6_pass_8 (by decide) (fun c1 => ?_) (fun c1 => absurd (inB_n hin) c1)
  refine lv_iconst (v := 1) hx hb dX6_pass_15 (by decide) ?_
  refine k_put X w 0 rfl rfl 0 (by decide) rfl iX6_pass_X6 (List.mem_of_getElem? (i := 1) rfl) tyX6_ok nmX6 rfl rfl (Nat.le_of_ble_eq_true rfl) (ws2 := [oM ma za aa va ka ta (upd y 0 1)]) rfl dX6_pass_16 (fun H locs w => ?_)
  refine lv_aload_n hx hb dX6_pass_19 rfl (lv_at hl 0 rfl) ?_
  refine k_get X w 0 rfl rfl 0 (by decide) rfl iX6_pass_X6 (List.mem_of_getElem? (i := 1) rfl) (v := .int 1) (congrArg (fun t => some (Value.int t)) (upd_is _ _ _)) dX6_pass_20 ?_
  refine lv_if_le (tgt := 28) hx hb dX6_pass_23 (by decide) (fun c2 => absurd c2 (by decide)) (fun c2 => ?_)
  refine lv_iconst (v := 0) hx hb dX6_pass_26 (by decide) ?_
  exact fin _ _ _ _ _ w rfl dX6_pass_27
theorem hdX6_read : yX6_read.cls = RX6 ∧ yX6_read.cls ≠ "java/lang/invoke/MethodHandle" ∧ yX6_read.cls ≠ "java/lang/invoke/VarHandle" ∧ (parseMethodDescriptor yX6_read.desc).map (fun d => d.parameters.length) = some 1 := ⟨rfl, by decide, by decide, by decide +kernel⟩
theorem iX6_read_X6 : ∀ w ∈ wsX60, w ∈ wsX6_read := fun _ h => List.mem_cons_of_mem _ (List.mem_append_right _ h)
set_option maxHeartbeats 4000000 in
set_option maxRecDepth 100000 in
theorem met_X6_read (l : Launch) (D : va_G) (cI cJ cO : ClassId) (ma : Nat) (za : Nat) (aa : Nat) (va : Nat) (ka : Nat) (ta : Nat) (y : Nat → Int32) (z : Nat → Int32) (sd : Nat → Int32) (q : Nat) (n : Nat) (k : Nat) (hy : y 1 = nI q) (hq : q ≤ 6) (hob : okb z) (hn : z 10 = nI n) (hn4 : n ≤ 40) (hk : k < 6) (hw : why z k = 0) : CI l D (TY cI cJ cO) yX6_read wsX6_read ({ frames := 3, cells := 0, slots := 0, locals := 66 }) [.ref ma, .int (nI k)] [oM ma za aa va ka ta y, aI cI za 225 0 z, aI cI va 1350 0 sd] (rate z k + 10000) [oM ma za aa va ka ta (upd (upd y 0 0) 1 (nI (recN q))), aI cI za 225 0 (readF z n k), aI cI va 1350 0 (recS sd z q)] := by
  refine CI.of (plainFor_of_name (by decide)) rfl (Nat.le_of_ble_eq_true rfl) (rfl) (fun p e s m below meth c A ls Q X hA w hl fin => ?_)
  obtain ⟨hx, hb, hml, hown, hts⟩ := id X.1
  have hl : lv_has ls 2 [(0, .ref ma), (1, .int (nI k))] := hl
  refine lv_aload_n hx hb dX6_read_0 rfl (lv_at hl 0 rfl) ?_
  refine lv_iload_n hx hb dX6_read_1 rfl (lv_at hl 1 rfl) ?_
  refine k_ciR (k_runS X w (met_X6_isPose l D cI cJ cO (nI k)  s.heap.size) gX6_read_X6_isPose rfl rfl rfl 1 hdX6_isPose ⟨Nat.le_of_ble_eq_true rfl, Nat.le_of_ble_eq_true rfl⟩ [] rfl rfl rfl hl.1 rfl (Nat.le_of_ble_eq_true rfl) dX6_read_2 ⟨Nat.le_of_ble_eq_true rfl, Nat.le_of_ble_eq_true rfl⟩) w hA [] rfl (fun H locs w => ?_)
  refine lv_if_ne (tgt := 12) hx hb dX6_read_5 (by decide) (fun c1 => ?_) (fun c1 => absurd c1 (in5 hk))
  refine lv_aload_n hx hb dX6_read_12 rfl (lv_at hl 0 rfl) ?_
  refine lv_iload_n hx hb dX6_read_13 rfl (lv_at hl 1 rfl) ?_
  refine k_ciR (k_runV X w (met_X6_whyNot l D cI cJ cO ma za aa va ka ta y z n k hob hn hn4 H.size) gX6_read_X6_whyNot rfl rfl rfl 1 hdX6_whyNot ⟨Nat.le_of_ble_eq_true rfl, Nat.le_of_ble_eq_true rfl⟩ [0, 1] rfl rfl 0 6 rfl rfl rfl rfl hl.1 rfl (Nat.le_of_ble_eq_true rfl) dX6_read_14 ⟨Nat.le_of_ble_eq_true rfl, Nat.le_of_ble_eq_true rfl⟩) w hA [0, 1] rfl (fun H locs w => ?_)
  refine lv_if_ne (tgt := 24) hx hb dX6_read_17 (by decide) (fun c2 => absurd hw c2) (fun c2 => ?_)
  refine lv_iconst (v := 0) hx hb dX6_read_20 (by decide) ?_
  refine lv_goto (tgt := 25) hx hb dX6_read_21 (by decide) ?_
  refine k_put X w 0 rfl rfl 0 (by decide) rfl iX6_read_X6 (List.mem_of_getElem? (i := 1) rfl) tyX6_ok nmX6 rfl rfl (Nat.le_of_ble_eq_true rfl) (ws2 := [oM ma za aa va ka ta (upd y 0 0), aI cI za 225 0 z, aI cI va 1350 0 sd]) rfl dX6_read_25 (fun H locs w => ?_)
  refine lv_aload_n hx hb dX6_read_28 rfl (lv_at hl 0 rfl) ?_
  refine k_get X w 0 rfl rfl 0 (by decide) rfl iX6_read_X6 (List.mem_of_getElem? (i := 1) rfl) (v := .int 0) (congrArg (fun t => some (Value.int t)) (upd_is _ _ _)) dX6_read_29 ?_
  refine lv_if_le (tgt := 37) hx hb dX6_read_32 (by decide) (fun c3 => ?_) (fun c3 => absurd c3 (by decide))
  refine lv_aload_n hx hb dX6_read_37 rfl (lv_at hl 0 rfl) ?_
  refine k_cv (wr := []) (ws2 := [oM ma za aa va ka ta (upd (upd y 0 0) 1 (nI (recN q))), aI cI za 225 0 z, aI cI va 1350 0 (recS sd z q)]) (k_runV X w (met_X6_record l D cI cJ cO ma za aa va ka ta (upd y 0 0) z sd q ((upd_no (by decide)).trans hy) hq H.size) gX6_read_X6_record rfl rfl rfl 0 hdX6_record ⟨Nat.le_of_ble_eq_true rfl, Nat.le_of_ble_eq_true rfl⟩ [0, 1, 2] rfl rfl 0 6 rfl rfl rfl rfl hl.1 rfl (Nat.le_of_ble_eq_true rfl) dX6_read_38 ⟨Nat.le_of_ble_eq_true rfl, Nat.le_of_ble_eq_true rfl⟩) w hA [0, 1, 2] [] rfl rfl rfl (by decide) [0, 1, 2] rfl rfl (fun H locs w => ?_)
  refine lv_aload_n hx hb dX6_read_41 rfl (lv_at hl 0 rfl) ?_
  refine lv_iload_n hx hb dX6_read_42 rfl (lv_at hl 1 rfl) ?_
  refine k_ci (wr := [aI cI va 1350 0 (recS sd z q)]) (ws2 := [oM ma za aa va ka ta (upd (upd y 0 0) 1 (nI (recN q))), aI cI za 225 0 (readF z n k), aI cI va 1350 0 (recS sd z q)]) (k_runV X w (met_X6_doRead l D cI cJ cO ma za aa va ka ta (upd (upd y 0 0) 1 (nI (recN q))) z n k hob hk hn (why_lt hn hn4 hw) H.size) gX6_read_X6_doRead rfl rfl rfl 1 hdX6_doRead ⟨Nat.le_of_ble_eq_true rfl, Nat.le_of_ble_eq_true rfl⟩ [0, 1] rfl rfl 0 6 rfl rfl rfl rfl hl.1 rfl (Nat.le_of_ble_eq_true rfl) dX6_read_43 ⟨Nat.le_of_ble_eq_true rfl, Nat.le_of_ble_eq_true rfl⟩) w hA [0, 1] [2] rfl rfl rfl (by decide) [1, 2, 0] rfl rfl (fun H locs w => ?_)
  exact fin _ _ _ _ _ w rfl dX6_read_46
set_option maxHeartbeats 4000000 in
set_option maxRecDepth 100000 in
theorem met_X6_read_t1 (l : Launch) (D : va_G) (cI cJ cO : ClassId) (ma : Nat) (za : Nat) (aa : Nat) (va : Nat) (ka : Nat) (ta : Nat) (y : Nat → Int32) (x : Int32) (hin : ¬ inR x 0 5) : CI l D (TY cI cJ cO) yX6_read wsX6_read ({ frames := 2, cells := 0, slots := 0, locals := 42 }) [.ref ma, .int x] [oM ma za aa va ka ta y] 0 [oM ma za aa va ka ta (upd y 0 1)] := by
  refine CI.of (plainFor_of_name (by decide)) rfl (Nat.le_of_ble_eq_true rfl) (rfl) (fun p e s m below meth c A ls Q X hA w hl fin => ?_)
  obtain ⟨hx, hb, hml, hown, hts⟩ := id X.1
  have hl : lv_has ls 2 [(0, .ref ma), (1, .int x)] := hl
  refine lv_aload_n hx hb dX6_read_0 rfl (lv_at hl 0 rfl) ?_
  refine lv_iload_n hx hb dX6_read_1 rfl (lv_at hl 1 rfl) ?_
  refine k_ciR (k_runS X w (met_X6_isPose l D cI cJ cO x  s.heap.size) gX6_read_X6_isPose rfl rfl rfl 1 hdX6_isPose ⟨Nat.le_of_ble_eq_true rfl, Nat.le_of_ble_eq_true rfl⟩ [] rfl rfl rfl hl.1 rfl (Nat.le_of_ble_eq_true rfl) dX6_read_2 ⟨Nat.le_of_ble_eq_true rfl, Nat.le_of_ble_eq_true rfl⟩) w hA [] rfl (fun H locs w => ?_)
  refine lv_if_ne (tgt := 12) hx hb dX6_read_5 (by decide) (fun c1 => absurd (inB_n hin) c1) (fun c1 => ?_)
  refine lv_iconst (v := 1) hx hb dX6_read_8 (by decide) ?_
  refine lv_goto (tgt := 25) hx hb dX6_read_9 (by decide) ?_
  refine k_put X w 0 rfl rfl 0 (by decide) rfl iX6_read_X6 (List.mem_of_getElem? (i := 1) rfl) tyX6_ok nmX6 rfl rfl (Nat.le_of_ble_eq_true rfl) (ws2 := [oM ma za aa va ka ta (upd y 0 1)]) rfl dX6_read_25 (fun H locs w => ?_)
  refine lv_aload_n hx hb dX6_read_28 rfl (lv_at hl 0 rfl) ?_
  refine k_get X w 0 rfl rfl 0 (by decide) rfl iX6_read_X6 (List.mem_of_getElem? (i := 1) rfl) (v := .int 1) (congrArg (fun t => some (Value.int t)) (upd_is _ _ _)) dX6_read_29 ?_
  refine lv_if_le (tgt := 37) hx hb dX6_read_32 (by decide) (fun c2 => absurd c2 (by decide)) (fun c2 => ?_)
  refine lv_iconst (v := 0) hx hb dX6_read_35 (by decide) ?_
  exact fin _ _ _ _ _ w rfl dX6_read_36
set_option maxHeartbeats 4000000 in
set_option maxRecDepth 100000 in
theorem met_X6_read_t2 (l : Launch) (D : va_G) (cI cJ cO : ClassId) (ma : Nat) (za : Nat) (aa : Nat) (va : Nat) (ka : Nat) (ta : Nat) (y : Nat → Int32) (z : Nat → Int32) (k : Nat) (n : Nat) (hob : okb z) (hn : z 10 = nI n) (hn4 : n ≤ 40) (hk : k < 6) (hw : ¬ why z k = 0) : CI l D (TY cI cJ cO) yX6_read wsX6_read ({ frames := 3, cells := 0, slots := 0, locals := 62 }) [.ref ma, .int (nI k)] [oM ma za aa va ka ta y, aI cI za 225 0 z] 0 [oM ma za aa va ka ta (upd y 0 2), aI cI za 225 0 z] := by
  refine CI.of (plainFor_of_name (by decide)) rfl (Nat.le_of_ble_eq_true rfl) (rfl) (fun p e s m below meth c A ls Q X hA w hl fin => ?_)
  obtain ⟨hx, hb, hml, hown, hts⟩ := id X.1
  have hl : lv_has ls 2 [(0, .ref ma), (1, .int (nI k))] := hl
  refine lv_aload_n hx hb dX6_read_0 rfl (lv_at hl 0 rfl) ?_
  refine lv_iload_n hx hb dX6_read_1 rfl (lv_at hl 1 rfl) ?_
  refine k_ciR (k_runS X w (met_X6_isPose l D cI cJ cO (nI k)  s.heap.size) gX6_read_X6_isPose rfl rfl rfl 1 hdX6_isPose ⟨Nat.le_of_ble_eq_true rfl, Nat.le_of_ble_eq_true rfl⟩ [] rfl rfl rfl hl.1 rfl (Nat.le_of_ble_eq_true rfl) dX6_read_2 ⟨Nat.le_of_ble_eq_true rfl, Nat.le_of_ble_eq_true rfl⟩) w hA [] rfl (fun H locs w => ?_)
  refine lv_if_ne (tgt := 12) hx hb dX6_read_5 (by decide) (fun c1 => ?_) (fun c1 => absurd c1 (in5 hk))
  refine lv_aload_n hx hb dX6_read_12 rfl (lv_at hl 0 rfl) ?_
  refine lv_iload_n hx hb dX6_read_13 rfl (lv_at hl 1 rfl) ?_
  refine k_ciR (k_runV X w (met_X6_whyNot l D cI cJ cO ma za aa va ka ta y z n k hob hn hn4 H.size) gX6_read_X6_whyNot rfl rfl rfl 1 hdX6_whyNot ⟨Nat.le_of_ble_eq_true rfl, Nat.le_of_ble_eq_true rfl⟩ [0, 1] rfl rfl 0 6 rfl rfl rfl rfl hl.1 rfl (Nat.le_of_ble_eq_true rfl) dX6_read_14 ⟨Nat.le_of_ble_eq_true rfl, Nat.le_of_ble_eq_true rfl⟩) w hA [0, 1] rfl (fun H locs w => ?_)
  refine lv_if_ne (tgt := 24) hx hb dX6_read_17 (by decide) (fun c2 => ?_) (fun c2 => absurd c2 hw)
  refine lv_iconst (v := 2) hx hb dX6_read_24 (by decide) ?_
  refine k_put X w 0 rfl rfl 0 (by decide) rfl iX6_read_X6 (List.mem_of_getElem? (i := 1) rfl) tyX6_ok nmX6 rfl rfl (Nat.le_of_ble_eq_true rfl) (ws2 := [oM ma za aa va ka ta (upd y 0 2), aI cI za 225 0 z]) rfl dX6_read_25 (fun H locs w => ?_)
  refine lv_aload_n hx hb dX6_read_28 rfl (lv_at hl 0 rfl) ?_
  refine k_get X w 0 rfl rfl 0 (by decide) rfl iX6_read_X6 (List.mem_of_getElem? (i := 1) rfl) (v := .int 2) (congrArg (fun t => some (Value.int t)) (upd_is _ _ _)) dX6_read_29 ?_
  refine lv_if_le (tgt := 37) hx hb dX6_read_32 (by decide) (fun c3 => absurd c3 (by decide)) (fun c3 => ?_)
  refine lv_iconst (v := 0) hx hb dX6_read_35 (by decide) ?_
  exact fin _ _ _ _ _ w rfl dX6_read_36
theorem hdX6_least : yX6_least.cls = RX6 ∧ yX6_least.cls ≠ "java/lang/invoke/MethodHandle" ∧ yX6_least.cls ≠ "java/lang/invoke/VarHandle" ∧ (parseMethodDescriptor yX6_least.desc).map (fun d => d.parameters.length) = some 1 := ⟨rfl, by decide, by decide, by decide +kernel⟩
set_option maxHeartbeats 4000000 in
set_option maxRecDepth 100000 in
theorem met_X6_least (l : Launch) (D : va_G) (cI cJ cO : ClassId) (j : Int32)  : CI l D (TY cI cJ cO) yX6_least wsX6_least ({ frames := 0, cells := 0, slots := 0, locals := 0 }) [.int j] [] (lsS j) [] := by
  refine CI.of (plainFor_of_name (by decide)) rfl (Nat.le_of_ble_eq_true rfl) (rfl) (fun p e s m below meth c A ls Q X hA w hl fin => ?_)
  obtain ⟨hx, hb, hml, hown, hts⟩ := id X.1
  have hl : lv_has ls 1 [(0, .int j)] := hl
  refine lv_iload_n hx hb dX6_least_0 rfl (lv_at hl 0 rfl) ?_
  refine lv_if_ne (tgt := 9) hx hb dX6_least_1 (by decide) (fun c1 => ?_) (fun c1 => ?_)
  · refine lv_iload_n hx hb dX6_least_9 rfl (lv_at hl 0 rfl) ?_
    refine lv_iconst (v := 1) hx hb dX6_least_10 (by decide) ?_
    refine lv_icmp_ne (tgt := 18) hx hb dX6_least_11 (by decide) (fun c2 => ?_) (fun c2 => ?_)
    · refine lv_iload_n hx hb dX6_least_18 rfl (lv_at hl 0 rfl) ?_
      refine lv_iconst (v := 2) hx hb dX6_least_19 (by decide) ?_
      refine lv_icmp_ne (tgt := 27) hx hb dX6_least_20 (by decide) (fun c3 => ?_) (fun c3 => ?_)
      · refine lv_iconst (v := 5) hx hb dX6_least_27 (by decide) ?_
        exact fin _ _ _ _ _ w (by simp [lsS, c1, c2, c3]) dX6_least_28
      · refine lv_iconst (v := 1) hx hb dX6_least_23 (by decide) ?_
        refine lv_goto (tgt := 28) hx hb dX6_least_24 (by decide) ?_
        exact fin _ _ _ _ _ w (by simp [lsS, c1, c2, c3]) dX6_least_28
    · refine lv_iconst (v := 0) hx hb dX6_least_14 (by decide) ?_
      refine lv_goto (tgt := 28) hx hb dX6_least_15 (by decide) ?_
      exact fin _ _ _ _ _ w (by simp [lsS, c1, c2]) dX6_least_28
  · refine lv_bipush (v := 10) hx hb dX6_least_4 (by decide) ?_
    refine lv_goto (tgt := 28) hx hb dX6_least_6 (by decide) ?_
    exact fin _ _ _ _ _ w (by simp [lsS, c1]) dX6_least_28
theorem hdX6_most : yX6_most.cls = RX6 ∧ yX6_most.cls ≠ "java/lang/invoke/MethodHandle" ∧ yX6_most.cls ≠ "java/lang/invoke/VarHandle" ∧ (parseMethodDescriptor yX6_most.desc).map (fun d => d.parameters.length) = some 1 := ⟨rfl, by decide, by decide, by decide +kernel⟩
set_option maxHeartbeats 4000000 in
set_option maxRecDepth 100000 in
theorem met_X6_most (l : Launch) (D : va_G) (cI cJ cO : ClassId) (j : Int32)  : CI l D (TY cI cJ cO) yX6_most wsX6_most ({ frames := 0, cells := 0, slots := 0, locals := 0 }) [.int j] [] (msS j) [] := by
  refine CI.of (plainFor_of_name (by decide)) rfl (Nat.le_of_ble_eq_true rfl) (rfl) (fun p e s m below meth c A ls Q X hA w hl fin => ?_)
  obtain ⟨hx, hb, hml, hown, hts⟩ := id X.1
  have hl : lv_has ls 1 [(0, .int j)] := hl
  refine lv_iload_n hx hb dX6_most_0 rfl (lv_at hl 0 rfl) ?_
  refine lv_iconst (v := 1) hx hb dX6_most_1 (by decide) ?_
  refine lv_icmp_ne (tgt := 10) hx hb dX6_most_2 (by decide) (fun c1 => ?_) (fun c1 => ?_)
  · refine lv_iload_n hx hb dX6_most_10 rfl (lv_at hl 0 rfl) ?_
    refine lv_iconst (v := 3) hx hb dX6_most_11 (by decide) ?_
    refine lv_icmp_ne (tgt := 21) hx hb dX6_most_12 (by decide) (fun c2 => ?_) (fun c2 => ?_)
    · refine lv_sipush (v := 200) hx hb dX6_most_21 (by decide) ?_
      exact fin _ _ _ _ _ w (by simp [msS, c1, c2]) dX6_most_24
    · refine lv_sipush (v := 900) hx hb dX6_most_15 (by decide) ?_
      refine lv_goto (tgt := 24) hx hb dX6_most_18 (by decide) ?_
      exact fin _ _ _ _ _ w (by simp [msS, c1, c2]) dX6_most_24
  · refine lv_bipush (v := 100) hx hb dX6_most_5 (by decide) ?_
    refine lv_goto (tgt := 24) hx hb dX6_most_7 (by decide) ?_
    exact fin _ _ _ _ _ w (by simp [msS, c1]) dX6_most_24
theorem hdX6_set : yX6_set.cls = RX6 ∧ yX6_set.cls ≠ "java/lang/invoke/MethodHandle" ∧ yX6_set.cls ≠ "java/lang/invoke/VarHandle" ∧ (parseMethodDescriptor yX6_set.desc).map (fun d => d.parameters.length) = some 2 := ⟨rfl, by decide, by decide, by decide +kernel⟩
theorem iX6_set_X6 : ∀ w ∈ wsX60, w ∈ wsX6_set := fun _ h => List.mem_cons_of_mem _ (List.mem_append_right _ h)
set_option maxHeartbeats 4000000 in
set_option maxRecDepth 100000 in
theorem met_X6_set (l : Launch) (D : va_G) (cI cJ cO : ClassId) (ma : Nat) (za : Nat) (aa : Nat) (va : Nat) (ka : Nat) (ta : Nat) (y : Nat → Int32) (z : Nat → Int32) (sd : Nat → Int32) (q : Nat) (j : Nat) (x : Int32) (hy : y 1 = nI q) (hq : q ≤ 6) (hj : j < 4) (hin : inR x (lsS (nI j)) (msS (nI j))) : CI l D (TY cI cJ cO) yX6_set wsX6_set ({ frames := 2, cells := 0, slots := 0, locals := 44 }) [.ref ma, .int (nI j), .int x] [oM ma za aa va ka ta y, aI cI za 225 0 z, aI cI va 1350 0 sd] (z (12 + j)) [oM ma za aa va ka ta (upd (upd y 0 0) 1 (nI (recN q))), aI cI za 225 0 (upd z (12 + j) x), aI cI va 1350 0 (recS sd z q)] := by
  refine CI.of (plainFor_of_name (by decide)) rfl (Nat.le_of_ble_eq_true rfl) (rfl) (fun p e s m below meth c A ls Q X hA w hl fin => ?_)
  obtain ⟨hx, hb, hml, hown, hts⟩ := id X.1
  have hl : lv_has ls 3 [(0, .ref ma), (1, .int (nI j)), (2, .int x)] := hl
  refine lv_aload_n hx hb dX6_set_0 rfl (lv_at hl 0 rfl) ?_
  refine lv_iload_n hx hb dX6_set_1 rfl (lv_at hl 1 rfl) ?_
  refine lv_iconst (v := 0) hx hb dX6_set_2 (by decide) ?_
  refine lv_iconst (v := 3) hx hb dX6_set_3 (by decide) ?_
  refine k_ciR (k_runS X w (met_X6_in l D cI cJ cO (nI j) 0 3  s.heap.size) gX6_set_X6_in rfl rfl rfl 3 hdX6_in ⟨Nat.le_of_ble_eq_true rfl, Nat.le_of_ble_eq_true rfl⟩ [] rfl rfl rfl hl.1 rfl (Nat.le_of_ble_eq_true rfl) dX6_set_4 ⟨Nat.le_of_ble_eq_true rfl, Nat.le_of_ble_eq_true rfl⟩) w hA [] rfl (fun H locs w => ?_)
  refine lv_if_ne (tgt := 14) hx hb dX6_set_7 (by decide) (fun c1 => ?_) (fun c1 => absurd c1 (in3 hj))
  refine lv_iload_n hx hb dX6_set_14 rfl (lv_at hl 2 rfl) ?_
  refine lv_iload_n hx hb dX6_set_15 rfl (lv_at hl 1 rfl) ?_
  refine k_ciR (k_runS X w (met_X6_least l D cI cJ cO (nI j)  H.size) gX6_set_X6_least rfl rfl rfl 1 hdX6_least ⟨Nat.le_of_ble_eq_true rfl, Nat.le_of_ble_eq_true rfl⟩ [] rfl rfl rfl hl.1 rfl (Nat.le_of_ble_eq_true rfl) dX6_set_16 ⟨Nat.le_of_ble_eq_true rfl, Nat.le_of_ble_eq_true rfl⟩) w hA [] rfl (fun H locs w => ?_)
  refine lv_iload_n hx hb dX6_set_19 rfl (lv_at hl 1 rfl) ?_
  refine k_ciR (k_runS X w (met_X6_most l D cI cJ cO (nI j)  H.size) gX6_set_X6_most rfl rfl rfl 1 hdX6_most ⟨Nat.le_of_ble_eq_true rfl, Nat.le_of_ble_eq_true rfl⟩ [] rfl rfl rfl hl.1 rfl (Nat.le_of_ble_eq_true rfl) dX6_set_20 ⟨Nat.le_of_ble_eq_true rfl, Nat.le_of_ble_eq_true rfl⟩) w hA [] rfl (fun H locs w => ?_)
  refine k_ciR (k_runS X w (met_X6_in l D cI cJ cO x (lsS (nI j)) (msS (nI j))  H.size) gX6_set_X6_in rfl rfl rfl 3 hdX6_in ⟨Nat.le_of_ble_eq_true rfl, Nat.le_of_ble_eq_true rfl⟩ [] rfl rfl rfl hl.1 rfl (Nat.le_of_ble_eq_true rfl) dX6_set_23 ⟨Nat.le_of_ble_eq_true rfl, Nat.le_of_ble_eq_true rfl⟩) w hA [] rfl (fun H locs w => ?_)
  refine lv_if_eq (tgt := 33) hx hb dX6_set_26 (by decide) (fun c2 => absurd c2 (inB_y hin)) (fun c2 => ?_)
  refine lv_iconst (v := 0) hx hb dX6_set_29 (by decide) ?_
  refine lv_goto (tgt := 34) hx hb dX6_set_30 (by decide) ?_
  refine k_put X w 0 rfl rfl 0 (by decide) rfl iX6_set_X6 (List.mem_of_getElem? (i := 1) rfl) tyX6_ok nmX6 rfl rfl (Nat.le_of_ble_eq_true rfl) (ws2 := [oM ma za aa va ka ta (upd y 0 0), aI cI za 225 0 z, aI cI va 1350 0 sd]) rfl dX6_set_34 (fun H locs w => ?_)
  refine lv_aload_n hx hb dX6_set_37 rfl (lv_at hl 0 rfl) ?_
  refine k_get X w 0 rfl rfl 0 (by decide) rfl iX6_set_X6 (List.mem_of_getElem? (i := 1) rfl) (v := .int 0) (congrArg (fun t => some (Value.int t)) (upd_is _ _ _)) dX6_set_38 ?_
  refine lv_if_le (tgt := 48) hx hb dX6_set_41 (by decide) (fun c3 => ?_) (fun c3 => absurd c3 (by decide))
  refine lv_aload_n hx hb dX6_set_48 rfl (lv_at hl 0 rfl) ?_
  refine lv_bipush (v := 12) hx hb dX6_set_49 (by decide) ?_
  refine lv_iload_n hx hb dX6_set_51 rfl (lv_at hl 1 rfl) ?_
  refine lv_iadd hx hb dX6_set_52 ?_
  rw [show 12 + (nI j) = nI (12 + j) from nI_addp rfl rfl]
  refine lv_iload_n hx hb dX6_set_53 rfl (lv_at hl 2 rfl) ?_
  refine k_ci (wr := []) (ws2 := [oM ma za aa va ka ta (upd (upd y 0 0) 1 (nI (recN q))), aI cI za 225 0 (upd z (12 + j) x), aI cI va 1350 0 (recS sd z q)]) (k_runV X w (met_X6_change l D cI cJ cO ma za aa va ka ta (upd y 0 0) z sd q (12 + j) x ((upd_no (by decide)).trans hy) hq (by omega) H.size) gX6_set_X6_change rfl rfl rfl 2 hdX6_change ⟨Nat.le_of_ble_eq_true rfl, Nat.le_of_ble_eq_true rfl⟩ [0, 1, 2] rfl rfl 0 6 rfl rfl rfl rfl hl.1 rfl (Nat.le_of_ble_eq_true rfl) dX6_set_54 ⟨Nat.le_of_ble_eq_true rfl, Nat.le_of_ble_eq_true rfl⟩) w hA [0, 1, 2] [] rfl rfl rfl (by decide) [0, 1, 2] rfl rfl (fun H locs w => ?_)
  exact fin _ _ _ _ _ w rfl dX6_set_57
set_option maxHeartbeats 4000000 in
set_option maxRecDepth 100000 in
theorem met_X6_set_t1 (l : Launch) (D : va_G) (cI cJ cO : ClassId) (ma : Nat) (za : Nat) (aa : Nat) (va : Nat) (ka : Nat) (ta : Nat) (y : Nat → Int32) (x : Int32) (u : Int32) (hin : ¬ inR x 0 3) : CI l D (TY cI cJ cO) yX6_set wsX6_set ({ frames := 1, cells := 0, slots := 0, locals := 22 }) [.ref ma, .int x, .int u] [oM ma za aa va ka ta y] 0 [oM ma za aa va ka ta (upd y 0 1)] := by
  refine CI.of (plainFor_of_name (by decide)) rfl (Nat.le_of_ble_eq_true rfl) (rfl) (fun p e s m below meth c A ls Q X hA w hl fin => ?_)
  obtain ⟨hx, hb, hml, hown, hts⟩ := id X.1
  have hl : lv_has ls 3 [(0, .ref ma), (1, .int x), (2, .int u)] := hl
  refine lv_aload_n hx hb dX6_set_0 rfl (lv_at hl 0 rfl) ?_
  refine lv_iload_n hx hb dX6_set_1 rfl (lv_at hl 1 rfl) ?_
  refine lv_iconst (v := 0) hx hb dX6_set_2 (by decide) ?_
  refine lv_iconst (v := 3) hx hb dX6_set_3 (by decide) ?_
  refine k_ciR (k_runS X w (met_X6_in l D cI cJ cO x 0 3  s.heap.size) gX6_set_X6_in rfl rfl rfl 3 hdX6_in ⟨Nat.le_of_ble_eq_true rfl, Nat.le_of_ble_eq_true rfl⟩ [] rfl rfl rfl hl.1 rfl (Nat.le_of_ble_eq_true rfl) dX6_set_4 ⟨Nat.le_of_ble_eq_true rfl, Nat.le_of_ble_eq_true rfl⟩) w hA [] rfl (fun H locs w => ?_)
  refine lv_if_ne (tgt := 14) hx hb dX6_set_7 (by decide) (fun c1 => absurd (inB_n hin) c1) (fun c1 => ?_)
  refine lv_iconst (v := 1) hx hb dX6_set_10 (by decide) ?_
  refine lv_goto (tgt := 34) hx hb dX6_set_11 (by decide) ?_
  refine k_put X w 0 rfl rfl 0 (by decide) rfl iX6_set_X6 (List.mem_of_getElem? (i := 1) rfl) tyX6_ok nmX6 rfl rfl (Nat.le_of_ble_eq_true rfl) (ws2 := [oM ma za aa va ka ta (upd y 0 1)]) rfl dX6_set_34 (fun H locs w => ?_)
  refine lv_aload_n hx hb dX6_set_37 rfl (lv_at hl 0 rfl) ?_
  refine k_get X w 0 rfl rfl 0 (by decide) rfl iX6_set_X6 (List.mem_of_getElem? (i := 1) rfl) (v := .int 1) (congrArg (fun t => some (Value.int t)) (upd_is _ _ _)) dX6_set_38 ?_
  refine lv_if_le (tgt := 48) hx hb dX6_set_41 (by decide) (fun c2 => absurd c2 (by decide)) (fun c2 => ?_)
  refine lv_iconst (v := 0) hx hb dX6_set_44 (by decide) ?_
  refine lv_goto (tgt := 57) hx hb dX6_set_45 (by decide) ?_
  exact fin _ _ _ _ _ w rfl dX6_set_57
set_option maxHeartbeats 4000000 in
set_option maxRecDepth 100000 in
theorem met_X6_set_t2 (l : Launch) (D : va_G) (cI cJ cO : ClassId) (ma : Nat) (za : Nat) (aa : Nat) (va : Nat) (ka : Nat) (ta : Nat) (y : Nat → Int32) (j : Nat) (x : Int32) (hj : j < 4) (hin : ¬ inR x (lsS (nI j)) (msS (nI j))) : CI l D (TY cI cJ cO) yX6_set wsX6_set ({ frames := 1, cells := 0, slots := 0, locals := 22 }) [.ref ma, .int (nI j), .int x] [oM ma za aa va ka ta y] 0 [oM ma za aa va ka ta (upd y 0 2)] := by
  refine CI.of (plainFor_of_name (by decide)) rfl (Nat.le_of_ble_eq_true rfl) (rfl) (fun p e s m below meth c A ls Q X hA w hl fin => ?_)
  obtain ⟨hx, hb, hml, hown, hts⟩ := id X.1
  have hl : lv_has ls 3 [(0, .ref ma), (1, .int (nI j)), (2, .int x)] := hl
  refine lv_aload_n hx hb dX6_set_0 rfl (lv_at hl 0 rfl) ?_
  refine lv_iload_n hx hb dX6_set_1 rfl (lv_at hl 1 rfl) ?_
  refine lv_iconst (v := 0) hx hb dX6_set_2 (by decide) ?_
  refine lv_iconst (v := 3) hx hb dX6_set_3 (by decide) ?_
  refine k_ciR (k_runS X w (met_X6_in l D cI cJ cO (nI j) 0 3  s.heap.size) gX6_set_X6_in rfl rfl rfl 3 hdX6_in ⟨Nat.le_of_ble_eq_true rfl, Nat.le_of_ble_eq_true rfl⟩ [] rfl rfl rfl hl.1 rfl (Nat.le_of_ble_eq_true rfl) dX6_set_4 ⟨Nat.le_of_ble_eq_true rfl, Nat.le_of_ble_eq_true rfl⟩) w hA [] rfl (fun H locs w => ?_)
  refine lv_if_ne (tgt := 14) hx hb dX6_set_7 (by decide) (fun c1 => ?_) (fun c1 => absurd c1 (in3 hj))
  refine lv_iload_n hx hb dX6_set_14 rfl (lv_at hl 2 rfl) ?_
  refine lv_iload_n hx hb dX6_set_15 rfl (lv_at hl 1 rfl) ?_
  refine k_ciR (k_runS X w (met_X6_least l D cI cJ cO (nI j)  H.size) gX6_set_X6_least rfl rfl rfl 1 hdX6_least ⟨Nat.le_of_ble_eq_true rfl, Nat.le_of_ble_eq_true rfl⟩ [] rfl rfl rfl hl.1 rfl (Nat.le_of_ble_eq_true rfl) dX6_set_16 ⟨Nat.le_of_ble_eq_true rfl, Nat.le_of_ble_eq_true rfl⟩) w hA [] rfl (fun H locs w => ?_)
  refine lv_iload_n hx hb dX6_set_19 rfl (lv_at hl 1 rfl) ?_
  refine k_ciR (k_runS X w (met_X6_most l D cI cJ cO (nI j)  H.size) gX6_set_X6_most rfl rfl rfl 1 hdX6_most ⟨Nat.le_of_ble_eq_true rfl, Nat.le_of_ble_eq_true rfl⟩ [] rfl rfl rfl hl.1 rfl (Nat.le_of_ble_eq_true rfl) dX6_set_20 ⟨Nat.le_of_ble_eq_true rfl, Nat.le_of_ble_eq_true rfl⟩) w hA [] rfl (fun H locs w => ?_)
  refine k_ciR (k_runS X w (met_X6_in l D cI cJ cO x (lsS (nI j)) (msS (nI j))  H.size) gX6_set_X6_in rfl rfl rfl 3 hdX6_in ⟨Nat.le_of_ble_eq_true rfl, Nat.le_of_ble_eq_true rfl⟩ [] rfl rfl rfl hl.1 rfl (Nat.le_of_ble_eq_true rfl) dX6_set_23 ⟨Nat.le_of_ble_eq_true rfl, Nat.le_of_ble_eq_true rfl⟩) w hA [] rfl (fun H locs w => ?_)
  refine lv_if_eq (tgt := 33) hx hb dX6_set_26 (by decide) (fun c2 => ?_) (fun c2 => absurd (inB_n hin) c2)
  refine lv_iconst (v := 2) hx hb dX6_set_33 (by decide) ?_
  refine k_put X w 0 rfl rfl 0 (by decide) rfl iX6_set_X6 (List.mem_of_getElem? (i := 1) rfl) tyX6_ok nmX6 rfl rfl (Nat.le_of_ble_eq_true rfl) (ws2 := [oM ma za aa va ka ta (upd y 0 2)]) rfl dX6_set_34 (fun H locs w => ?_)
  refine lv_aload_n hx hb dX6_set_37 rfl (lv_at hl 0 rfl) ?_
  refine k_get X w 0 rfl rfl 0 (by decide) rfl iX6_set_X6 (List.mem_of_getElem? (i := 1) rfl) (v := .int 2) (congrArg (fun t => some (Value.int t)) (upd_is _ _ _)) dX6_set_38 ?_
  refine lv_if_le (tgt := 48) hx hb dX6_set_41 (by decide) (fun c3 => absurd c3 (by decide)) (fun c3 => ?_)
  refine lv_iconst (v := 0) hx hb dX6_set_44 (by decide) ?_
  refine lv_goto (tgt := 57) hx hb dX6_set_45 (by decide) ?_
  exact fin _ _ _ _ _ w rfl dX6_set_57
theorem hdX6_append : yX6_append.cls = RX6 ∧ yX6_append.cls ≠ "java/lang/invoke/MethodHandle" ∧ yX6_append.cls ≠ "java/lang/invoke/VarHandle" ∧ (parseMethodDescriptor yX6_append.desc).map (fun d => d.parameters.length) = some 1 := ⟨rfl, by decide, by decide, by decide +kernel⟩
theorem iX6_append_X6 : ∀ w ∈ wsX60, w ∈ wsX6_append := fun _ h => List.mem_cons_of_mem _ (List.mem_append_right _ h)
set_option maxHeartbeats 4000000 in
set_option maxRecDepth 100000 in
theorem met_X6_append (l : Launch) (D : va_G) (cI cJ cO : ClassId) (ma : Nat) (za : Nat) (aa : Nat) (va : Nat) (ka : Nat) (ta : Nat) (y : Nat → Int32) (tx : Nat → Int32) (len : Nat) (x : Int32) (hL : y 3 = nI len) (hL6 : len < 60) (hin : inR x 33 126) : CI l D (TY cI cJ cO) yX6_append wsX6_append ({ frames := 1, cells := 0, slots := 0, locals := 22 }) [.ref ma, .int x] [oM ma za aa va ka ta y, aI cI ta 60 0 tx] ((nI len) + 1) [oM ma za aa va ka ta (upd (upd y 0 0) 3 ((nI len) + 1)), aI cI ta 60 0 (upd tx len x)] := by
  refine CI.of (plainFor_of_name (by decide)) rfl (Nat.le_of_ble_eq_true rfl) (rfl) (fun p e s m below meth c A ls Q X hA w hl fin => ?_)
  obtain ⟨hx, hb, hml, hown, hts⟩ := id X.1
  have hl : lv_has ls 2 [(0, .ref ma), (1, .int x)] := hl
  refine lv_aload_n hx hb dX6_append_0 rfl (lv_at hl 0 rfl) ?_
  refine lv_iload_n hx hb dX6_append_1 rfl (lv_at hl 1 rfl) ?_
  refine lv_bipush (v := 33) hx hb dX6_append_2 (by decide) ?_
  refine lv_bipush (v := 126) hx hb dX6_append_4 (by decide) ?_
  refine k_ciR (k_runS X w (met_X6_in l D cI cJ cO x 33 126  s.heap.size) gX6_append_X6_in rfl rfl rfl 3 hdX6_in ⟨Nat.le_of_ble_eq_true rfl, Nat.le_of_ble_eq_true rfl⟩ [] rfl rfl rfl hl.1 rfl (Nat.le_of_ble_eq_true rfl) dX6_append_6 ⟨Nat.le_of_ble_eq_true rfl, Nat.le_of_ble_eq_true rfl⟩) w hA [] rfl (fun H locs w => ?_)
  refine lv_if_ne (tgt := 16) hx hb dX6_append_9 (by decide) (fun c1 => ?_) (fun c1 => absurd c1 (inB_y hin))
  refine lv_aload_n hx hb dX6_append_16 rfl (lv_at hl 0 rfl) ?_
  refine k_get X w 0 rfl rfl 8 (by decide) rfl iX6_append_X6 (List.mem_of_getElem? (i := 1) rfl) (v := .int (nI len)) (congrArg (fun t => some (Value.int t)) hL) dX6_append_17 ?_
  refine lv_bipush (v := 60) hx hb dX6_append_20 (by decide) ?_
  refine lv_icmp_ne (tgt := 29) hx hb dX6_append_22 (by decide) (fun c2 => ?_) (fun c2 => absurd c2 (nI_m60 hL6))
  refine lv_iconst (v := 0) hx hb dX6_append_29 (by decide) ?_
  refine k_put X w 0 rfl rfl 0 (by decide) rfl iX6_append_X6 (List.mem_of_getElem? (i := 2) rfl) tyX6_ok nmX6 rfl rfl (Nat.le_of_ble_eq_true rfl) (ws2 := [oM ma za aa va ka ta (upd y 0 0), aI cI ta 60 0 tx]) rfl dX6_append_30 (fun H locs w => ?_)
  refine lv_aload_n hx hb dX6_append_33 rfl (lv_at hl 0 rfl) ?_
  refine k_get X w 0 rfl rfl 0 (by decide) rfl iX6_append_X6 (List.mem_of_getElem? (i := 2) rfl) (v := .int 0) (congrArg (fun t => some (Value.int t)) (upd_is _ _ _)) dX6_append_34 ?_
  refine lv_if_le (tgt := 42) hx hb dX6_append_37 (by decide) (fun c3 => ?_) (fun c3 => absurd c3 (by decide))
  refine lv_aload_n hx hb dX6_append_42 rfl (lv_at hl 0 rfl) ?_
  refine k_get X w 0 rfl rfl 7 (by decide) rfl iX6_append_X6 (List.mem_of_getElem? (i := 3) rfl) (v := .ref ta) rfl dX6_append_43 ?_
  refine lv_aload_n hx hb dX6_append_46 rfl (lv_at hl 0 rfl) ?_
  refine k_get X w 0 rfl rfl 8 (by decide) rfl iX6_append_X6 (List.mem_of_getElem? (i := 1) rfl) (v := .int (nI len)) (congrArg (fun t => some (Value.int t)) hL) dX6_append_47 ?_
  refine lv_iload_n hx hb dX6_append_50 rfl (lv_at hl 1 rfl) ?_
  refine k_iast X w 1 0 rfl rfl len (kj := len) (Nat.zero_add _) (by omega) (by decide) rfl (ws2 := [oM ma za aa va ka ta (upd y 0 0), aI cI ta 60 0 (upd tx len x)]) rfl dX6_append_51 (fun H locs w => ?_)
  refine lv_aload_n hx hb dX6_append_52 rfl (lv_at hl 0 rfl) ?_
  refine lv_dup hx hb dX6_append_53 rfl ?_
  refine k_get X w 0 rfl rfl 8 (by decide) rfl iX6_append_X6 (List.mem_of_getElem? (i := 1) rfl) (v := .int (nI len)) (congrArg (fun t => some (Value.int t)) hL) dX6_append_54 ?_
  refine lv_iconst (v := 1) hx hb dX6_append_57 (by decide) ?_
  refine lv_iadd hx hb dX6_append_58 ?_
  refine k_put X w 0 rfl rfl 8 (by decide) rfl iX6_append_X6 (List.mem_of_getElem? (i := 1) rfl) tyX6_ok nmX6 rfl rfl (Nat.le_of_ble_eq_true rfl) (ws2 := [oM ma za aa va ka ta (upd (upd y 0 0) 3 ((nI len) + 1)), aI cI ta 60 0 (upd tx len x)]) rfl dX6_append_59 (fun H locs w => ?_)
  refine lv_aload_n hx hb dX6_append_62 rfl (lv_at hl 0 rfl) ?_
  refine k_get X w 0 rfl rfl 8 (by decide) rfl iX6_append_X6 (List.mem_of_getElem? (i := 1) rfl) (v := .int ((nI len) + 1)) (congrArg (fun t => some (Value.int t)) (upd_is _ _ _)) dX6_append_63 ?_
  exact fin _ _ _ _ _ w rfl dX6_append_66
set_option maxHeartbeats 4000000 in
set_option maxRecDepth 100000 in
theorem met_X6_append_t1 (l : Launch) (D : va_G) (cI cJ cO : ClassId) (ma : Nat) (za : Nat) (aa : Nat) (va : Nat) (ka : Nat) (ta : Nat) (y : Nat → Int32) (x : Int32) (hin : ¬ inR x 33 126) : CI l D (TY cI cJ cO) yX6_append wsX6_append ({ frames := 1, cells := 0, slots := 0, locals := 22 }) [.ref ma, .int x] [oM ma za aa va ka ta y] 0 [oM ma za aa va ka ta (upd y 0 1)] := by
  refine CI.of (plainFor_of_name (by decide)) rfl (Nat.le_of_ble_eq_true rfl) (rfl) (fun p e s m below meth c A ls Q X hA w hl fin => ?_)
  obtain ⟨hx, hb, hml, hown, hts⟩ := id X.1
  have hl : lv_has ls 2 [(0, .ref ma), (1, .int x)] := hl
  refine lv_aload_n hx hb dX6_append_0 rfl (lv_at hl 0 rfl) ?_
  refine lv_iload_n hx hb dX6_append_1 rfl (lv_at hl 1 rfl) ?_
  refine lv_bipush (v := 33) hx hb dX6_append_2 (by decide) ?_
  refine lv_bipush (v := 126) hx hb dX6_append_4 (by decide) ?_
  refine k_ciR (k_runS X w (met_X6_in l D cI cJ cO x 33 126  s.heap.size) gX6_append_X6_in rfl rfl rfl 3 hdX6_in ⟨Nat.le_of_ble_eq_true rfl, Nat.le_of_ble_eq_true rfl⟩ [] rfl rfl rfl hl.1 rfl (Nat.le_of_ble_eq_true rfl) dX6_append_6 ⟨Nat.le_of_ble_eq_true rfl, Nat.le_of_ble_eq_true rfl⟩) w hA [] rfl (fun H locs w => ?_)
  refine lv_if_ne (tgt := 16) hx hb dX6_append_9 (by decide) (fun c1 => absurd (inB_n hin) c1) (fun c1 => ?_)
  refine lv_iconst (v := 1) hx hb dX6_append_12 (by decide) ?_
  refine lv_goto (tgt := 30) hx hb dX6_append_13 (by decide) ?_
  refine k_put X w 0 rfl rfl 0 (by decide) rfl iX6_append_X6 (List.mem_of_getElem? (i := 2) rfl) tyX6_ok nmX6 rfl rfl (Nat.le_of_ble_eq_true rfl) (ws2 := [oM ma za aa va ka ta (upd y 0 1)]) rfl dX6_append_30 (fun H locs w => ?_)
  refine lv_aload_n hx hb dX6_append_33 rfl (lv_at hl 0 rfl) ?_
  refine k_get X w 0 rfl rfl 0 (by decide) rfl iX6_append_X6 (List.mem_of_getElem? (i := 2) rfl) (v := .int 1) (congrArg (fun t => some (Value.int t)) (upd_is _ _ _)) dX6_append_34 ?_
  refine lv_if_le (tgt := 42) hx hb dX6_append_37 (by decide) (fun c2 => absurd c2 (by decide)) (fun c2 => ?_)
  refine lv_iconst (v := 0) hx hb dX6_append_40 (by decide) ?_
  exact fin _ _ _ _ _ w rfl dX6_append_41
set_option maxHeartbeats 4000000 in
set_option maxRecDepth 100000 in
theorem met_X6_append_t2 (l : Launch) (D : va_G) (cI cJ cO : ClassId) (ma : Nat) (za : Nat) (aa : Nat) (va : Nat) (ka : Nat) (ta : Nat) (y : Nat → Int32) (x : Int32) (hL : y 3 = 60) (hin : inR x 33 126) : CI l D (TY cI cJ cO) yX6_append wsX6_append ({ frames := 1, cells := 0, slots := 0, locals := 22 }) [.ref ma, .int x] [oM ma za aa va ka ta y] 0 [oM ma za aa va ka ta (upd y 0 2)] := by
  refine CI.of (plainFor_of_name (by decide)) rfl (Nat.le_of_ble_eq_true rfl) (rfl) (fun p e s m below meth c A ls Q X hA w hl fin => ?_)
  obtain ⟨hx, hb, hml, hown, hts⟩ := id X.1
  have hl : lv_has ls 2 [(0, .ref ma), (1, .int x)] := hl
  refine lv_aload_n hx hb dX6_append_0 rfl (lv_at hl 0 rfl) ?_
  refine lv_iload_n hx hb dX6_append_1 rfl (lv_at hl 1 rfl) ?_
  refine lv_bipush (v := 33) hx hb dX6_append_2 (by decide) ?_
  refine lv_bipush (v := 126) hx hb dX6_append_4 (by decide) ?_
  refine k_ciR (k_runS X w (met_X6_in l D cI cJ cO x 33 126  s.heap.size) gX6_append_X6_in rfl rfl rfl 3 hdX6_in ⟨Nat.le_of_ble_eq_true rfl, Nat.le_of_ble_eq_true rfl⟩ [] rfl rfl rfl hl.1 rfl (Nat.le_of_ble_eq_true rfl) dX6_append_6 ⟨Nat.le_of_ble_eq_true rfl, Nat.le_of_ble_eq_true rfl⟩) w hA [] rfl (fun H locs w => ?_)
  refine lv_if_ne (tgt := 16) hx hb dX6_append_9 (by decide) (fun c1 => ?_) (fun c1 => absurd c1 (inB_y hin))
  refine lv_aload_n hx hb dX6_append_16 rfl (lv_at hl 0 rfl) ?_
  refine k_get X w 0 rfl rfl 8 (by decide) rfl iX6_append_X6 (List.mem_of_getElem? (i := 1) rfl) (v := .int 60) (congrArg (fun t => some (Value.int t)) hL) dX6_append_17 ?_
  refine lv_bipush (v := 60) hx hb dX6_append_20 (by decide) ?_
  refine lv_icmp_ne (tgt := 29) hx hb dX6_append_22 (by decide) (fun c2 => absurd c2 (by decide)) (fun c2 => ?_)
  refine lv_iconst (v := 2) hx hb dX6_append_25 (by decide) ?_
  refine lv_goto (tgt := 30) hx hb dX6_append_26 (by decide) ?_
  refine k_put X w 0 rfl rfl 0 (by decide) rfl iX6_append_X6 (List.mem_of_getElem? (i := 2) rfl) tyX6_ok nmX6 rfl rfl (Nat.le_of_ble_eq_true rfl) (ws2 := [oM ma za aa va ka ta (upd y 0 2)]) rfl dX6_append_30 (fun H locs w => ?_)
  refine lv_aload_n hx hb dX6_append_33 rfl (lv_at hl 0 rfl) ?_
  refine k_get X w 0 rfl rfl 0 (by decide) rfl iX6_append_X6 (List.mem_of_getElem? (i := 2) rfl) (v := .int 2) (congrArg (fun t => some (Value.int t)) (upd_is _ _ _)) dX6_append_34 ?_
  refine lv_if_le (tgt := 42) hx hb dX6_append_37 (by decide) (fun c3 => absurd c3 (by decide)) (fun c3 => ?_)
  refine lv_iconst (v := 0) hx hb dX6_append_40 (by decide) ?_
  exact fin _ _ _ _ _ w rfl dX6_append_41
theorem hdX6_clearBuffer : yX6_clearBuffer.cls = RX6 ∧ yX6_clearBuffer.cls ≠ "java/lang/invoke/MethodHandle" ∧ yX6_clearBuffer.cls ≠ "java/lang/invoke/VarHandle" ∧ (parseMethodDescriptor yX6_clearBuffer.desc).map (fun d => d.parameters.length) = some 0 := ⟨rfl, by decide, by decide, by decide +kernel⟩
theorem iX6_clearBuffer_X6 : ∀ w ∈ wsX60, w ∈ wsX6_clearBuffer := fun _ h => List.mem_cons_of_mem _ (List.mem_append_right _ h)
set_option maxHeartbeats 4000000 in
set_option maxRecDepth 100000 in
theorem met_X6_clearBuffer (l : Launch) (D : va_G) (cI cJ cO : ClassId) (ma : Nat) (za : Nat) (aa : Nat) (va : Nat) (ka : Nat) (ta : Nat) (y : Nat → Int32)  : CI l D (TY cI cJ cO) yX6_clearBuffer wsX6_clearBuffer ({ frames := 0, cells := 0, slots := 0, locals := 0 }) [.ref ma] [oM ma za aa va ka ta y] (y 3) [oM ma za aa va ka ta (upd (upd y 0 0) 3 0)] := by
  refine CI.of (plainFor_of_name (by decide)) rfl (Nat.le_of_ble_eq_true rfl) (rfl) (fun p e s m below meth c A ls Q X hA w hl fin => ?_)
  obtain ⟨hx, hb, hml, hown, hts⟩ := id X.1
  have hl : lv_has ls 2 [(0, .ref ma)] := hl
  refine lv_aload_n hx hb dX6_clearBuffer_0 rfl (lv_at hl 0 rfl) ?_
  refine lv_iconst (v := 0) hx hb dX6_clearBuffer_1 (by decide) ?_
  refine k_put X w 0 rfl rfl 0 (by decide) rfl iX6_clearBuffer_X6 (List.mem_of_getElem? (i := 1) rfl) tyX6_ok nmX6 rfl rfl (Nat.le_of_ble_eq_true rfl) (ws2 := [oM ma za aa va ka ta (upd y 0 0)]) rfl dX6_clearBuffer_2 (fun H locs w => ?_)
  refine lv_aload_n hx hb dX6_clearBuffer_5 rfl (lv_at hl 0 rfl) ?_
  refine k_get X w 0 rfl rfl 8 (by decide) rfl iX6_clearBuffer_X6 (List.mem_of_getElem? (i := 2) rfl) (v := .int (y 3)) rfl dX6_clearBuffer_6 ?_
  refine lv_istore_n (lv' := [(1, .int (y 3)), (0, .ref ma)]) hx hb dX6_clearBuffer_9 rfl hl (by decide) rfl (fun ls hl => ?_)
  refine lv_aload_n hx hb dX6_clearBuffer_10 rfl (lv_at hl 1 rfl) ?_
  refine lv_iconst (v := 0) hx hb dX6_clearBuffer_11 (by decide) ?_
  refine k_put X w 0 rfl rfl 8 (by decide) rfl iX6_clearBuffer_X6 (List.mem_of_getElem? (i := 2) rfl) tyX6_ok nmX6 rfl rfl (Nat.le_of_ble_eq_true rfl) (ws2 := [oM ma za aa va ka ta (upd (upd y 0 0) 3 0)]) rfl dX6_clearBuffer_12 (fun H locs w => ?_)
  refine lv_iload_n hx hb dX6_clearBuffer_15 rfl (lv_at hl 0 rfl) ?_
  exact fin _ _ _ _ _ w rfl dX6_clearBuffer_16
theorem hdX6_stopped : yX6_stopped.cls = RX6 ∧ yX6_stopped.cls ≠ "java/lang/invoke/MethodHandle" ∧ yX6_stopped.cls ≠ "java/lang/invoke/VarHandle" ∧ (parseMethodDescriptor yX6_stopped.desc).map (fun d => d.parameters.length) = some 1 := ⟨rfl, by decide, by decide, by decide +kernel⟩
theorem iX6_stopped_X6 : ∀ w ∈ wsX60, w ∈ wsX6_stopped := fun _ h => List.mem_cons_of_mem _ (List.mem_append_right _ h)
set_option maxHeartbeats 4000000 in
set_option maxRecDepth 100000 in
theorem met_X6_stopped (l : Launch) (D : va_G) (cI cJ cO : ClassId) (ma : Nat) (za : Nat) (aa : Nat) (va : Nat) (ka : Nat) (ta : Nat) (y : Nat → Int32) (z : Nat → Int32) (j : Nat) (hj : j < 3) : CI l D (TY cI cJ cO) yX6_stopped wsX6_stopped ({ frames := 1, cells := 0, slots := 0, locals := 22 }) [.ref ma, .int (nI j)] [oM ma za aa va ka ta y, aI cI za 225 0 z] (z (16 + j)) [oM ma za aa va ka ta (upd y 0 0), aI cI za 225 0 z] := by
  refine CI.of (plainFor_of_name (by decide)) rfl (Nat.le_of_ble_eq_true rfl) (rfl) (fun p e s m below meth c A ls Q X hA w hl fin => ?_)
  obtain ⟨hx, hb, hml, hown, hts⟩ := id X.1
  have hl : lv_has ls 2 [(0, .ref ma), (1, .int (nI j))] := hl
  refine lv_aload_n hx hb dX6_stopped_0 rfl (lv_at hl 0 rfl) ?_
  refine lv_iload_n hx hb dX6_stopped_1 rfl (lv_at hl 1 rfl) ?_
  refine lv_iconst (v := 0) hx hb dX6_stopped_2 (by decide) ?_
  refine lv_iconst (v := 2) hx hb dX6_stopped_3 (by decide) ?_
  refine k_ciR (k_runS X w (met_X6_in l D cI cJ cO (nI j) 0 2  s.heap.size) gX6_stopped_X6_in rfl rfl rfl 3 hdX6_in ⟨Nat.le_of_ble_eq_true rfl, Nat.le_of_ble_eq_true rfl⟩ [] rfl rfl rfl hl.1 rfl (Nat.le_of_ble_eq_true rfl) dX6_stopped_4 ⟨Nat.le_of_ble_eq_true rfl, Nat.le_of_ble_eq_true rfl⟩) w hA [] rfl (fun H locs w => ?_)
  refine lv_if_eq (tgt := 14) hx hb dX6_stopped_7 (by decide) (fun c1 => absurd c1 (in2 hj)) (fun c1 => ?_)
  refine lv_iconst (v := 0) hx hb dX6_stopped_10 (by decide) ?_
  refine lv_goto (tgt := 15) hx hb dX6_stopped_11 (by decide) ?_
  refine k_put X w 0 rfl rfl 0 (by decide) rfl iX6_stopped_X6 (List.mem_of_getElem? (i := 1) rfl) tyX6_ok nmX6 rfl rfl (Nat.le_of_ble_eq_true rfl) (ws2 := [oM ma za aa va ka ta (upd y 0 0), aI cI za 225 0 z]) rfl dX6_stopped_15 (fun H locs w => ?_)
  refine lv_aload_n hx hb dX6_stopped_18 rfl (lv_at hl 0 rfl) ?_
  refine k_get X w 0 rfl rfl 0 (by decide) rfl iX6_stopped_X6 (List.mem_of_getElem? (i := 1) rfl) (v := .int 0) (congrArg (fun t => some (Value.int t)) (upd_is _ _ _)) dX6_stopped_19 ?_
  refine lv_if_le (tgt := 29) hx hb dX6_stopped_22 (by decide) (fun c2 => ?_) (fun c2 => absurd c2 (by decide))
  refine lv_aload_n hx hb dX6_stopped_29 rfl (lv_at hl 0 rfl) ?_
  refine k_get X w 0 rfl rfl 1 (by decide) rfl iX6_stopped_X6 (List.mem_of_getElem? (i := 2) rfl) (v := .ref za) rfl dX6_stopped_30 ?_
  refine lv_bipush (v := 16) hx hb dX6_stopped_33 (by decide) ?_
  refine lv_iload_n hx hb dX6_stopped_35 rfl (lv_at hl 1 rfl) ?_
  refine lv_iadd hx hb dX6_stopped_36 ?_
  refine k_iald X w 1 0 rfl rfl (16 + j) (kj := 16 + j) (Nat.zero_add _) (by omega) (by decide) (nI_addp rfl rfl) (v := z (16 + j)) rfl dX6_stopped_37 ?_
  exact fin _ _ _ _ _ w rfl dX6_stopped_38
set_option maxHeartbeats 4000000 in
set_option maxRecDepth 100000 in
theorem met_X6_stopped_t (l : Launch) (D : va_G) (cI cJ cO : ClassId) (ma : Nat) (za : Nat) (aa : Nat) (va : Nat) (ka : Nat) (ta : Nat) (y : Nat → Int32) (x : Int32) (hin : ¬ inR x 0 2) : CI l D (TY cI cJ cO) yX6_stopped wsX6_stopped ({ frames := 1, cells := 0, slots := 0, locals := 22 }) [.ref ma, .int x] [oM ma za aa va ka ta y] 0 [oM ma za aa va ka ta (upd y 0 1)] := by
  refine CI.of (plainFor_of_name (by decide)) rfl (Nat.le_of_ble_eq_true rfl) (rfl) (fun p e s m below meth c A ls Q X hA w hl fin => ?_)
  obtain ⟨hx, hb, hml, hown, hts⟩ := id X.1
  have hl : lv_has ls 2 [(0, .ref ma), (1, .int x)] := hl
  refine lv_aload_n hx hb dX6_stopped_0 rfl (lv_at hl 0 rfl) ?_
  refine lv_iload_n hx hb dX6_stopped_1 rfl (lv_at hl 1 rfl) ?_
  refine lv_iconst (v := 0) hx hb dX6_stopped_2 (by decide) ?_
  refine lv_iconst (v := 2) hx hb dX6_stopped_3 (by decide) ?_
  refine k_ciR (k_runS X w (met_X6_in l D cI cJ cO x 0 2  s.heap.size) gX6_stopped_X6_in rfl rfl rfl 3 hdX6_in ⟨Nat.le_of_ble_eq_true rfl, Nat.le_of_ble_eq_true rfl⟩ [] rfl rfl rfl hl.1 rfl (Nat.le_of_ble_eq_true rfl) dX6_stopped_4 ⟨Nat.le_of_ble_eq_true rfl, Nat.le_of_ble_eq_true rfl⟩) w hA [] rfl (fun H locs w => ?_)
  refine lv_if_eq (tgt := 14) hx hb dX6_stopped_7 (by decide) (fun c1 => ?_) (fun c1 => absurd (inB_n hin) c1)
  refine lv_iconst (v := 1) hx hb dX6_stopped_14 (by decide) ?_
  refine k_put X w 0 rfl rfl 0 (by decide) rfl iX6_stopped_X6 (List.mem_of_getElem? (i := 1) rfl) tyX6_ok nmX6 rfl rfl (Nat.le_of_ble_eq_true rfl) (ws2 := [oM ma za aa va ka ta (upd y 0 1)]) rfl dX6_stopped_15 (fun H locs w => ?_)
  refine lv_aload_n hx hb dX6_stopped_18 rfl (lv_at hl 0 rfl) ?_
  refine k_get X w 0 rfl rfl 0 (by decide) rfl iX6_stopped_X6 (List.mem_of_getElem? (i := 1) rfl) (v := .int 1) (congrArg (fun t => some (Value.int t)) (upd_is _ _ _)) dX6_stopped_19 ?_
  refine lv_if_le (tgt := 29) hx hb dX6_stopped_22 (by decide) (fun c2 => absurd c2 (by decide)) (fun c2 => ?_)
  refine lv_iconst (v := 0) hx hb dX6_stopped_25 (by decide) ?_
  refine lv_goto (tgt := 38) hx hb dX6_stopped_26 (by decide) ?_
  exact fin _ _ _ _ _ w rfl dX6_stopped_38
