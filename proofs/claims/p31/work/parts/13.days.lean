theorem hdX3_whyNoDayRate : yX3_whyNoDayRate.cls = RX3 ∧ yX3_whyNoDayRate.cls ≠ "java/lang/invoke/MethodHandle" ∧ yX3_whyNoDayRate.cls ≠ "java/lang/invoke/VarHandle" ∧ (parseMethodDescriptor yX3_whyNoDayRate.desc).map (fun d => d.parameters.length) = some 0 := ⟨rfl, by decide, by decide, by decide +kernel⟩
theorem iX3_whyNoDayRate_X3 : ∀ w ∈ wsX30, w ∈ wsX3_whyNoDayRate := fun _ h => List.mem_cons_of_mem _ (List.mem_append_left _ (List.mem_append_left _ (List.mem_append_right _ h)))
theorem iX3_whyNoDayRate_X4 : ∀ w ∈ wsX40, w ∈ wsX3_whyNoDayRate := fun _ h => List.mem_cons_of_mem _ (List.mem_append_left _ (List.mem_append_right _ h))
set_option maxHeartbeats 4000000 in
set_option maxRecDepth 100000 in
theorem met_X3_whyNoDayRate (l : Launch) (D : va_G) (cI cJ cO : ClassId) (a : Nat) (w1 : Nat) (wa : Nat) (pa : Nat) (ra : Nat) (sa : Nat) (z : Nat → Int32) (len : Nat) (hn : z 10 = nI len) (hn4 : len ≤ 40) : CI l D (TY cI cJ cO) yX3_whyNoDayRate wsX3_whyNoDayRate ({ frames := 2, cells := 0, slots := 0, locals := 44 }) [.ref a] [oS a w1 pa sa z, aI cI sa 4 12 z, oW w1 wa z, aI cI wa 6 19 z, oP pa ra z, aI cI ra 200 25 z] (whyDay z len) [oS a w1 pa sa z, aI cI sa 4 12 z, oW w1 wa z, aI cI wa 6 19 z, oP pa ra z, aI cI ra 200 25 z] := by
  refine CI.of (plainFor_of_name (by decide)) rfl (Nat.le_of_ble_eq_true rfl) (rfl) (fun p e s m below meth c A ls Q X hA w hl fin => ?_)
  obtain ⟨hx, hb, hml, hown, hts⟩ := id X.1
  have hl : lv_has ls 7 [(0, .ref a)] := hl
  refine lv_ldc (v := 2000000000) hx hb hown (hts _ (List.mem_of_getElem? (i := 1) rfl)) dX3_whyNoDayRate_0 ?_
  refine lv_istore_n (lv' := [(1, .int 2000000000), (0, .ref a)]) hx hb dX3_whyNoDayRate_2 rfl hl (by decide) rfl (fun ls hl => ?_)
  refine lv_ldc (v := 2000000000) hx hb hown (hts _ (List.mem_of_getElem? (i := 1) rfl)) dX3_whyNoDayRate_3 ?_
  refine lv_istore_n (lv' := [(2, .int 2000000000), (1, .int 2000000000), (0, .ref a)]) hx hb dX3_whyNoDayRate_5 rfl hl (by decide) rfl (fun ls hl => ?_)
  refine lv_ldc (v := (-2000000000)) hx hb hown (hts _ (List.mem_of_getElem? (i := 2) rfl)) dX3_whyNoDayRate_6 ?_
  refine lv_istore_n (lv' := [(3, .int (-2000000000)), (2, .int 2000000000), (1, .int 2000000000), (0, .ref a)]) hx hb dX3_whyNoDayRate_8 rfl hl (by decide) rfl (fun ls hl => ?_)
  refine lv_iconst (v := 0) hx hb dX3_whyNoDayRate_9 (by decide) ?_
  refine lv_istore (lv' := [(4, .int 0), (3, .int (-2000000000)), (2, .int 2000000000), (1, .int 2000000000), (0, .ref a)]) hx hb dX3_whyNoDayRate_10 hl (by decide) rfl (fun ls hl => ?_)
  have lp12 : ∀ (n : Nat) (pp : Nat) (oo : Int32) (ll : Int32) (gg : Int32), pp + n = 6 → wdl z len n pp oo ll gg = whyDay z len → ∀ (H : Heap) (locs : List Loc) (ls : Array Slot), wd D A s.heap H locs ([oS a w1 pa sa z, aI cI sa 4 12 z, oW w1 wa z, aI cI wa 6 19 z, oP pa ra z, aI cI ra 200 25 z]) → lv_has ls 7 [(4, .int (nI pp)), (1, .int oo), (2, .int ll), (3, .int gg), (0, .ref a)] → W p l e ({ frames := 2, cells := 0, slots := 0, locals := 44 }) s m [.ref a].toArray below meth c H locs 0 0 Q (F0 m 12 ls []) := by
    intro n
    induction n with
    | zero =>
      intro pp oo ll gg hi he H locs ls w hl
      refine lv_iload hx hb dX3_whyNoDayRate_12 (lv_at hl 0 rfl) ?_
      refine lv_bipush (v := 6) hx hb dX3_whyNoDayRate_14 (by decide) ?_
      refine lv_icmp_ge (tgt := 86) hx hb dX3_whyNoDayRate_16 (by decide) (fun c1 => ?_) (fun c1 => absurd (nI_le (a := 6) (b := pp) (by omega) (by omega)) c1)
      refine lv_aload_n hx hb dX3_whyNoDayRate_86 rfl (lv_at hl 4 rfl) ?_
      refine k_get X w 0 rfl rfl 0 (by decide) rfl iX3_whyNoDayRate_X3 (List.mem_of_getElem? (i := 11) rfl) (v := .ref w1) rfl dX3_whyNoDayRate_87 ?_
      refine k_get X w 2 rfl rfl 7 (by decide) rfl iX3_whyNoDayRate_X4 (List.mem_of_getElem? (i := 12) rfl) (v := .int (z 0)) rfl dX3_whyNoDayRate_90 ?_
      refine lv_iload_n hx hb dX3_whyNoDayRate_93 rfl (lv_at hl 1 rfl) ?_
      refine lv_isub hx hb dX3_whyNoDayRate_94 ?_
      refine lv_aload_n hx hb dX3_whyNoDayRate_95 rfl (lv_at hl 4 rfl) ?_
      refine k_get X w 0 rfl rfl 2 (by decide) rfl iX3_whyNoDayRate_X3 (List.mem_of_getElem? (i := 13) rfl) (v := .ref sa) rfl dX3_whyNoDayRate_96 ?_
      refine lv_iconst (v := 2) hx hb dX3_whyNoDayRate_99 (by decide) ?_
      refine k_iald X w 1 0 rfl rfl 2 (kj := 14) rfl (by decide) (by decide) rfl (v := z 14) rfl dX3_whyNoDayRate_100 ?_
      refine lv_icmp_le (tgt := 107) hx hb dX3_whyNoDayRate_101 (by decide) (fun c2 => ?_) (fun c2 => ?_)
      · refine lv_iload_n hx hb dX3_whyNoDayRate_107 rfl (lv_at hl 3 rfl) ?_
        refine lv_iload_n hx hb dX3_whyNoDayRate_108 rfl (lv_at hl 2 rfl) ?_
        refine lv_isub hx hb dX3_whyNoDayRate_109 ?_
        refine lv_aload_n hx hb dX3_whyNoDayRate_110 rfl (lv_at hl 4 rfl) ?_
        refine k_get X w 0 rfl rfl 2 (by decide) rfl iX3_whyNoDayRate_X3 (List.mem_of_getElem? (i := 13) rfl) (v := .ref sa) rfl dX3_whyNoDayRate_111 ?_
        refine lv_iconst (v := 3) hx hb dX3_whyNoDayRate_114 (by decide) ?_
        refine k_iald X w 1 0 rfl rfl 3 (kj := 15) rfl (by decide) (by decide) rfl (v := z 15) rfl dX3_whyNoDayRate_115 ?_
        refine lv_icmp_le (tgt := 124) hx hb dX3_whyNoDayRate_116 (by decide) (fun c3 => ?_) (fun c3 => ?_)
        · refine lv_iconst (v := 0) hx hb dX3_whyNoDayRate_124 (by decide) ?_
          exact fin _ _ _ _ _ w (by rw [← he]; simp only [wdl, c1, c2, c3, if_true, if_false]) dX3_whyNoDayRate_125
        · refine lv_bipush (v := 8) hx hb dX3_whyNoDayRate_119 (by decide) ?_
          refine lv_goto (tgt := 125) hx hb dX3_whyNoDayRate_121 (by decide) ?_
          exact fin _ _ _ _ _ w (by rw [← he]; simp only [wdl, c1, c2, c3, if_true, if_false]) dX3_whyNoDayRate_125
      · refine lv_bipush (v := 7) hx hb dX3_whyNoDayRate_104 (by decide) ?_
        exact fin _ _ _ _ _ w (by rw [← he]; simp only [wdl, c1, c2, if_true, if_false]) dX3_whyNoDayRate_106
    | succ n ih =>
      intro pp oo ll gg hi he H locs ls w hl
      refine lv_iload hx hb dX3_whyNoDayRate_12 (lv_at hl 0 rfl) ?_
      refine lv_bipush (v := 6) hx hb dX3_whyNoDayRate_14 (by decide) ?_
      refine lv_icmp_ge (tgt := 86) hx hb dX3_whyNoDayRate_16 (by decide) (fun c4 => absurd c4 (nI_ge (a := pp) (b := 6) (by omega) (by decide))) (fun c4 => ?_)
      refine lv_aload_n hx hb dX3_whyNoDayRate_19 rfl (lv_at hl 4 rfl) ?_
      refine k_get X w 0 rfl rfl 1 (by decide) rfl iX3_whyNoDayRate_X3 (List.mem_of_getElem? (i := 3) rfl) (v := .ref pa) rfl dX3_whyNoDayRate_20 ?_
      refine lv_iload hx hb dX3_whyNoDayRate_23 (lv_at hl 0 rfl) ?_
      refine k_ciR (k_runV X w (met_X1_latestIn l D cI cJ cO pa ra z (nI pp) len hn hn4 H.size) gX3_whyNoDayRate_X1_latestIn rfl rfl rfl 1 hdX1_latestIn ⟨Nat.le_of_ble_eq_true rfl, Nat.le_of_ble_eq_true rfl⟩ [4, 5] rfl rfl 4 1 rfl rfl rfl rfl hl.1 rfl (Nat.le_of_ble_eq_true rfl) dX3_whyNoDayRate_25 ⟨Nat.le_of_ble_eq_true rfl, Nat.le_of_ble_eq_true rfl⟩) w hA [4, 5] rfl (fun H locs w => ?_)
      refine lv_istore (lv' := [(5, .int (lat z (nI pp) len)), (4, .int (nI pp)), (1, .int oo), (2, .int ll), (3, .int gg), (0, .ref a)]) hx hb dX3_whyNoDayRate_28 hl (by decide) rfl (fun ls hl => ?_)
      refine lv_iload hx hb dX3_whyNoDayRate_30 (lv_at hl 0 rfl) ?_
      refine lv_iconst (v := (-1)) hx hb dX3_whyNoDayRate_32 (by decide) ?_
      refine lv_icmp_ne (tgt := 39) hx hb dX3_whyNoDayRate_33 (by decide) (fun c5 => ?_) (fun c5 => ?_)
      · obtain ⟨ej, hj, hj2⟩ := lat_j c5
        rw [ej] at hl
        refine lv_aload_n hx hb dX3_whyNoDayRate_39 rfl (lv_at hl 5 rfl) ?_
        refine k_get X w 0 rfl rfl 1 (by decide) rfl iX3_whyNoDayRate_X3 (List.mem_of_getElem? (i := 3) rfl) (v := .ref pa) rfl dX3_whyNoDayRate_40 ?_
        refine lv_iload hx hb dX3_whyNoDayRate_43 (lv_at hl 0 rfl) ?_
        refine lv_iconst (v := 2) hx hb dX3_whyNoDayRate_45 (by decide) ?_
        refine k_ciR (k_runV X w (met_X1_number l D cI cJ cO pa ra z (latj z (nI pp) len) 2 len hn hn4 hj (by decide) H.size) gX3_whyNoDayRate_X1_number rfl rfl rfl 2 hdX1_number ⟨Nat.le_of_ble_eq_true rfl, Nat.le_of_ble_eq_true rfl⟩ [4, 5] rfl rfl 4 1 rfl rfl rfl rfl hl.1 rfl (Nat.le_of_ble_eq_true rfl) dX3_whyNoDayRate_46 ⟨Nat.le_of_ble_eq_true rfl, Nat.le_of_ble_eq_true rfl⟩) w hA [4, 5] rfl (fun H locs w => ?_)
        refine lv_istore (lv' := [(6, .int (z (25 + ((latj z (nI pp) len) * 5 + 2)))), (5, .int (nI (latj z (nI pp) len))), (4, .int (nI pp)), (1, .int oo), (2, .int ll), (3, .int gg), (0, .ref a)]) hx hb dX3_whyNoDayRate_49 hl (by decide) rfl (fun ls hl => ?_)
        refine lv_iload_n hx hb dX3_whyNoDayRate_51 rfl (lv_at hl 3 rfl) ?_
        refine lv_aload_n hx hb dX3_whyNoDayRate_52 rfl (lv_at hl 6 rfl) ?_
        refine k_get X w 0 rfl rfl 1 (by decide) rfl iX3_whyNoDayRate_X3 (List.mem_of_getElem? (i := 3) rfl) (v := .ref pa) rfl dX3_whyNoDayRate_53 ?_
        refine lv_iload hx hb dX3_whyNoDayRate_56 (lv_at hl 1 rfl) ?_
        refine lv_iconst (v := 0) hx hb dX3_whyNoDayRate_58 (by decide) ?_
        refine k_ciR (k_runV X w (met_X1_number l D cI cJ cO pa ra z (latj z (nI pp) len) 0 len hn hn4 hj (by decide) H.size) gX3_whyNoDayRate_X1_number rfl rfl rfl 2 hdX1_number ⟨Nat.le_of_ble_eq_true rfl, Nat.le_of_ble_eq_true rfl⟩ [4, 5] rfl rfl 4 1 rfl rfl rfl rfl hl.1 rfl (Nat.le_of_ble_eq_true rfl) dX3_whyNoDayRate_59 ⟨Nat.le_of_ble_eq_true rfl, Nat.le_of_ble_eq_true rfl⟩) w hA [4, 5] rfl (fun H locs w => ?_)
        refine k_min X hl.1 (List.mem_of_getElem? (i := 4) rfl) (List.mem_of_getElem? (i := 5) rfl) (List.mem_of_getElem? (i := 6) rfl) (List.mem_of_getElem? (i := 7) rfl) (Nat.le_of_ble_eq_true rfl) (Nat.le_of_ble_eq_true rfl) (Nat.le_of_ble_eq_true rfl) (Nat.le_of_ble_eq_true rfl) dX3_whyNoDayRate_62 ?_
        refine lv_istore_n (lv' := [(1, .int (if (z (25 + ((latj z (nI pp) len) * 5 + 0))) < oo then z (25 + ((latj z (nI pp) len) * 5 + 0)) else oo)), (6, .int (z (25 + ((latj z (nI pp) len) * 5 + 2)))), (5, .int (nI (latj z (nI pp) len))), (4, .int (nI pp)), (2, .int ll), (3, .int gg), (0, .ref a)]) hx hb dX3_whyNoDayRate_65 rfl hl (by decide) rfl (fun ls hl => ?_)
        refine lv_iload_n hx hb dX3_whyNoDayRate_66 rfl (lv_at hl 4 rfl) ?_
        refine lv_iload hx hb dX3_whyNoDayRate_67 (lv_at hl 1 rfl) ?_
        refine k_min X hl.1 (List.mem_of_getElem? (i := 4) rfl) (List.mem_of_getElem? (i := 5) rfl) (List.mem_of_getElem? (i := 6) rfl) (List.mem_of_getElem? (i := 7) rfl) (Nat.le_of_ble_eq_true rfl) (Nat.le_of_ble_eq_true rfl) (Nat.le_of_ble_eq_true rfl) (Nat.le_of_ble_eq_true rfl) dX3_whyNoDayRate_69 ?_
        refine lv_istore_n (lv' := [(2, .int (if (z (25 + ((latj z (nI pp) len) * 5 + 2))) < ll then z (25 + ((latj z (nI pp) len) * 5 + 2)) else ll)), (1, .int (if (z (25 + ((latj z (nI pp) len) * 5 + 0))) < oo then z (25 + ((latj z (nI pp) len) * 5 + 0)) else oo)), (6, .int (z (25 + ((latj z (nI pp) len) * 5 + 2)))), (5, .int (nI (latj z (nI pp) len))), (4, .int (nI pp)), (3, .int gg), (0, .ref a)]) hx hb dX3_whyNoDayRate_72 rfl hl (by decide) rfl (fun ls hl => ?_)
        refine lv_iload_n hx hb dX3_whyNoDayRate_73 rfl (lv_at hl 5 rfl) ?_
        refine lv_iload hx hb dX3_whyNoDayRate_74 (lv_at hl 2 rfl) ?_
        refine k_max X hl.1 (List.mem_of_getElem? (i := 8) rfl) (List.mem_of_getElem? (i := 9) rfl) (List.mem_of_getElem? (i := 6) rfl) (List.mem_of_getElem? (i := 10) rfl) (Nat.le_of_ble_eq_true rfl) (Nat.le_of_ble_eq_true rfl) (Nat.le_of_ble_eq_true rfl) (Nat.le_of_ble_eq_true rfl) dX3_whyNoDayRate_76 ?_
        refine lv_istore_n (lv' := [(3, .int (if gg < (z (25 + ((latj z (nI pp) len) * 5 + 2))) then z (25 + ((latj z (nI pp) len) * 5 + 2)) else gg)), (2, .int (if (z (25 + ((latj z (nI pp) len) * 5 + 2))) < ll then z (25 + ((latj z (nI pp) len) * 5 + 2)) else ll)), (1, .int (if (z (25 + ((latj z (nI pp) len) * 5 + 0))) < oo then z (25 + ((latj z (nI pp) len) * 5 + 0)) else oo)), (6, .int (z (25 + ((latj z (nI pp) len) * 5 + 2)))), (5, .int (nI (latj z (nI pp) len))), (4, .int (nI pp)), (0, .ref a)]) hx hb dX3_whyNoDayRate_79 rfl hl (by decide) rfl (fun ls hl => ?_)
        refine lv_iinc (v := nI (pp + 1)) (lv' := [(4, .int (nI (pp + 1))), (3, .int (if gg < (z (25 + ((latj z (nI pp) len) * 5 + 2))) then z (25 + ((latj z (nI pp) len) * 5 + 2)) else gg)), (2, .int (if (z (25 + ((latj z (nI pp) len) * 5 + 2))) < ll then z (25 + ((latj z (nI pp) len) * 5 + 2)) else ll)), (1, .int (if (z (25 + ((latj z (nI pp) len) * 5 + 0))) < oo then z (25 + ((latj z (nI pp) len) * 5 + 0)) else oo)), (6, .int (z (25 + ((latj z (nI pp) len) * 5 + 2)))), (5, .int (nI (latj z (nI pp) len))), (0, .ref a)]) hx hb dX3_whyNoDayRate_80 hl (k := 5) rfl (nI_1 _) (by decide) rfl (fun ls hl => ?_)
        refine lv_goto (tgt := 12) hx hb dX3_whyNoDayRate_83 (by decide) ?_
        exact ih (pp + 1) (if (z (25 + ((latj z (nI pp) len) * 5 + 0))) < oo then z (25 + ((latj z (nI pp) len) * 5 + 0)) else oo) (if (z (25 + ((latj z (nI pp) len) * 5 + 2))) < ll then z (25 + ((latj z (nI pp) len) * 5 + 2)) else ll) (if gg < (z (25 + ((latj z (nI pp) len) * 5 + 2))) then z (25 + ((latj z (nI pp) len) * 5 + 2)) else gg) (by omega) ((wdl_s c5).symm.trans he) _ _ _ w (lv_sub hl [0, 3, 2, 1, 6] rfl)
      · refine lv_bipush (v := 6) hx hb dX3_whyNoDayRate_36 (by decide) ?_
        exact fin _ _ _ _ _ w (by rw [← he, wdl_6 c5]) dX3_whyNoDayRate_38
  exact lp12 6 0 2000000000 2000000000 (-2000000000) (Nat.zero_add _) rfl _ _ _ w (lv_sub hl [0, 3, 2, 1, 4] rfl)
theorem hdX3_dayRateByPoses : yX3_dayRateByPoses.cls = RX3 ∧ yX3_dayRateByPoses.cls ≠ "java/lang/invoke/MethodHandle" ∧ yX3_dayRateByPoses.cls ≠ "java/lang/invoke/VarHandle" ∧ (parseMethodDescriptor yX3_dayRateByPoses.desc).map (fun d => d.parameters.length) = some 0 := ⟨rfl, by decide, by decide, by decide +kernel⟩
theorem iX3_dayRateByPoses_X3 : ∀ w ∈ wsX30, w ∈ wsX3_dayRateByPoses := fun _ h => List.mem_cons_of_mem _ (List.mem_append_left _ (List.mem_append_left _ (List.mem_append_right _ h)))
set_option maxHeartbeats 4000000 in
set_option maxRecDepth 100000 in
theorem met_X3_dayRateByPoses (l : Launch) (D : va_G) (cI cJ cO : ClassId) (a : Nat) (w1 : Nat) (wa : Nat) (pa : Nat) (ra : Nat) (sa : Nat) (z : Nat → Int32) (len : Nat) (hn : z 10 = nI len) (hn4 : len ≤ 40) : CI l D (TY cI cJ cO) yX3_dayRateByPoses wsX3_dayRateByPoses ({ frames := 3, cells := 0, slots := 0, locals := 70 }) [.ref a] [oS a w1 pa sa z, aI cI sa 4 12 z, oW w1 wa z, aI cI wa 6 19 z, oP pa ra z, aI cI ra 200 25 z] (dr1 z len) [oS a w1 pa sa z, aI cI sa 4 12 z, oW w1 wa z, aI cI wa 6 19 z, oP pa ra z, aI cI ra 200 25 z] := by
  refine CI.of (plainFor_of_name (by decide)) rfl (Nat.le_of_ble_eq_true rfl) (rfl) (fun p e s m below meth c A ls Q X hA w hl fin => ?_)
  obtain ⟨hx, hb, hml, hown, hts⟩ := id X.1
  have hl : lv_has ls 3 [(0, .ref a)] := hl
  refine lv_aload_n hx hb dX3_dayRateByPoses_0 rfl (lv_at hl 0 rfl) ?_
  refine k_ciR (k_runV X w (met_X3_whyNoDayRate l D cI cJ cO a w1 wa pa ra sa z len hn hn4 s.heap.size) gX3_dayRateByPoses_X3_whyNoDayRate rfl rfl rfl 0 hdX3_whyNoDayRate ⟨Nat.le_of_ble_eq_true rfl, Nat.le_of_ble_eq_true rfl⟩ [0, 1, 2, 3, 4, 5] rfl rfl 0 3 rfl rfl rfl rfl hl.1 rfl (Nat.le_of_ble_eq_true rfl) dX3_dayRateByPoses_1 ⟨Nat.le_of_ble_eq_true rfl, Nat.le_of_ble_eq_true rfl⟩) w hA [0, 1, 2, 3, 4, 5] rfl (fun H locs w => ?_)
  refine lv_if_eq (tgt := 9) hx hb dX3_dayRateByPoses_4 (by decide) (fun c1 => ?_) (fun c1 => ?_)
  · refine lv_iconst (v := 0) hx hb dX3_dayRateByPoses_9 (by decide) ?_
    refine lv_istore_n (lv' := [(1, .int 0), (0, .ref a)]) hx hb dX3_dayRateByPoses_10 rfl hl (by decide) rfl (fun ls hl => ?_)
    refine lv_iconst (v := 0) hx hb dX3_dayRateByPoses_11 (by decide) ?_
    refine lv_istore_n (lv' := [(2, .int 0), (1, .int 0), (0, .ref a)]) hx hb dX3_dayRateByPoses_12 rfl hl (by decide) rfl (fun ls hl => ?_)
    have lp13 : ∀ (n : Nat) (pp : Nat) (s1 : Int32), pp + n = 6 → s1 = sm z len pp → ∀ (H : Heap) (locs : List Loc) (ls : Array Slot), wd D A s.heap H locs ([oS a w1 pa sa z, aI cI sa 4 12 z, oW w1 wa z, aI cI wa 6 19 z, oP pa ra z, aI cI ra 200 25 z]) → lv_has ls 3 [(2, .int (nI pp)), (1, .int s1), (0, .ref a)] → W p l e ({ frames := 3, cells := 0, slots := 0, locals := 70 }) s m [.ref a].toArray below meth c H locs 0 0 Q (F0 m 13 ls []) := by
      intro n
      induction n with
      | zero =>
        intro pp s1 hi hs H locs ls w hl
        refine lv_iload_n hx hb dX3_dayRateByPoses_13 rfl (lv_at hl 0 rfl) ?_
        refine lv_bipush (v := 6) hx hb dX3_dayRateByPoses_14 (by decide) ?_
        refine lv_icmp_ge (tgt := 44) hx hb dX3_dayRateByPoses_16 (by decide) (fun c2 => ?_) (fun c2 => absurd (nI_le (a := 6) (b := pp) (by omega) (by omega)) c2)
        refine lv_iload_n hx hb dX3_dayRateByPoses_44 rfl (lv_at hl 1 rfl) ?_
        refine lv_bipush (v := 6) hx hb dX3_dayRateByPoses_45 (by decide) ?_
        refine k_ciR (k_runS X w (met_J9_floorDiv_7cf53 l D cI cJ cO s1 6 (by decide) H.size) gX3_dayRateByPoses_J9_floorDiv_7cf53 rfl rfl rfl 2 hdJ9_floorDiv_7cf53 ⟨Nat.le_of_ble_eq_true rfl, Nat.le_of_ble_eq_true rfl⟩ [] rfl rfl rfl hl.1 rfl (Nat.le_of_ble_eq_true rfl) dX3_dayRateByPoses_47 ⟨Nat.le_of_ble_eq_true rfl, Nat.le_of_ble_eq_true rfl⟩) w hA [] rfl (fun H locs w => ?_)
        refine lv_sipush (v := 10000) hx hb dX3_dayRateByPoses_50 (by decide) ?_
        refine lv_iadd hx hb dX3_dayRateByPoses_53 ?_
        exact fin _ _ _ _ _ w (by rw [dr1, if_pos c1, hs, show pp = 6 by omega]) dX3_dayRateByPoses_54
      | succ n ih =>
        intro pp s1 hi hs H locs ls w hl
        refine lv_iload_n hx hb dX3_dayRateByPoses_13 rfl (lv_at hl 0 rfl) ?_
        refine lv_bipush (v := 6) hx hb dX3_dayRateByPoses_14 (by decide) ?_
        refine lv_icmp_ge (tgt := 44) hx hb dX3_dayRateByPoses_16 (by decide) (fun c3 => absurd c3 (nI_ge (a := pp) (b := 6) (by omega) (by decide))) (fun c3 => ?_)
        refine lv_iload_n hx hb dX3_dayRateByPoses_19 rfl (lv_at hl 1 rfl) ?_
        refine lv_aload_n hx hb dX3_dayRateByPoses_20 rfl (lv_at hl 2 rfl) ?_
        refine k_get X w 0 rfl rfl 1 (by decide) rfl iX3_dayRateByPoses_X3 (List.mem_of_getElem? (i := 1) rfl) (v := .ref pa) rfl dX3_dayRateByPoses_21 ?_
        refine lv_aload_n hx hb dX3_dayRateByPoses_24 rfl (lv_at hl 2 rfl) ?_
        refine k_get X w 0 rfl rfl 1 (by decide) rfl iX3_dayRateByPoses_X3 (List.mem_of_getElem? (i := 1) rfl) (v := .ref pa) rfl dX3_dayRateByPoses_25 ?_
        refine lv_iload_n hx hb dX3_dayRateByPoses_28 rfl (lv_at hl 0 rfl) ?_
        refine k_ciR (k_runV X w (met_X1_latestIn l D cI cJ cO pa ra z (nI pp) len hn hn4 H.size) gX3_dayRateByPoses_X1_latestIn rfl rfl rfl 1 hdX1_latestIn ⟨Nat.le_of_ble_eq_true rfl, Nat.le_of_ble_eq_true rfl⟩ [4, 5] rfl rfl 4 1 rfl rfl rfl rfl hl.1 rfl (Nat.le_of_ble_eq_true rfl) dX3_dayRateByPoses_29 ⟨Nat.le_of_ble_eq_true rfl, Nat.le_of_ble_eq_true rfl⟩) w hA [4, 5] rfl (fun H locs w => ?_)
        obtain ⟨ej, hj, hj2⟩ := lat_j (day_ok c1 pp (by omega))
        rw [ej]
        refine lv_iconst (v := 2) hx hb dX3_dayRateByPoses_32 (by decide) ?_
        refine k_ciR (k_runV X w (met_X1_number l D cI cJ cO pa ra z (latj z (nI pp) len) 2 len hn hn4 hj (by decide) H.size) gX3_dayRateByPoses_X1_number rfl rfl rfl 2 hdX1_number ⟨Nat.le_of_ble_eq_true rfl, Nat.le_of_ble_eq_true rfl⟩ [4, 5] rfl rfl 4 1 rfl rfl rfl rfl hl.1 rfl (Nat.le_of_ble_eq_true rfl) dX3_dayRateByPoses_33 ⟨Nat.le_of_ble_eq_true rfl, Nat.le_of_ble_eq_true rfl⟩) w hA [4, 5] rfl (fun H locs w => ?_)
        refine lv_iadd hx hb dX3_dayRateByPoses_36 ?_
        refine lv_istore_n (lv' := [(1, .int (s1 + (z (25 + ((latj z (nI pp) len) * 5 + 2))))), (2, .int (nI pp)), (0, .ref a)]) hx hb dX3_dayRateByPoses_37 rfl hl (by decide) rfl (fun ls hl => ?_)
        refine lv_iinc (v := nI (pp + 1)) (lv' := [(2, .int (nI (pp + 1))), (1, .int (s1 + (z (25 + ((latj z (nI pp) len) * 5 + 2))))), (0, .ref a)]) hx hb dX3_dayRateByPoses_38 hl (k := 1) rfl (nI_1 _) (by decide) rfl (fun ls hl => ?_)
        refine lv_goto (tgt := 13) hx hb dX3_dayRateByPoses_41 (by decide) ?_
        exact ih (pp + 1) (s1 + (z (25 + ((latj z (nI pp) len) * 5 + 2)))) (by omega) (by rw [hs]; rfl) _ _ _ w (lv_sub hl [0, 1, 2] rfl)
    exact lp13 6 0 0 (Nat.zero_add _) rfl _ _ _ w (lv_sub hl [0, 1, 2] rfl)
  · refine lv_iconst (v := (-1)) hx hb dX3_dayRateByPoses_7 (by decide) ?_
    exact fin _ _ _ _ _ w (by rw [dr1, if_neg c1]) dX3_dayRateByPoses_8
theorem hdX3_dayRateByPaper : yX3_dayRateByPaper.cls = RX3 ∧ yX3_dayRateByPaper.cls ≠ "java/lang/invoke/MethodHandle" ∧ yX3_dayRateByPaper.cls ≠ "java/lang/invoke/VarHandle" ∧ (parseMethodDescriptor yX3_dayRateByPaper.desc).map (fun d => d.parameters.length) = some 0 := ⟨rfl, by decide, by decide, by decide +kernel⟩
theorem iX3_dayRateByPaper_X1 : ∀ w ∈ wsX10, w ∈ wsX3_dayRateByPaper := fun _ h => List.mem_cons_of_mem _ (List.mem_append_left _ (List.mem_append_right _ h))
theorem iX3_dayRateByPaper_X3 : ∀ w ∈ wsX30, w ∈ wsX3_dayRateByPaper := fun _ h => List.mem_cons_of_mem _ (List.mem_append_left _ (List.mem_append_left _ (List.mem_append_right _ h)))
theorem iX3_dayRateByPaper_X4 : ∀ w ∈ wsX40, w ∈ wsX3_dayRateByPaper := fun _ h => List.mem_cons_of_mem _ (List.mem_append_right _ h)
set_option maxHeartbeats 4000000 in
set_option maxRecDepth 100000 in
theorem met_X3_dayRateByPaper (l : Launch) (D : va_G) (cI cJ cO : ClassId) (a : Nat) (w1 : Nat) (wa : Nat) (pa : Nat) (ra : Nat) (sa : Nat) (z : Nat → Int32) (len : Nat) (hn : z 10 = nI len) (hn4 : len ≤ 40) : CI l D (TY cI cJ cO) yX3_dayRateByPaper wsX3_dayRateByPaper ({ frames := 1, cells := 0, slots := 0, locals := 22 }) [.ref a] [oS a w1 pa sa z, aI cI sa 4 12 z, oW w1 wa z, aI cI wa 6 19 z, oP pa ra z, aI cI ra 200 25 z] (dr2 z len) [oS a w1 pa sa z, aI cI sa 4 12 z, oW w1 wa z, aI cI wa 6 19 z, oP pa ra z, aI cI ra 200 25 z] := by
  refine CI.of (plainFor_of_name (by decide)) rfl (Nat.le_of_ble_eq_true rfl) (rfl) (fun p e s m below meth c A ls Q X hA w hl fin => ?_)
  obtain ⟨hx, hb, hml, hown, hts⟩ := id X.1
  have hl : lv_has ls 9 [(0, .ref a)] := hl
  refine lv_iconst (v := 0) hx hb dX3_dayRateByPaper_0 (by decide) ?_
  refine lv_istore_n (lv' := [(1, .int 0), (0, .ref a)]) hx hb dX3_dayRateByPaper_1 rfl hl (by decide) rfl (fun ls hl => ?_)
  refine lv_iconst (v := 0) hx hb dX3_dayRateByPaper_2 (by decide) ?_
  refine lv_istore_n (lv' := [(2, .int 0), (1, .int 0), (0, .ref a)]) hx hb dX3_dayRateByPaper_3 rfl hl (by decide) rfl (fun ls hl => ?_)
  refine lv_iconst (v := 0) hx hb dX3_dayRateByPaper_4 (by decide) ?_
  refine lv_istore_n (lv' := [(3, .int 0), (2, .int 0), (1, .int 0), (0, .ref a)]) hx hb dX3_dayRateByPaper_5 rfl hl (by decide) rfl (fun ls hl => ?_)
  refine lv_ldc (v := 2000000000) hx hb hown (hts _ (List.mem_of_getElem? (i := 1) rfl)) dX3_dayRateByPaper_6 ?_
  refine lv_istore (lv' := [(4, .int 2000000000), (3, .int 0), (2, .int 0), (1, .int 0), (0, .ref a)]) hx hb dX3_dayRateByPaper_8 hl (by decide) rfl (fun ls hl => ?_)
  refine lv_ldc (v := (-2000000000)) hx hb hown (hts _ (List.mem_of_getElem? (i := 2) rfl)) dX3_dayRateByPaper_10 ?_
  refine lv_istore (lv' := [(5, .int (-2000000000)), (4, .int 2000000000), (3, .int 0), (2, .int 0), (1, .int 0), (0, .ref a)]) hx hb dX3_dayRateByPaper_12 hl (by decide) rfl (fun ls hl => ?_)
  refine lv_aload_n hx hb dX3_dayRateByPaper_14 rfl (lv_at hl 5 rfl) ?_
  refine k_get X w 0 rfl rfl 1 (by decide) rfl iX3_dayRateByPaper_X3 (List.mem_of_getElem? (i := 3) rfl) (v := .ref pa) rfl dX3_dayRateByPaper_15 ?_
  refine k_get X w 4 rfl rfl 1 (by decide) rfl iX3_dayRateByPaper_X1 (List.mem_of_getElem? (i := 4) rfl) (v := .int (nI len)) (congrArg (fun t => some (Value.int t)) hn) dX3_dayRateByPaper_18 ?_
  refine lv_iconst (v := 1) hx hb dX3_dayRateByPaper_21 (by decide) ?_
  refine lv_isub hx hb dX3_dayRateByPaper_22 ?_
  refine lv_istore (lv' := [(6, .int ((nI len) - 1)), (5, .int (-2000000000)), (4, .int 2000000000), (3, .int 0), (2, .int 0), (1, .int 0), (0, .ref a)]) hx hb dX3_dayRateByPaper_23 hl (by decide) rfl (fun ls hl => ?_)
  have lp25 : ∀ (n : Nat) (mk : Int32) (sn : Int32) (s1 : Int32) (ll : Int32) (gg : Int32), n ≤ len → dpl z n mk sn s1 ll gg = dr2 z len → ∀ (H : Heap) (locs : List Loc) (ls : Array Slot), wd D A s.heap H locs ([oS a w1 pa sa z, aI cI sa 4 12 z, oW w1 wa z, aI cI wa 6 19 z, oP pa ra z, aI cI ra 200 25 z]) → lv_has ls 9 [(6, .int (nI n - 1)), (1, .int mk), (2, .int sn), (3, .int s1), (4, .int ll), (5, .int gg), (0, .ref a)] → W p l e ({ frames := 1, cells := 0, slots := 0, locals := 22 }) s m [.ref a].toArray below meth c H locs 0 0 Q (F0 m 25 ls []) := by
    intro n
    induction n with
    | zero =>
      intro mk sn s1 ll gg hi he H locs ls w hl
      refine lv_iload hx hb dX3_dayRateByPaper_25 (lv_at hl 0 rfl) ?_
      refine lv_if_lt (tgt := 138) hx hb dX3_dayRateByPaper_27 (by decide) (fun c1 => ?_) (fun c1 => absurd (by decide) c1)
      refine lv_iload_n hx hb dX3_dayRateByPaper_138 rfl (lv_at hl 2 rfl) ?_
      refine lv_bipush (v := 6) hx hb dX3_dayRateByPaper_139 (by decide) ?_
      refine lv_icmp_lt (tgt := 158) hx hb dX3_dayRateByPaper_141 (by decide) (fun c2 => ?_) (fun c2 => ?_)
      · refine lv_iconst (v := (-1)) hx hb dX3_dayRateByPaper_158 (by decide) ?_
        exact fin _ _ _ _ _ w (by rw [← he]; simp only [dpl, dpe, c1, c2, if_true, if_false]) dX3_dayRateByPaper_159
      · refine lv_iload hx hb dX3_dayRateByPaper_144 (lv_at hl 5 rfl) ?_
        refine lv_iload hx hb dX3_dayRateByPaper_146 (lv_at hl 4 rfl) ?_
        refine lv_isub hx hb dX3_dayRateByPaper_148 ?_
        refine lv_aload_n hx hb dX3_dayRateByPaper_149 rfl (lv_at hl 6 rfl) ?_
        refine k_get X w 0 rfl rfl 2 (by decide) rfl iX3_dayRateByPaper_X3 (List.mem_of_getElem? (i := 7) rfl) (v := .ref sa) rfl dX3_dayRateByPaper_150 ?_
        refine lv_iconst (v := 3) hx hb dX3_dayRateByPaper_153 (by decide) ?_
        refine k_iald X w 1 0 rfl rfl 3 (kj := 15) rfl (by decide) (by decide) rfl (v := z 15) rfl dX3_dayRateByPaper_154 ?_
        refine lv_icmp_le (tgt := 160) hx hb dX3_dayRateByPaper_155 (by decide) (fun c3 => ?_) (fun c3 => ?_)
        · refine lv_iload_n hx hb dX3_dayRateByPaper_160 rfl (lv_at hl 3 rfl) ?_
          refine lv_bipush (v := 6) hx hb dX3_dayRateByPaper_161 (by decide) ?_
          refine k_ciR (k_runS X w (met_J9_floorDiv_7cf53 l D cI cJ cO s1 6 (by decide) H.size) gX3_dayRateByPaper_J9_floorDiv_7cf53 rfl rfl rfl 2 hdJ9_floorDiv_7cf53 ⟨Nat.le_of_ble_eq_true rfl, Nat.le_of_ble_eq_true rfl⟩ [] rfl rfl rfl hl.1 rfl (Nat.le_of_ble_eq_true rfl) dX3_dayRateByPaper_163 ⟨Nat.le_of_ble_eq_true rfl, Nat.le_of_ble_eq_true rfl⟩) w hA [] rfl (fun H locs w => ?_)
          refine lv_sipush (v := 10000) hx hb dX3_dayRateByPaper_166 (by decide) ?_
          refine lv_iadd hx hb dX3_dayRateByPaper_169 ?_
          exact fin _ _ _ _ _ w (by rw [← he]; simp only [dpl, dpe, c1, c2, c3, if_true, if_false]) dX3_dayRateByPaper_170
        · refine lv_iconst (v := (-1)) hx hb dX3_dayRateByPaper_158 (by decide) ?_
          exact fin _ _ _ _ _ w (by rw [← he]; simp only [dpl, dpe, c1, c2, c3, if_true, if_false]) dX3_dayRateByPaper_159
    | succ n ih =>
      intro mk sn s1 ll gg hi he H locs ls w hl
      rw [nI_pred] at hl
      refine lv_iload hx hb dX3_dayRateByPaper_25 (lv_at hl 0 rfl) ?_
      refine lv_if_lt (tgt := 138) hx hb dX3_dayRateByPaper_27 (by decide) (fun c4 => absurd c4 (nI_pos (by omega))) (fun c4 => ?_)
      refine lv_iload_n hx hb dX3_dayRateByPaper_30 rfl (lv_at hl 2 rfl) ?_
      refine lv_bipush (v := 6) hx hb dX3_dayRateByPaper_31 (by decide) ?_
      refine lv_icmp_ge (tgt := 138) hx hb dX3_dayRateByPaper_33 (by decide) (fun c5 => ?_) (fun c5 => ?_)
      · refine lv_iload_n hx hb dX3_dayRateByPaper_138 rfl (lv_at hl 2 rfl) ?_
        refine lv_bipush (v := 6) hx hb dX3_dayRateByPaper_139 (by decide) ?_
        refine lv_icmp_lt (tgt := 158) hx hb dX3_dayRateByPaper_141 (by decide) (fun c6 => ?_) (fun c6 => ?_)
        · refine lv_iconst (v := (-1)) hx hb dX3_dayRateByPaper_158 (by decide) ?_
          exact fin _ _ _ _ _ w (by rw [← he, dpl_e c5]; simp only [dpe, c6, if_true, if_false]) dX3_dayRateByPaper_159
        · refine lv_iload hx hb dX3_dayRateByPaper_144 (lv_at hl 5 rfl) ?_
          refine lv_iload hx hb dX3_dayRateByPaper_146 (lv_at hl 4 rfl) ?_
          refine lv_isub hx hb dX3_dayRateByPaper_148 ?_
          refine lv_aload_n hx hb dX3_dayRateByPaper_149 rfl (lv_at hl 6 rfl) ?_
          refine k_get X w 0 rfl rfl 2 (by decide) rfl iX3_dayRateByPaper_X3 (List.mem_of_getElem? (i := 7) rfl) (v := .ref sa) rfl dX3_dayRateByPaper_150 ?_
          refine lv_iconst (v := 3) hx hb dX3_dayRateByPaper_153 (by decide) ?_
          refine k_iald X w 1 0 rfl rfl 3 (kj := 15) rfl (by decide) (by decide) rfl (v := z 15) rfl dX3_dayRateByPaper_154 ?_
          refine lv_icmp_le (tgt := 160) hx hb dX3_dayRateByPaper_155 (by decide) (fun c7 => ?_) (fun c7 => ?_)
          · refine lv_iload_n hx hb dX3_dayRateByPaper_160 rfl (lv_at hl 3 rfl) ?_
            refine lv_bipush (v := 6) hx hb dX3_dayRateByPaper_161 (by decide) ?_
            refine k_ciR (k_runS X w (met_J9_floorDiv_7cf53 l D cI cJ cO s1 6 (by decide) H.size) gX3_dayRateByPaper_J9_floorDiv_7cf53 rfl rfl rfl 2 hdJ9_floorDiv_7cf53 ⟨Nat.le_of_ble_eq_true rfl, Nat.le_of_ble_eq_true rfl⟩ [] rfl rfl rfl hl.1 rfl (Nat.le_of_ble_eq_true rfl) dX3_dayRateByPaper_163 ⟨Nat.le_of_ble_eq_true rfl, Nat.le_of_ble_eq_true rfl⟩) w hA [] rfl (fun H locs w => ?_)
            refine lv_sipush (v := 10000) hx hb dX3_dayRateByPaper_166 (by decide) ?_
            refine lv_iadd hx hb dX3_dayRateByPaper_169 ?_
            exact fin _ _ _ _ _ w (by rw [← he, dpl_e c5]; simp only [dpe, c6, c7, if_true, if_false]) dX3_dayRateByPaper_170
          · refine lv_iconst (v := (-1)) hx hb dX3_dayRateByPaper_158 (by decide) ?_
            exact fin _ _ _ _ _ w (by rw [← he, dpl_e c5]; simp only [dpe, c6, c7, if_true, if_false]) dX3_dayRateByPaper_159
      · refine lv_iconst (v := 1) hx hb dX3_dayRateByPaper_36 (by decide) ?_
        refine lv_aload_n hx hb dX3_dayRateByPaper_37 rfl (lv_at hl 6 rfl) ?_
        refine k_get X w 0 rfl rfl 1 (by decide) rfl iX3_dayRateByPaper_X3 (List.mem_of_getElem? (i := 3) rfl) (v := .ref pa) rfl dX3_dayRateByPaper_38 ?_
        refine lv_iload hx hb dX3_dayRateByPaper_41 (lv_at hl 0 rfl) ?_
        refine lv_iconst (v := 1) hx hb dX3_dayRateByPaper_43 (by decide) ?_
        refine k_ciR (k_runV X w (met_X1_number l D cI cJ cO pa ra z n 1 len hn hn4 (by omega) (by decide) H.size) gX3_dayRateByPaper_X1_number rfl rfl rfl 2 hdX1_number ⟨Nat.le_of_ble_eq_true rfl, Nat.le_of_ble_eq_true rfl⟩ [4, 5] rfl rfl 4 1 rfl rfl rfl rfl hl.1 rfl (Nat.le_of_ble_eq_true rfl) dX3_dayRateByPaper_44 ⟨Nat.le_of_ble_eq_true rfl, Nat.le_of_ble_eq_true rfl⟩) w hA [4, 5] rfl (fun H locs w => ?_)
        refine lv_ishl hx hb dX3_dayRateByPaper_47 ?_
        refine lv_istore (lv' := [(7, .int (1 <<< ((z (25 + (n * 5 + 1))) &&& 31))), (6, .int (nI n)), (1, .int mk), (2, .int sn), (3, .int s1), (4, .int ll), (5, .int gg), (0, .ref a)]) hx hb dX3_dayRateByPaper_48 hl (by decide) rfl (fun ls hl => ?_)
        refine lv_iload_n hx hb dX3_dayRateByPaper_50 rfl (lv_at hl 2 rfl) ?_
        refine lv_iload hx hb dX3_dayRateByPaper_51 (lv_at hl 0 rfl) ?_
        refine lv_iand hx hb dX3_dayRateByPaper_53 ?_
        refine lv_if_eq (tgt := 60) hx hb dX3_dayRateByPaper_54 (by decide) (fun c8 => ?_) (fun c8 => ?_)
        · refine lv_aload_n hx hb dX3_dayRateByPaper_60 rfl (lv_at hl 7 rfl) ?_
          refine k_get X w 0 rfl rfl 0 (by decide) rfl iX3_dayRateByPaper_X3 (List.mem_of_getElem? (i := 5) rfl) (v := .ref w1) rfl dX3_dayRateByPaper_61 ?_
          refine k_get X w 2 rfl rfl 7 (by decide) rfl iX3_dayRateByPaper_X4 (List.mem_of_getElem? (i := 6) rfl) (v := .int (z 0)) rfl dX3_dayRateByPaper_64 ?_
          refine lv_aload_n hx hb dX3_dayRateByPaper_67 rfl (lv_at hl 7 rfl) ?_
          refine k_get X w 0 rfl rfl 1 (by decide) rfl iX3_dayRateByPaper_X3 (List.mem_of_getElem? (i := 3) rfl) (v := .ref pa) rfl dX3_dayRateByPaper_68 ?_
          refine lv_iload hx hb dX3_dayRateByPaper_71 (lv_at hl 1 rfl) ?_
          refine lv_iconst (v := 0) hx hb dX3_dayRateByPaper_73 (by decide) ?_
          refine k_ciR (k_runV X w (met_X1_number l D cI cJ cO pa ra z n 0 len hn hn4 (by omega) (by decide) H.size) gX3_dayRateByPaper_X1_number rfl rfl rfl 2 hdX1_number ⟨Nat.le_of_ble_eq_true rfl, Nat.le_of_ble_eq_true rfl⟩ [4, 5] rfl rfl 4 1 rfl rfl rfl rfl hl.1 rfl (Nat.le_of_ble_eq_true rfl) dX3_dayRateByPaper_74 ⟨Nat.le_of_ble_eq_true rfl, Nat.le_of_ble_eq_true rfl⟩) w hA [4, 5] rfl (fun H locs w => ?_)
          refine lv_isub hx hb dX3_dayRateByPaper_77 ?_
          refine lv_aload_n hx hb dX3_dayRateByPaper_78 rfl (lv_at hl 7 rfl) ?_
          refine k_get X w 0 rfl rfl 2 (by decide) rfl iX3_dayRateByPaper_X3 (List.mem_of_getElem? (i := 7) rfl) (v := .ref sa) rfl dX3_dayRateByPaper_79 ?_
          refine lv_iconst (v := 2) hx hb dX3_dayRateByPaper_82 (by decide) ?_
          refine k_iald X w 1 0 rfl rfl 2 (kj := 14) rfl (by decide) (by decide) rfl (v := z 14) rfl dX3_dayRateByPaper_83 ?_
          refine lv_icmp_le (tgt := 89) hx hb dX3_dayRateByPaper_84 (by decide) (fun c9 => ?_) (fun c9 => ?_)
          · refine lv_aload_n hx hb dX3_dayRateByPaper_89 rfl (lv_at hl 7 rfl) ?_
            refine k_get X w 0 rfl rfl 1 (by decide) rfl iX3_dayRateByPaper_X3 (List.mem_of_getElem? (i := 3) rfl) (v := .ref pa) rfl dX3_dayRateByPaper_90 ?_
            refine lv_iload hx hb dX3_dayRateByPaper_93 (lv_at hl 1 rfl) ?_
            refine lv_iconst (v := 2) hx hb dX3_dayRateByPaper_95 (by decide) ?_
            refine k_ciR (k_runV X w (met_X1_number l D cI cJ cO pa ra z n 2 len hn hn4 (by omega) (by decide) H.size) gX3_dayRateByPaper_X1_number rfl rfl rfl 2 hdX1_number ⟨Nat.le_of_ble_eq_true rfl, Nat.le_of_ble_eq_true rfl⟩ [4, 5] rfl rfl 4 1 rfl rfl rfl rfl hl.1 rfl (Nat.le_of_ble_eq_true rfl) dX3_dayRateByPaper_96 ⟨Nat.le_of_ble_eq_true rfl, Nat.le_of_ble_eq_true rfl⟩) w hA [4, 5] rfl (fun H locs w => ?_)
            refine lv_istore (lv' := [(8, .int (z (25 + (n * 5 + 2)))), (7, .int (1 <<< ((z (25 + (n * 5 + 1))) &&& 31))), (6, .int (nI n)), (1, .int mk), (2, .int sn), (3, .int s1), (4, .int ll), (5, .int gg), (0, .ref a)]) hx hb dX3_dayRateByPaper_99 hl (by decide) rfl (fun ls hl => ?_)
            refine lv_iload_n hx hb dX3_dayRateByPaper_101 rfl (lv_at hl 3 rfl) ?_
            refine lv_iload hx hb dX3_dayRateByPaper_102 (lv_at hl 1 rfl) ?_
            refine lv_ior hx hb dX3_dayRateByPaper_104 ?_
            refine lv_istore_n (lv' := [(1, .int (mk ||| (1 <<< ((z (25 + (n * 5 + 1))) &&& 31)))), (8, .int (z (25 + (n * 5 + 2)))), (7, .int (1 <<< ((z (25 + (n * 5 + 1))) &&& 31))), (6, .int (nI n)), (2, .int sn), (3, .int s1), (4, .int ll), (5, .int gg), (0, .ref a)]) hx hb dX3_dayRateByPaper_105 rfl hl (by decide) rfl (fun ls hl => ?_)
            refine lv_iinc (v := sn + 1) (lv' := [(2, .int (sn + 1)), (1, .int (mk ||| (1 <<< ((z (25 + (n * 5 + 1))) &&& 31)))), (8, .int (z (25 + (n * 5 + 2)))), (7, .int (1 <<< ((z (25 + (n * 5 + 1))) &&& 31))), (6, .int (nI n)), (3, .int s1), (4, .int ll), (5, .int gg), (0, .ref a)]) hx hb dX3_dayRateByPaper_106 hl (k := 4) rfl (congrArg (fun t => sn + t) (by decide)) (by decide) rfl (fun ls hl => ?_)
            refine lv_iload_n hx hb dX3_dayRateByPaper_109 rfl (lv_at hl 5 rfl) ?_
            refine lv_iload hx hb dX3_dayRateByPaper_110 (lv_at hl 2 rfl) ?_
            refine lv_iadd hx hb dX3_dayRateByPaper_112 ?_
            refine lv_istore_n (lv' := [(3, .int (s1 + (z (25 + (n * 5 + 2))))), (2, .int (sn + 1)), (1, .int (mk ||| (1 <<< ((z (25 + (n * 5 + 1))) &&& 31)))), (8, .int (z (25 + (n * 5 + 2)))), (7, .int (1 <<< ((z (25 + (n * 5 + 1))) &&& 31))), (6, .int (nI n)), (4, .int ll), (5, .int gg), (0, .ref a)]) hx hb dX3_dayRateByPaper_113 rfl hl (by decide) rfl (fun ls hl => ?_)
            refine lv_iload hx hb dX3_dayRateByPaper_114 (lv_at hl 6 rfl) ?_
            refine lv_iload hx hb dX3_dayRateByPaper_116 (lv_at hl 3 rfl) ?_
            refine k_min X hl.1 (List.mem_of_getElem? (i := 8) rfl) (List.mem_of_getElem? (i := 9) rfl) (List.mem_of_getElem? (i := 10) rfl) (List.mem_of_getElem? (i := 11) rfl) (Nat.le_of_ble_eq_true rfl) (Nat.le_of_ble_eq_true rfl) (Nat.le_of_ble_eq_true rfl) (Nat.le_of_ble_eq_true rfl) dX3_dayRateByPaper_118 ?_
            refine lv_istore (lv' := [(4, .int (if (z (25 + (n * 5 + 2))) < ll then z (25 + (n * 5 + 2)) else ll)), (3, .int (s1 + (z (25 + (n * 5 + 2))))), (2, .int (sn + 1)), (1, .int (mk ||| (1 <<< ((z (25 + (n * 5 + 1))) &&& 31)))), (8, .int (z (25 + (n * 5 + 2)))), (7, .int (1 <<< ((z (25 + (n * 5 + 1))) &&& 31))), (6, .int (nI n)), (5, .int gg), (0, .ref a)]) hx hb dX3_dayRateByPaper_121 hl (by decide) rfl (fun ls hl => ?_)
            refine lv_iload hx hb dX3_dayRateByPaper_123 (lv_at hl 7 rfl) ?_
            refine lv_iload hx hb dX3_dayRateByPaper_125 (lv_at hl 4 rfl) ?_
            refine k_max X hl.1 (List.mem_of_getElem? (i := 12) rfl) (List.mem_of_getElem? (i := 13) rfl) (List.mem_of_getElem? (i := 10) rfl) (List.mem_of_getElem? (i := 14) rfl) (Nat.le_of_ble_eq_true rfl) (Nat.le_of_ble_eq_true rfl) (Nat.le_of_ble_eq_true rfl) (Nat.le_of_ble_eq_true rfl) dX3_dayRateByPaper_127 ?_
            refine lv_istore (lv' := [(5, .int (if gg < (z (25 + (n * 5 + 2))) then z (25 + (n * 5 + 2)) else gg)), (4, .int (if (z (25 + (n * 5 + 2))) < ll then z (25 + (n * 5 + 2)) else ll)), (3, .int (s1 + (z (25 + (n * 5 + 2))))), (2, .int (sn + 1)), (1, .int (mk ||| (1 <<< ((z (25 + (n * 5 + 1))) &&& 31)))), (8, .int (z (25 + (n * 5 + 2)))), (7, .int (1 <<< ((z (25 + (n * 5 + 1))) &&& 31))), (6, .int (nI n)), (0, .ref a)]) hx hb dX3_dayRateByPaper_130 hl (by decide) rfl (fun ls hl => ?_)
            refine lv_iinc (v := nI n - 1) (lv' := [(6, .int (nI n - 1)), (5, .int (if gg < (z (25 + (n * 5 + 2))) then z (25 + (n * 5 + 2)) else gg)), (4, .int (if (z (25 + (n * 5 + 2))) < ll then z (25 + (n * 5 + 2)) else ll)), (3, .int (s1 + (z (25 + (n * 5 + 2))))), (2, .int (sn + 1)), (1, .int (mk ||| (1 <<< ((z (25 + (n * 5 + 1))) &&& 31)))), (8, .int (z (25 + (n * 5 + 2)))), (7, .int (1 <<< ((z (25 + (n * 5 + 1))) &&& 31))), (0, .ref a)]) hx hb dX3_dayRateByPaper_132 hl (k := 7) rfl (dec1 _) (by decide) rfl (fun ls hl => ?_)
            refine lv_goto (tgt := 25) hx hb dX3_dayRateByPaper_135 (by decide) ?_
            exact ih (mk ||| (1 <<< ((z (25 + (n * 5 + 1))) &&& 31))) (sn + 1) (s1 + (z (25 + (n * 5 + 2)))) (if (z (25 + (n * 5 + 2))) < ll then z (25 + (n * 5 + 2)) else ll) (if gg < (z (25 + (n * 5 + 2))) then z (25 + (n * 5 + 2)) else gg) (by omega) ((dpl_y c5 c8 c9).symm.trans he) _ _ _ w (lv_sub hl [0, 5, 4, 3, 2, 1, 8] rfl)
          · refine lv_iconst (v := (-1)) hx hb dX3_dayRateByPaper_87 (by decide) ?_
            exact fin _ _ _ _ _ w (by rw [← he, dpl_o c5 c8 c9]) dX3_dayRateByPaper_88
        · refine lv_goto (tgt := 132) hx hb dX3_dayRateByPaper_57 (by decide) ?_
          refine lv_iinc (v := nI n - 1) (lv' := [(6, .int (nI n - 1)), (7, .int (1 <<< ((z (25 + (n * 5 + 1))) &&& 31))), (1, .int mk), (2, .int sn), (3, .int s1), (4, .int ll), (5, .int gg), (0, .ref a)]) hx hb dX3_dayRateByPaper_132 hl (k := 1) rfl (dec1 _) (by decide) rfl (fun ls hl => ?_)
          refine lv_goto (tgt := 25) hx hb dX3_dayRateByPaper_135 (by decide) ?_
          exact ih mk sn s1 ll gg (by omega) ((dpl_n c5 c8).symm.trans he) _ _ _ w (lv_sub hl [0, 2, 3, 4, 5, 6, 7] rfl)
  exact lp25 len 0 0 0 2000000000 (-2000000000) (Nat.le_refl _) rfl _ _ _ w (lv_sub hl [0, 5, 4, 3, 2, 1, 6] rfl)
