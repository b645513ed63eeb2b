theorem hdX6_doPart : yX6_doPart.cls = RX6 ∧ yX6_doPart.cls ≠ "java/lang/invoke/MethodHandle" ∧ yX6_doPart.cls ≠ "java/lang/invoke/VarHandle" ∧ (parseMethodDescriptor yX6_doPart.desc).map (fun d => d.parameters.length) = some 0 := ⟨rfl, by decide, by decide, by decide +kernel⟩
theorem iX6_doPart_X6 : ∀ w ∈ wsX60, w ∈ wsX6_doPart := fun _ h => List.mem_cons_of_mem _ (List.mem_append_right _ h)
set_option maxHeartbeats 4000000 in
set_option maxRecDepth 100000 in
theorem met_X6_doPart (l : Launch) (D : va_G) (cI cJ cO : ClassId) (ma : Nat) (za : Nat) (aa : Nat) (va : Nat) (ka : Nat) (ta : Nat) (y : Nat → Int32) (z : Nat → Int32) (n : Nat) (k : Nat) (q : Nat) (hob : okb z) (hz : z 6 = nI k) (hk : k < 6) (hn : z 10 = nI n) (hn4 : n ≤ 40) (hv : vtY (y 4) (y 5)) (hw : y 4 = 114 → why z (y 5).toNatClampNeg = 0) : CV l D (TY cI cJ cO) yX6_doPart wsX6_doPart ({ frames := 4, cells := 0, slots := 0, locals := 88 }) [.ref ma] [oM ma za aa va ka ta y, aI cI za 225 0 z] [oM ma za aa va ka ta y, aI cI za 225 0 (doF z n k (y 4) (y 5) q)] := by
  refine CV.of (plainFor_of_name (by decide)) rfl (Nat.le_of_ble_eq_true rfl) (fun p e s m below meth c A ls Q X hA w hl fin => ?_)
  obtain ⟨hx, hb, hml, hown, hts⟩ := id X.1
  have hl : lv_has ls 1 [(0, .ref ma)] := hl
  refine lv_aload_n hx hb dX6_doPart_0 rfl (lv_at hl 0 rfl) ?_
  refine k_get X w 0 rfl rfl 9 (by decide) rfl iX6_doPart_X6 (List.mem_of_getElem? (i := 1) rfl) (v := .int (y 4)) rfl dX6_doPart_1 ?_
  by_cases c1 : y 4 = 100
  · refine lv_lookup (off := 103) (tgt := 107) hx hb dX6_doPart_4 rfl (by rw [c1]; decide) (by decide) ?_
    refine lv_aload_n hx hb dX6_doPart_107 rfl (lv_at hl 0 rfl) ?_
    refine k_get X w 0 rfl rfl 1 (by decide) rfl iX6_doPart_X6 (List.mem_of_getElem? (i := 3) rfl) (v := .ref za) rfl dX6_doPart_108 ?_
    refine lv_iconst (v := 4) hx hb dX6_doPart_111 (by decide) ?_
    refine lv_iconst (v := 0) hx hb dX6_doPart_112 (by decide) ?_
    refine k_iast X w 1 0 rfl rfl 4 (kj := 4) rfl (by decide) (by decide) rfl (ws2 := [oM ma za aa va ka ta y, aI cI za 225 0 (upd z 4 0)]) rfl dX6_doPart_113 (fun H locs w => ?_)
    refine lv_goto (tgt := 126) hx hb dX6_doPart_114 (by decide) ?_
    have ez : upd z 4 0 = doF z n k (y 4) (y 5) q := by rw [doF, if_pos c1]
    rw [ez] at w
    exact fin _ _ _ _ w dX6_doPart_126
  by_cases c2 : y 4 = 103
  · refine lv_lookup (off := 90) (tgt := 94) hx hb dX6_doPart_4 rfl (by rw [c2]; decide) (by decide) ?_
    refine lv_aload_n hx hb dX6_doPart_94 rfl (lv_at hl 0 rfl) ?_
    refine k_get X w 0 rfl rfl 1 (by decide) rfl iX6_doPart_X6 (List.mem_of_getElem? (i := 3) rfl) (v := .ref za) rfl dX6_doPart_95 ?_
    refine lv_iconst (v := 2) hx hb dX6_doPart_98 (by decide) ?_
    refine lv_aload_n hx hb dX6_doPart_99 rfl (lv_at hl 0 rfl) ?_
    refine k_get X w 0 rfl rfl 10 (by decide) rfl iX6_doPart_X6 (List.mem_of_getElem? (i := 2) rfl) (v := .int (y 5)) rfl dX6_doPart_100 ?_
    refine k_iast X w 1 0 rfl rfl 2 (kj := 2) rfl (by decide) (by decide) rfl (ws2 := [oM ma za aa va ka ta y, aI cI za 225 0 (upd z 2 (y 5))]) rfl dX6_doPart_103 (fun H locs w => ?_)
    refine lv_goto (tgt := 126) hx hb dX6_doPart_104 (by decide) ?_
    have ez : upd z 2 (y 5) = doF z n k (y 4) (y 5) q := by rw [doF, if_neg c1, if_pos c2]
    rw [ez] at w
    exact fin _ _ _ _ w dX6_doPart_126
  by_cases c3 : y 4 = 112
  · refine lv_lookup (off := 64) (tgt := 68) hx hb dX6_doPart_4 rfl (by rw [c3]; decide) (by decide) ?_
    refine lv_aload_n hx hb dX6_doPart_68 rfl (lv_at hl 0 rfl) ?_
    refine k_get X w 0 rfl rfl 1 (by decide) rfl iX6_doPart_X6 (List.mem_of_getElem? (i := 3) rfl) (v := .ref za) rfl dX6_doPart_69 ?_
    refine lv_bipush (v := 6) hx hb dX6_doPart_72 (by decide) ?_
    refine lv_aload_n hx hb dX6_doPart_74 rfl (lv_at hl 0 rfl) ?_
    refine k_get X w 0 rfl rfl 10 (by decide) rfl iX6_doPart_X6 (List.mem_of_getElem? (i := 2) rfl) (v := .int (y 5)) rfl dX6_doPart_75 ?_
    refine k_iast X w 1 0 rfl rfl 6 (kj := 6) rfl (by decide) (by decide) rfl (ws2 := [oM ma za aa va ka ta y, aI cI za 225 0 (upd z 6 (y 5))]) rfl dX6_doPart_78 (fun H locs w => ?_)
    refine lv_goto (tgt := 126) hx hb dX6_doPart_79 (by decide) ?_
    have ez : upd z 6 (y 5) = doF z n k (y 4) (y 5) q := by rw [doF, if_neg c1, if_neg c2, if_pos c3]
    rw [ez] at w
    exact fin _ _ _ _ w dX6_doPart_126
  by_cases c4 : y 4 = 114
  · refine lv_lookup (off := 78) (tgt := 82) hx hb dX6_doPart_4 rfl (by rw [c4]; decide) (by decide) ?_
    obtain ⟨v, hv1, hv2⟩ := hv.2.1 (Or.inr c4)
    have hw2 : why z v = 0 := by have h := hw c4; rw [hv1, nI_clamp (show v < 2 ^ 31 by omega)] at h; exact h
    refine lv_aload_n hx hb dX6_doPart_82 rfl (lv_at hl 0 rfl) ?_
    refine lv_aload_n hx hb dX6_doPart_83 rfl (lv_at hl 0 rfl) ?_
    refine k_get X w 0 rfl rfl 10 (by decide) rfl iX6_doPart_X6 (List.mem_of_getElem? (i := 2) rfl) (v := .int (y 5)) rfl dX6_doPart_84 ?_
    rw [hv1]
    refine k_ci (wr := []) (ws2 := [oM ma za aa va ka ta y, aI cI za 225 0 (readF z n v)]) (k_runV X w (met_X6_doRead l D cI cJ cO ma za aa va ka ta y z n v hob hv2 hn (why_lt hn hn4 hw2) s.heap.size) gX6_doPart_X6_doRead rfl rfl rfl 1 hdX6_doRead ⟨Nat.le_of_ble_eq_true rfl, Nat.le_of_ble_eq_true rfl⟩ [0, 1] rfl rfl 0 6 rfl rfl rfl rfl hl.1 rfl (Nat.le_of_ble_eq_true rfl) dX6_doPart_87 ⟨Nat.le_of_ble_eq_true rfl, Nat.le_of_ble_eq_true rfl⟩) w hA [0, 1] [] rfl rfl rfl (by decide) [0, 1] rfl rfl (fun H locs w => ?_)
    refine lv_pop hx hb dX6_doPart_90 rfl ?_
    refine lv_goto (tgt := 126) hx hb dX6_doPart_91 (by decide) ?_
    have ez : readF z n v = doF z n k (y 4) (y 5) q := by rw [doF, if_neg c1, if_neg c2, if_neg c3, if_pos c4, rosF, if_pos (hw c4), hv1, nI_clamp (show v < 2 ^ 31 by omega)]
    rw [ez] at w
    exact fin _ _ _ _ w dX6_doPart_126
  by_cases c5 : y 4 = 119
  · refine lv_lookup (off := 52) (tgt := 56) hx hb dX6_doPart_4 rfl (by rw [c5]; decide) (by decide) ?_
    refine lv_aload_n hx hb dX6_doPart_56 rfl (lv_at hl 0 rfl) ?_
    refine lv_aload_n hx hb dX6_doPart_57 rfl (lv_at hl 0 rfl) ?_
    refine k_get X w 0 rfl rfl 10 (by decide) rfl iX6_doPart_X6 (List.mem_of_getElem? (i := 2) rfl) (v := .int (y 5)) rfl dX6_doPart_58 ?_
    refine k_ci (wr := []) (ws2 := [oM ma za aa va ka ta y, aI cI za 225 0 (upd z 1 (mn48 (z 1 + (y 5))))]) (k_runV X w (met_X6_doWind l D cI cJ cO ma za aa va ka ta y z (y 5)  s.heap.size) gX6_doPart_X6_doWind rfl rfl rfl 1 hdX6_doWind ⟨Nat.le_of_ble_eq_true rfl, Nat.le_of_ble_eq_true rfl⟩ [0, 1] rfl rfl 0 6 rfl rfl rfl rfl hl.1 rfl (Nat.le_of_ble_eq_true rfl) dX6_doPart_61 ⟨Nat.le_of_ble_eq_true rfl, Nat.le_of_ble_eq_true rfl⟩) w hA [0, 1] [] rfl rfl rfl (by decide) [0, 1] rfl rfl (fun H locs w => ?_)
    refine lv_pop hx hb dX6_doPart_64 rfl ?_
    refine lv_goto (tgt := 126) hx hb dX6_doPart_65 (by decide) ?_
    have ez : upd z 1 (mn48 (z 1 + (y 5))) = doF z n k (y 4) (y 5) q := by rw [doF, if_neg c1, if_neg c2, if_neg c3, if_neg c4, if_pos c5]
    rw [ez] at w
    exact fin _ _ _ _ w dX6_doPart_126
  have h43 : y 4 = 43 := by simpa [c1, c2, c3, c4, c5] using hv.1
  obtain ⟨v, hv1, hv2⟩ := hv.2.2 h43
  refine lv_lookup (off := 113) (tgt := 117) hx hb dX6_doPart_4 rfl ((lv_osw c1 (by decide)).trans ((lv_osw c2 (by decide)).trans ((lv_osw c3 (by decide)).trans ((lv_osw c4 (by decide)).trans ((lv_osw c5 (by decide)).trans rfl))))) (by decide) ?_
  refine lv_aload_n hx hb dX6_doPart_117 rfl (lv_at hl 0 rfl) ?_
  refine lv_aload_n hx hb dX6_doPart_118 rfl (lv_at hl 0 rfl) ?_
  refine k_get X w 0 rfl rfl 10 (by decide) rfl iX6_doPart_X6 (List.mem_of_getElem? (i := 2) rfl) (v := .int (y 5)) rfl dX6_doPart_119 ?_
  rw [hv1]
  refine k_ci (wr := []) (ws2 := [oM ma za aa va ka ta y, aI cI za 225 0 (hoursF v z k)]) (k_runV X w (met_X6_hours l D cI cJ cO ma za aa va ka ta y z k v hob hz hk (by omega) s.heap.size) gX6_doPart_X6_hours rfl rfl rfl 1 hdX6_hours ⟨Nat.le_of_ble_eq_true rfl, Nat.le_of_ble_eq_true rfl⟩ [0, 1] rfl rfl 0 6 rfl rfl rfl rfl hl.1 rfl (Nat.le_of_ble_eq_true rfl) dX6_doPart_122 ⟨Nat.le_of_ble_eq_true rfl, Nat.le_of_ble_eq_true rfl⟩) w hA [0, 1] [] rfl rfl rfl (by decide) [0, 1] rfl rfl (fun H locs w => ?_)
  refine lv_pop hx hb dX6_doPart_125 rfl ?_
  have ez : hoursF v z k = doF z n k (y 4) (y 5) q := by rw [doF, if_neg c1, if_neg c2, if_neg c3, if_neg c4, if_neg c5, hv1, nI_clamp (show v < 2 ^ 31 by omega)]
  rw [ez] at w
  exact fin _ _ _ _ w dX6_doPart_126
