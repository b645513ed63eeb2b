theorem hdL_arePoses : yL_arePoses.cls = RL ∧ yL_arePoses.cls ≠ "java/lang/invoke/MethodHandle" ∧ yL_arePoses.cls ≠ "java/lang/invoke/VarHandle" ∧ (parseMethodDescriptor yL_arePoses.desc).map (fun d => d.parameters.length) = some 4 := ⟨rfl, by decide, by decide, by decide +kernel⟩
set_option maxHeartbeats 16000000 in
set_option maxRecDepth 100000 in
theorem met_L_arePoses (l : Launch) (D : va_G) (cI cJ cO : ClassId) (o : Nat → Nat) (xx : Nat) (ak : Nat) (b : Nat) (tr : Nat) (hf : Int32) (sv : Nat) (an : Nat) (w1n : Nat) (wan : Nat) (pan : Nat) (ran : Nat) (san : Nat) (z : Nat → Int32) (twa : Nat) (zt : Nat → Int32) (rr : Nat) (y : Nat → Int32) (ga : Nat) (aa : Nat) (ba : Nat) (len : Nat) (k6 : Nat) (M : Int) (hgd : good M z) (hM : M ≤ 10000000) (hQ : goodQ z) (hn : z 10 = nI len) (hn4 : len ≤ 40) (hz6 : z 6 = nI k6) : CIm l D (TY cI cJ cO) o cI yL_arePoses wsL_arePoses ({ frames := 7, cells := 1, slots := 22, locals := 151 }) 1 22 [.ref xx, .ref ga, .ref aa, .ref ba] [oX xx an ak sv b tr hf, oS an w1n pan san z, aI cI san 4 12 z, oW w1n wan z, aI cI wan 6 19 z, oP pan ran z, aI cI ran 200 25 z, oV sv rr y, oW tr twa zt, aI cI twa 6 19 zt, aI cI ga 22 0 (gz z), aI cI aa 40 0 (pA z), aI cI ba 40 0 (pB z)] 1 [oX xx an ak sv b tr hf, oS an w1n pan san z, aI cI san 4 12 z, oW w1n wan z, aI cI wan 6 19 z, oP pan ran z, aI cI ran 200 25 z, oV sv rr y, oW tr twa (utrs z zt 6), aI cI twa 6 19 (utrs z zt 6), aI cI ga 22 0 (gz z), aI cI aa 40 0 (pA z), aI cI ba 40 0 (pB z)] := by
  refine CIm.ofM (by decide) rfl (Nat.le_of_ble_eq_true rfl) (rfl) (fun p e s m below meth c A ls Q X hA w ox hl fin => ?_)
  obtain ⟨hx, hb, hml, hown, hts⟩ := id X.1
  have hl : lv_has ls 14 [(0, .ref xx), (1, .ref ga), (2, .ref aa), (3, .ref ba)] := hl
  have hpp := pA_ok hgd hM hn hn4
  have hokp := good_okp hgd hM hn hn4
  have hz0 : (z 0).toInt ≤ 10000000 := Int.le_trans hgd.2.2.1.2.2 hM
  refine lv_iconst (v := 0) hx hb dL_arePoses_0 (by decide) ?_
  refine lv_istore (lv' := [(4, .int 0), (0, .ref xx), (1, .ref ga), (2, .ref aa), (3, .ref ba)]) hx hb dL_arePoses_1 hl (by decide) rfl (fun ls hl => ?_)
  refine lv_iconst (v := 0) hx hb dL_arePoses_3 (by decide) ?_
  refine lv_istore (lv' := [(5, .int 0), (4, .int 0), (0, .ref xx), (1, .ref ga), (2, .ref aa), (3, .ref ba)]) hx hb dL_arePoses_4 hl (by decide) rfl (fun ls hl => ?_)
  refine lv_iconst (v := 0) hx hb dL_arePoses_6 (by decide) ?_
  refine lv_istore (lv' := [(6, .int 0), (5, .int 0), (4, .int 0), (0, .ref xx), (1, .ref ga), (2, .ref aa), (3, .ref ba)]) hx hb dL_arePoses_7 hl (by decide) rfl (fun ls hl => ?_)
  refine lv_iconst (v := 0) hx hb dL_arePoses_9 (by decide) ?_
  refine lv_istore (lv' := [(7, .int 0), (6, .int 0), (5, .int 0), (4, .int 0), (0, .ref xx), (1, .ref ga), (2, .ref aa), (3, .ref ba)]) hx hb dL_arePoses_10 hl (by decide) rfl (fun ls hl => ?_)
  refine lv_iconst (v := 0) hx hb dL_arePoses_12 (by decide) ?_
  refine lv_istore (lv' := [(8, .int 0), (7, .int 0), (6, .int 0), (5, .int 0), (4, .int 0), (0, .ref xx), (1, .ref ga), (2, .ref aa), (3, .ref ba)]) hx hb dL_arePoses_13 hl (by decide) rfl (fun ls hl => ?_)
  refine lv_bipush (v := 22) hx hb dL_arePoses_15 (by decide) ?_
  refine k_newa (n := 22) (k := 0) X w hA rfl (List.mem_of_getElem? (i := 1) rfl) rfl (by decide) ⟨Nat.le_of_ble_eq_true rfl, Nat.le_of_ble_eq_true rfl⟩ dL_arePoses_17 (fun g2 H w => ?_)
  have w := w.to (show _ = [oX xx an ak sv b tr hf, oS an w1n pan san z, aI cI san 4 12 z, oW w1n wan z, aI cI wan 6 19 z, oP pan ran z, aI cI ran 200 25 z, oV sv rr y, oW tr twa zt, aI cI twa 6 19 zt, aI cI ga 22 0 (gz z), aI cI aa 40 0 (pA z), aI cI ba 40 0 (pB z), aI cI g2 22 0 (fun _ => 0)] from rfl)
  refine lv_astore (lv' := [(9, .ref g2), (8, .int 0), (7, .int 0), (6, .int 0), (5, .int 0), (4, .int 0), (0, .ref xx), (1, .ref ga), (2, .ref aa), (3, .ref ba)]) hx hb dL_arePoses_19 hl (by decide) rfl (fun ls hl => ?_)
  refine lv_iconst (v := 0) hx hb dL_arePoses_21 (by decide) ?_
  refine lv_istore (lv' := [(10, .int 0), (9, .ref g2), (8, .int 0), (7, .int 0), (6, .int 0), (5, .int 0), (4, .int 0), (0, .ref xx), (1, .ref ga), (2, .ref aa), (3, .ref ba)]) hx hb dL_arePoses_22 hl (by decide) rfl (fun ls hl => ?_)
  have lp24 : ∀ (n : Nat) (pp : Nat) (aN : Nat) (s5 : Int32) (l6 : Int32) (m7 : Int32) (o8 : Int32) (vg : Nat → Int32), pp + n = 6 → aN = apN z len pp → s5 = apS z len pp → l6 = apL z len pp → m7 = apM z len pp → o8 = apO z len pp → ∀ (H : Heap) (locs : List Loc) (ls : Array Slot), wd D A s.heap H locs ([oX xx an ak sv b tr hf, oS an w1n pan san z, aI cI san 4 12 z, oW w1n wan z, aI cI wan 6 19 z, oP pan ran z, aI cI ran 200 25 z, oV sv rr y, oW tr twa (utrs z zt pp), aI cI twa 6 19 (utrs z zt pp), aI cI ga 22 0 (gz z), aI cI aa 40 0 (pA z), aI cI ba 40 0 (pB z), aI cI g2 22 0 vg]) → lv_has ls 14 [(10, .int (nI pp)), (4, .int (nI aN)), (5, .int s5), (6, .int l6), (7, .int m7), (8, .int o8), (9, .ref g2), (0, .ref xx), (1, .ref ga), (2, .ref aa), (3, .ref ba)] → W p l e ({ frames := 7, cells := 1, slots := 22, locals := 151 }) s m [.ref xx, .ref ga, .ref aa, .ref ba].toArray below meth c H locs 1 22 Q (F0 m 24 ls []) := by
    intro n
    induction n with
    | zero =>
      intro pp aN s5 l6 m7 o8 vg hi ha hs5 hl6 hm7 ho8 H locs ls w hl
      have e6 : pp = 6 := by omega
      have ha6 : aN = apN z len 6 := by rw [ha, e6]
      have hs6 : s5 = apS z len 6 := by rw [hs5, e6]
      have hl66 : l6 = apL z len 6 := by rw [hl6, e6]
      have hm66 : m7 = apM z len 6 := by rw [hm7, e6]
      have ho6 : o8 = apO z len 6 := by rw [ho8, e6]
      refine lv_iload hx hb dL_arePoses_24 (lv_at hl 0 rfl) ?_
      refine lv_bipush (v := 6) hx hb dL_arePoses_26 (by decide) ?_
      refine lv_icmp_ge (tgt := 394) hx hb dL_arePoses_28 (by decide) (fun c1 => ?_) (fun c1 => absurd (nI_le (a := 6) (b := pp) (by omega) (by omega)) c1)
      refine lv_iload hx hb dL_arePoses_394 (lv_at hl 1 rfl) ?_
      refine lv_bipush (v := 6) hx hb dL_arePoses_396 (by decide) ?_
      have K : ∀ y3 : Int32, y3 = whyDay z len → W p l e ({ frames := 7, cells := 1, slots := 22, locals := 151 }) s m [.ref xx, .ref ga, .ref aa, .ref ba].toArray below meth c H locs 1 22 Q (F0 m 434 ls [.int y3]) := by
        intro y3 ey3
        refine lv_istore (lv' := [(10, .int y3), (4, .int (nI aN)), (5, .int s5), (6, .int l6), (7, .int m7), (8, .int o8), (9, .ref g2), (0, .ref xx), (1, .ref ga), (2, .ref aa), (3, .ref ba)]) hx hb dL_arePoses_434 hl (by decide) rfl (fun ls hl => ?_)
        refine lv_iload hx hb dL_arePoses_436 (lv_at hl 0 rfl) ?_
        have K438 : ∀ (y5 : Int32) (H : Heap) (locs : List Loc) (ls : Array Slot), y5 = dr1 z len → wd D A s.heap H locs ([oX xx an ak sv b tr hf, oS an w1n pan san z, aI cI san 4 12 z, oW w1n wan z, aI cI wan 6 19 z, oP pan ran z, aI cI ran 200 25 z, oV sv rr y, oW tr twa (utrs z zt pp), aI cI twa 6 19 (utrs z zt pp), aI cI ga 22 0 (gz z), aI cI aa 40 0 (pA z), aI cI ba 40 0 (pB z), aI cI g2 22 0 vg]) → lv_has ls 14 [(10, .int y3), (4, .int (nI aN)), (5, .int s5), (6, .int l6), (7, .int m7), (8, .int o8), (9, .ref g2), (0, .ref xx), (1, .ref ga), (2, .ref aa), (3, .ref ba)] → W p l e ({ frames := 7, cells := 1, slots := 22, locals := 151 }) s m [.ref xx, .ref ga, .ref aa, .ref ba].toArray below meth c H locs 1 22 Q (F0 m 456 ls [.int y5]) := by
          intro y5 H locs ls ey5 w hl
          subst ey5
          refine lv_istore (lv' := [(11, .int (dr1 z len)), (10, .int y3), (4, .int (nI aN)), (5, .int s5), (6, .int l6), (7, .int m7), (8, .int o8), (9, .ref g2), (0, .ref xx), (1, .ref ga), (2, .ref aa), (3, .ref ba)]) hx hb dL_arePoses_456 hl (by decide) rfl (fun ls hl => ?_)
          refine lv_aload_n hx hb dL_arePoses_458 rfl (lv_at hl 8 rfl) ?_
          refine lv_bipush (v := 12) hx hb dL_arePoses_459 (by decide) ?_
          refine k_ciR (k_runV X w (met_X5_count l D cI cJ cO xx ak b tr hf sv an w1n wan pan ran san z rr y len k6 12 hz6 hn hn4 (by decide) H.size) gL_arePoses_X5_count rfl rfl rfl 1 hdX5_count ⟨Nat.le_of_ble_eq_true rfl, Nat.le_of_ble_eq_true rfl⟩ [0, 1, 2, 3, 4, 5, 6, 7] rfl rfl 0 5 rfl rfl rfl rfl hl.1 rfl (Nat.le_of_ble_eq_true rfl) dL_arePoses_461 ⟨Nat.le_of_ble_eq_true rfl, Nat.le_of_ble_eq_true rfl⟩) w hA [0, 1, 2, 3, 4, 5, 6, 7] rfl (fun H locs w => ?_)
          refine lv_iload hx hb dL_arePoses_464 (lv_at hl 0 rfl) ?_
          refine lv_icmp_ne (tgt := 495) hx hb dL_arePoses_466 (by decide) (fun c6 => absurd (rfl) c6) (fun c6 => ?_)
          refine lv_aload_n hx hb dL_arePoses_469 rfl (lv_at hl 8 rfl) ?_
          refine lv_bipush (v := 13) hx hb dL_arePoses_470 (by decide) ?_
          refine k_ciR (k_runV X w (met_X5_count l D cI cJ cO xx ak b tr hf sv an w1n wan pan ran san z rr y len k6 13 hz6 hn hn4 (by decide) H.size) gL_arePoses_X5_count rfl rfl rfl 1 hdX5_count ⟨Nat.le_of_ble_eq_true rfl, Nat.le_of_ble_eq_true rfl⟩ [0, 1, 2, 3, 4, 5, 6, 7] rfl rfl 0 5 rfl rfl rfl rfl hl.1 rfl (Nat.le_of_ble_eq_true rfl) dL_arePoses_472 ⟨Nat.le_of_ble_eq_true rfl, Nat.le_of_ble_eq_true rfl⟩) w hA [0, 1, 2, 3, 4, 5, 6, 7] rfl (fun H locs w => ?_)
          refine lv_iload hx hb dL_arePoses_475 (lv_at hl 0 rfl) ?_
          refine lv_icmp_ne (tgt := 495) hx hb dL_arePoses_477 (by decide) (fun c7 => absurd ((good_dr hgd hM hn hn4).symm) c7) (fun c7 => ?_)
          refine lv_aload_n hx hb dL_arePoses_480 rfl (lv_at hl 8 rfl) ?_
          refine lv_bipush (v := 14) hx hb dL_arePoses_481 (by decide) ?_
          refine k_ciR (k_runV X w (met_X5_count l D cI cJ cO xx ak b tr hf sv an w1n wan pan ran san z rr y len k6 14 hz6 hn hn4 (by decide) H.size) gL_arePoses_X5_count rfl rfl rfl 1 hdX5_count ⟨Nat.le_of_ble_eq_true rfl, Nat.le_of_ble_eq_true rfl⟩ [0, 1, 2, 3, 4, 5, 6, 7] rfl rfl 0 5 rfl rfl rfl rfl hl.1 rfl (Nat.le_of_ble_eq_true rfl) dL_arePoses_483 ⟨Nat.le_of_ble_eq_true rfl, Nat.le_of_ble_eq_true rfl⟩) w hA [0, 1, 2, 3, 4, 5, 6, 7] rfl (fun H locs w => ?_)
          refine lv_iload hx hb dL_arePoses_486 (lv_at hl 1 rfl) ?_
          refine lv_icmp_ne (tgt := 495) hx hb dL_arePoses_488 (by decide) (fun c8 => absurd (ey3.symm) c8) (fun c8 => ?_)
          refine lv_iconst (v := 1) hx hb dL_arePoses_491 (by decide) ?_
          refine lv_goto (tgt := 496) hx hb dL_arePoses_492 (by decide) ?_
          have w := w.sub (ws2 := [oX xx an ak sv b tr hf, oS an w1n pan san z, aI cI san 4 12 z, oW w1n wan z, aI cI wan 6 19 z, oP pan ran z, aI cI ran 200 25 z, oV sv rr y, oW tr twa (utrs z zt pp), aI cI twa 6 19 (utrs z zt pp), aI cI ga 22 0 (gz z), aI cI aa 40 0 (pA z), aI cI ba 40 0 (pB z)]) [0, 1, 2, 3, 4, 5, 6, 7, 8, 9, 10, 11, 12] rfl rfl rfl
          have ez : utrs z zt pp = utrs z zt 6 := by rw [e6]
          rw [ez] at w
          exact fin _ _ _ _ _ _ _ w rfl dL_arePoses_496 (Nat.le_of_ble_eq_true rfl) (Nat.le_of_ble_eq_true rfl)
        refine lv_if_le (tgt := 445) hx hb dL_arePoses_438 (by decide) (fun c4 => ?_) (fun c4 => ?_)
        · refine lv_iload hx hb dL_arePoses_445 (lv_at hl 2 rfl) ?_
          refine lv_bipush (v := 6) hx hb dL_arePoses_447 (by decide) ?_
          refine k_ciR (k_runS X w (met_L_down l D cI cJ cO s5 6 (by decide) H.size) gL_arePoses_L_down rfl rfl rfl 2 hdL_down ⟨Nat.le_of_ble_eq_true rfl, Nat.le_of_ble_eq_true rfl⟩ [] rfl rfl rfl hl.1 rfl (Nat.le_of_ble_eq_true rfl) dL_arePoses_449 ⟨Nat.le_of_ble_eq_true rfl, Nat.le_of_ble_eq_true rfl⟩) w hA [] rfl (fun H locs w => ?_)
          refine lv_sipush (v := 10000) hx hb dL_arePoses_452 (by decide) ?_
          refine lv_iadd hx hb dL_arePoses_455 ?_
          exact K438 _ _ _ _ (ld_y hokp hs6 ey3 c4) w hl
        · refine lv_iconst (v := (-1)) hx hb dL_arePoses_441 (by decide) ?_
          refine lv_goto (tgt := 456) hx hb dL_arePoses_442 (by decide) ?_
          exact K438 _ _ _ _ (ld_n ey3 c4) w hl
      refine lv_icmp_ge (tgt := 406) hx hb dL_arePoses_398 (by decide) (fun c2 => ?_) (fun c2 => ?_)
      · refine lv_iload hx hb dL_arePoses_406 (lv_at hl 5 rfl) ?_
        refine lv_if_eq (tgt := 416) hx hb dL_arePoses_408 (by decide) (fun c9 => ?_) (fun c9 => ?_)
        · refine lv_iload hx hb dL_arePoses_416 (lv_at hl 4 rfl) ?_
          refine lv_iload hx hb dL_arePoses_418 (lv_at hl 3 rfl) ?_
          refine lv_isub hx hb dL_arePoses_420 ?_
          refine lv_aload_n hx hb dL_arePoses_421 rfl (lv_at hl 8 rfl) ?_
          refine lv_bipush (v := 15) hx hb dL_arePoses_422 (by decide) ?_
          refine k_iald X w 10 0 rfl rfl 15 (kj := 15) rfl (by decide) (by decide) rfl (v := z 15) (gz_o _ 15 (by decide)) dL_arePoses_424 ?_
          refine lv_icmp_le (tgt := 433) hx hb dL_arePoses_425 (by decide) (fun c10 => ?_) (fun c10 => ?_)
          · refine lv_iconst (v := 0) hx hb dL_arePoses_433 (by decide) ?_
            exact K _ (lw_0 hokp hz0 hQ.1 ha6 ho6 hl66 hm66 c2 c9 c10)
          · refine lv_bipush (v := 8) hx hb dL_arePoses_428 (by decide) ?_
            refine lv_goto (tgt := 434) hx hb dL_arePoses_430 (by decide) ?_
            exact K _ (lw_8 hokp hz0 hQ.1 ha6 ho6 hl66 hm66 c2 c9 c10)
        · refine lv_bipush (v := 7) hx hb dL_arePoses_411 (by decide) ?_
          refine lv_goto (tgt := 434) hx hb dL_arePoses_413 (by decide) ?_
          exact K _ (lw_7 hokp hz0 hQ.1 ha6 ho6 c2 c9)
      · refine lv_bipush (v := 6) hx hb dL_arePoses_401 (by decide) ?_
        refine lv_goto (tgt := 434) hx hb dL_arePoses_403 (by decide) ?_
        exact K _ (lw_6 ha6 c2)
    | succ n ih =>
      intro pp aN s5 l6 m7 o8 vg hi ha hs5 hl6 hm7 ho8 H locs ls w hl
      refine lv_iload hx hb dL_arePoses_24 (lv_at hl 0 rfl) ?_
      refine lv_bipush (v := 6) hx hb dL_arePoses_26 (by decide) ?_
      refine lv_icmp_ge (tgt := 394) hx hb dL_arePoses_28 (by decide) (fun c11 => absurd c11 (nI_ge (a := pp) (b := 6) (by omega) (by decide))) (fun c11 => ?_)
      refine lv_aload_n hx hb dL_arePoses_31 rfl (lv_at hl 8 rfl) ?_
      refine lv_aload_n hx hb dL_arePoses_32 rfl (lv_at hl 9 rfl) ?_
      refine lv_iload hx hb dL_arePoses_33 (lv_at hl 0 rfl) ?_
      refine k_ciR (k_runS X w (met_L_latest l D cI cJ cO ga aa z (nI pp) len hn hn4 (fun i hi => (hpp i hi).2) H.size) gL_arePoses_L_latest rfl rfl rfl 3 hdL_latest ⟨Nat.le_of_ble_eq_true rfl, Nat.le_of_ble_eq_true rfl⟩ [10, 11] rfl rfl rfl hl.1 rfl (Nat.le_of_ble_eq_true rfl) dL_arePoses_35 ⟨Nat.le_of_ble_eq_true rfl, Nat.le_of_ble_eq_true rfl⟩) w hA [10, 11] rfl (fun H locs w => ?_)
      refine lv_istore (lv' := [(11, .int (lat z (nI pp) len)), (10, .int (nI pp)), (4, .int (nI aN)), (5, .int s5), (6, .int l6), (7, .int m7), (8, .int o8), (9, .ref g2), (0, .ref xx), (1, .ref ga), (2, .ref aa), (3, .ref ba)]) hx hb dL_arePoses_38 hl (by decide) rfl (fun ls hl => ?_)
      refine lv_iconst (v := 0) hx hb dL_arePoses_40 (by decide) ?_
      refine lv_istore (lv' := [(12, .int 0), (11, .int (lat z (nI pp) len)), (10, .int (nI pp)), (4, .int (nI aN)), (5, .int s5), (6, .int l6), (7, .int m7), (8, .int o8), (9, .ref g2), (0, .ref xx), (1, .ref ga), (2, .ref aa), (3, .ref ba)]) hx hb dL_arePoses_41 hl (by decide) rfl (fun ls hl => ?_)
      refine lv_iconst (v := 0) hx hb dL_arePoses_43 (by decide) ?_
      refine lv_istore (lv' := [(13, .int 0), (12, .int 0), (11, .int (lat z (nI pp) len)), (10, .int (nI pp)), (4, .int (nI aN)), (5, .int s5), (6, .int l6), (7, .int m7), (8, .int o8), (9, .ref g2), (0, .ref xx), (1, .ref ga), (2, .ref aa), (3, .ref ba)]) hx hb dL_arePoses_44 hl (by decide) rfl (fun ls hl => ?_)
      have lp46 : ∀ (n2 : Nat) (i : Nat) (mm : Int32), i + n2 = len → mm = cnt z (nI pp) i → ∀ (H : Heap) (locs : List Loc) (ls : Array Slot), wd D A s.heap H locs ([oX xx an ak sv b tr hf, oS an w1n pan san z, aI cI san 4 12 z, oW w1n wan z, aI cI wan 6 19 z, oP pan ran z, aI cI ran 200 25 z, oV sv rr y, oW tr twa (utrs z zt pp), aI cI twa 6 19 (utrs z zt pp), aI cI ga 22 0 (gz z), aI cI aa 40 0 (pA z), aI cI ba 40 0 (pB z), aI cI g2 22 0 vg]) → lv_has ls 14 [(13, .int (nI i)), (12, .int mm), (11, .int (lat z (nI pp) len)), (10, .int (nI pp)), (4, .int (nI aN)), (5, .int s5), (6, .int l6), (7, .int m7), (8, .int o8), (9, .ref g2), (0, .ref xx), (1, .ref ga), (2, .ref aa), (3, .ref ba)] → W p l e ({ frames := 7, cells := 1, slots := 22, locals := 151 }) s m [.ref xx, .ref ga, .ref aa, .ref ba].toArray below meth c H locs 1 22 Q (F0 m 46 ls []) := by
        intro n2
        induction n2 with
        | zero =>
          intro i mm hi2 hmm H locs ls w hl
          refine lv_iload hx hb dL_arePoses_46 (lv_at hl 0 rfl) ?_
          refine lv_aload_n hx hb dL_arePoses_48 rfl (lv_at hl 11 rfl) ?_
          refine lv_bipush (v := 10) hx hb dL_arePoses_49 (by decide) ?_
          refine k_iald X w 10 0 rfl rfl 10 (kj := 10) rfl (by decide) (by decide) rfl (v := nI len) ((gz_o _ 10 (by decide)).trans hn) dL_arePoses_51 ?_
          refine lv_icmp_ge (tgt := 83) hx hb dL_arePoses_52 (by decide) (fun c12 => ?_) (fun c12 => absurd (nI_le (by omega) (by omega)) c12)
          refine lv_aload_n hx hb dL_arePoses_83 rfl (lv_at hl 11 rfl) ?_
          refine lv_aload hx hb dL_arePoses_84 (lv_at hl 9 rfl) ?_
          refine k_cv (wr := [oX xx an ak sv b tr hf, oS an w1n pan san z, aI cI san 4 12 z, oW w1n wan z, aI cI wan 6 19 z, oP pan ran z, aI cI ran 200 25 z, oV sv rr y, oW tr twa (utrs z zt pp), aI cI twa 6 19 (utrs z zt pp), aI cI aa 40 0 (pA z), aI cI ba 40 0 (pB z)]) (ws2 := [oX xx an ak sv b tr hf, oS an w1n pan san z, aI cI san 4 12 z, oW w1n wan z, aI cI wan 6 19 z, oP pan ran z, aI cI ran 200 25 z, oV sv rr y, oW tr twa (utrs z zt pp), aI cI twa 6 19 (utrs z zt pp), aI cI ga 22 0 (gz z), aI cI aa 40 0 (pA z), aI cI ba 40 0 (pB z), aI cI g2 22 0 (gz z)]) (k_runS X w (met_L_copy l D cI cJ cO ga g2 (gz z) vg  H.size) gL_arePoses_L_copy rfl rfl rfl 2 hdL_copy ⟨Nat.le_of_ble_eq_true rfl, Nat.le_of_ble_eq_true rfl⟩ [10, 13] rfl rfl rfl hl.1 rfl (Nat.le_of_ble_eq_true rfl) dL_arePoses_86 ⟨Nat.le_of_ble_eq_true rfl, Nat.le_of_ble_eq_true rfl⟩) w hA [10, 13] [0, 1, 2, 3, 4, 5, 6, 7, 8, 9, 11, 12] rfl rfl rfl (by decide) [0, 1, 2, 3, 4, 5, 6, 7, 8, 9, 12, 10, 11, 13] rfl rfl (fun H locs w => ?_)
          refine lv_aload hx hb dL_arePoses_89 (lv_at hl 9 rfl) ?_
          refine lv_bipush (v := 6) hx hb dL_arePoses_91 (by decide) ?_
          refine lv_iload hx hb dL_arePoses_93 (lv_at hl 3 rfl) ?_
          refine k_iast X w 13 0 rfl rfl 6 (kj := 6) rfl (by decide) (by decide) rfl (ws2 := [oX xx an ak sv b tr hf, oS an w1n pan san z, aI cI san 4 12 z, oW w1n wan z, aI cI wan 6 19 z, oP pan ran z, aI cI ran 200 25 z, oV sv rr y, oW tr twa (utrs z zt pp), aI cI twa 6 19 (utrs z zt pp), aI cI ga 22 0 (gz z), aI cI aa 40 0 (pA z), aI cI ba 40 0 (pB z), aI cI g2 22 0 (upd (gz z) 6 (nI pp))]) rfl dL_arePoses_95 (fun H locs w => ?_)
          have w := w.to (show [oX xx an ak sv b tr hf, oS an w1n pan san z, aI cI san 4 12 z, oW w1n wan z, aI cI wan 6 19 z, oP pan ran z, aI cI ran 200 25 z, oV sv rr y, oW tr twa (utrs z zt pp), aI cI twa 6 19 (utrs z zt pp), aI cI ga 22 0 (gz z), aI cI aa 40 0 (pA z), aI cI ba 40 0 (pB z), aI cI g2 22 0 (upd (gz z) 6 (nI pp))] = [oX xx an ak sv b tr hf, oS an w1n pan san z, aI cI san 4 12 z, oW w1n wan z, aI cI wan 6 19 z, oP pan ran z, aI cI ran 200 25 z, oV sv rr y, oW tr twa (utrs z zt pp), aI cI twa 6 19 (utrs z zt pp), aI cI ga 22 0 (gz z), aI cI aa 40 0 (pA z), aI cI ba 40 0 (pB z), aI cI g2 22 0 (gz (upd z 6 (nI pp)))] by rw [show upd (gz z) 6 (nI pp) = gz (upd z 6 (nI pp)) from gz_u (by decide)])
          refine lv_iconst (v := 0) hx hb dL_arePoses_96 (by decide) ?_
          refine lv_istore (lv' := [(13, .int 0), (12, .int mm), (11, .int (lat z (nI pp) len)), (10, .int (nI pp)), (4, .int (nI aN)), (5, .int s5), (6, .int l6), (7, .int m7), (8, .int o8), (9, .ref g2), (0, .ref xx), (1, .ref ga), (2, .ref aa), (3, .ref ba)]) hx hb dL_arePoses_97 hl (by decide) rfl (fun ls hl => ?_)
          have lp99 : ∀ (n3 : Nat) (cc : Nat) (zz : Nat → Int32), cc + n3 = 48 → zz 6 = nI pp → okb zz → (zz 1).toInt + (cc : Int) ≤ 48 → zz 9 = z 9 + nI cc → hoursF n3 zz pp 9 = utr z pp 9 → ∀ (H : Heap) (locs : List Loc) (ls : Array Slot), wd D A s.heap H locs ([oX xx an ak sv b tr hf, oS an w1n pan san z, aI cI san 4 12 z, oW w1n wan z, aI cI wan 6 19 z, oP pan ran z, aI cI ran 200 25 z, oV sv rr y, oW tr twa (utrs z zt pp), aI cI twa 6 19 (utrs z zt pp), aI cI ga 22 0 (gz z), aI cI aa 40 0 (pA z), aI cI ba 40 0 (pB z), aI cI g2 22 0 (gz zz)]) → lv_has ls 14 [(13, .int (nI cc)), (12, .int mm), (11, .int (lat z (nI pp) len)), (10, .int (nI pp)), (4, .int (nI aN)), (5, .int s5), (6, .int l6), (7, .int m7), (8, .int o8), (9, .ref g2), (0, .ref xx), (1, .ref ga), (2, .ref aa), (3, .ref ba)] → W p l e ({ frames := 7, cells := 1, slots := 22, locals := 151 }) s m [.ref xx, .ref ga, .ref aa, .ref ba].toArray below meth c H locs 1 22 Q (F0 m 99 ls []) := by
            intro n3
            induction n3 with
            | zero =>
              intro cc zz hi3 hzz hbb hl1 h9 he H locs ls w hl
              refine lv_aload hx hb dL_arePoses_99 (lv_at hl 9 rfl) ?_
              refine lv_iload hx hb dL_arePoses_101 (lv_at hl 3 rfl) ?_
              refine k_ciR (k_runS X w (met_L_goes l D cI cJ cO g2 zz (nI pp)  H.size) gL_arePoses_L_goes rfl rfl rfl 2 hdL_goes ⟨Nat.le_of_ble_eq_true rfl, Nat.le_of_ble_eq_true rfl⟩ [13] rfl rfl rfl hl.1 rfl (Nat.le_of_ble_eq_true rfl) dL_arePoses_103 ⟨Nat.le_of_ble_eq_true rfl, Nat.le_of_ble_eq_true rfl⟩) w hA [13] rfl (fun H locs w => ?_)
              refine lv_if_eq (tgt := 120) hx hb dL_arePoses_106 (by decide) (fun c13 => ?_) (fun c13 => absurd (show bI (goes zz (nI pp)) = 0 by rw [goes_0 (by omega)]; rfl) c13)
              have c13 := bI_f c13
              have hst := untilN_e c13 h9 he
              refine lv_aload_n hx hb dL_arePoses_120 rfl (lv_at hl 10 rfl) ?_
              refine lv_iload hx hb dL_arePoses_121 (lv_at hl 3 rfl) ?_
              refine lv_iconst (v := 0) hx hb dL_arePoses_123 (by decide) ?_
              refine k_ciR (k_runV X w (met_X5_pose l D cI cJ cO xx ak b tr hf sv an w1n wan pan ran san z len pp 0 (by omega) hn hn4 (by decide) H.size) gL_arePoses_X5_pose rfl rfl rfl 2 hdX5_pose ⟨Nat.le_of_ble_eq_true rfl, Nat.le_of_ble_eq_true rfl⟩ [0, 1, 2, 3, 4, 5, 6] rfl rfl 0 5 rfl rfl rfl rfl hl.1 rfl (Nat.le_of_ble_eq_true rfl) dL_arePoses_124 ⟨Nat.le_of_ble_eq_true rfl, Nat.le_of_ble_eq_true rfl⟩) w hA [0, 1, 2, 3, 4, 5, 6] rfl (fun H locs w => ?_)
              refine lv_aload_n hx hb dL_arePoses_127 rfl (lv_at hl 11 rfl) ?_
              refine lv_bipush (v := 16) hx hb dL_arePoses_128 (by decide) ?_
              refine lv_iload hx hb dL_arePoses_130 (lv_at hl 3 rfl) ?_
              refine lv_iadd hx hb dL_arePoses_132 ?_
              refine k_iald X w 10 0 rfl rfl (16 + pp) (kj := 16 + pp) (Nat.zero_add _) (by omega) (by decide) (nI_addp rfl rfl) (v := z (19 + pp)) (gz_w _ _) dL_arePoses_133 ?_
              refine lv_bipush (v := 100) hx hb dL_arePoses_134 (by decide) ?_
              refine lv_iadd hx hb dL_arePoses_136 ?_
              refine lv_icmp_ne (tgt := 286) hx hb dL_arePoses_137 (by decide) (fun c14 => absurd (rfl) c14) (fun c14 => ?_)
              refine lv_aload_n hx hb dL_arePoses_140 rfl (lv_at hl 10 rfl) ?_
              refine lv_iload hx hb dL_arePoses_141 (lv_at hl 3 rfl) ?_
              refine lv_iconst (v := 1) hx hb dL_arePoses_143 (by decide) ?_
              refine k_ciR (k_runV X w (met_X5_pose l D cI cJ cO xx ak b tr hf sv an w1n wan pan ran san z len pp 1 (by omega) hn hn4 (by decide) H.size) gL_arePoses_X5_pose rfl rfl rfl 2 hdX5_pose ⟨Nat.le_of_ble_eq_true rfl, Nat.le_of_ble_eq_true rfl⟩ [0, 1, 2, 3, 4, 5, 6] rfl rfl 0 5 rfl rfl rfl rfl hl.1 rfl (Nat.le_of_ble_eq_true rfl) dL_arePoses_144 ⟨Nat.le_of_ble_eq_true rfl, Nat.le_of_ble_eq_true rfl⟩) w hA [0, 1, 2, 3, 4, 5, 6] rfl (fun H locs w => ?_)
              refine lv_aload_n hx hb dL_arePoses_147 rfl (lv_at hl 11 rfl) ?_
              refine lv_iload hx hb dL_arePoses_148 (lv_at hl 3 rfl) ?_
              refine k_ciR (k_runS X w (met_L_swing l D cI cJ cO ga z (nI pp)  H.size) gL_arePoses_L_swing rfl rfl rfl 2 hdL_swing ⟨Nat.le_of_ble_eq_true rfl, Nat.le_of_ble_eq_true rfl⟩ [10] rfl rfl rfl hl.1 rfl (Nat.le_of_ble_eq_true rfl) dL_arePoses_150 ⟨Nat.le_of_ble_eq_true rfl, Nat.le_of_ble_eq_true rfl⟩) w hA [10] rfl (fun H locs w => ?_)
              refine lv_icmp_ne (tgt := 286) hx hb dL_arePoses_153 (by decide) (fun c15 => absurd (rfl) c15) (fun c15 => ?_)
              refine lv_aload_n hx hb dL_arePoses_156 rfl (lv_at hl 10 rfl) ?_
              refine lv_iload hx hb dL_arePoses_157 (lv_at hl 3 rfl) ?_
              refine lv_iconst (v := 2) hx hb dL_arePoses_159 (by decide) ?_
              refine k_ciR (k_runV X w (met_X5_pose l D cI cJ cO xx ak b tr hf sv an w1n wan pan ran san z len pp 2 (by omega) hn hn4 (by decide) H.size) gL_arePoses_X5_pose rfl rfl rfl 2 hdX5_pose ⟨Nat.le_of_ble_eq_true rfl, Nat.le_of_ble_eq_true rfl⟩ [0, 1, 2, 3, 4, 5, 6] rfl rfl 0 5 rfl rfl rfl rfl hl.1 rfl (Nat.le_of_ble_eq_true rfl) dL_arePoses_160 ⟨Nat.le_of_ble_eq_true rfl, Nat.le_of_ble_eq_true rfl⟩) w hA [0, 1, 2, 3, 4, 5, 6] rfl (fun H locs w => ?_)
              refine lv_aload_n hx hb dL_arePoses_163 rfl (lv_at hl 11 rfl) ?_
              refine lv_iload hx hb dL_arePoses_164 (lv_at hl 3 rfl) ?_
              refine k_ciR (k_runS X w (met_L_rate l D cI cJ cO ga z pp hgd.1 (by omega) H.size) gL_arePoses_L_rate rfl rfl rfl 2 hdL_rate ⟨Nat.le_of_ble_eq_true rfl, Nat.le_of_ble_eq_true rfl⟩ [10] rfl rfl rfl hl.1 rfl (Nat.le_of_ble_eq_true rfl) dL_arePoses_166 ⟨Nat.le_of_ble_eq_true rfl, Nat.le_of_ble_eq_true rfl⟩) w hA [10] rfl (fun H locs w => ?_)
              refine lv_sipush (v := 10000) hx hb dL_arePoses_169 (by decide) ?_
              refine lv_iadd hx hb dL_arePoses_172 ?_
              refine lv_icmp_ne (tgt := 286) hx hb dL_arePoses_173 (by decide) (fun c16 => absurd (rfl) c16) (fun c16 => ?_)
              refine lv_aload_n hx hb dL_arePoses_176 rfl (lv_at hl 10 rfl) ?_
              refine lv_iload hx hb dL_arePoses_177 (lv_at hl 3 rfl) ?_
              refine lv_iconst (v := 3) hx hb dL_arePoses_179 (by decide) ?_
              refine k_ciR (k_runV X w (met_X5_pose l D cI cJ cO xx ak b tr hf sv an w1n wan pan ran san z len pp 3 (by omega) hn hn4 (by decide) H.size) gL_arePoses_X5_pose rfl rfl rfl 2 hdX5_pose ⟨Nat.le_of_ble_eq_true rfl, Nat.le_of_ble_eq_true rfl⟩ [0, 1, 2, 3, 4, 5, 6] rfl rfl 0 5 rfl rfl rfl rfl hl.1 rfl (Nat.le_of_ble_eq_true rfl) dL_arePoses_180 ⟨Nat.le_of_ble_eq_true rfl, Nat.le_of_ble_eq_true rfl⟩) w hA [0, 1, 2, 3, 4, 5, 6] rfl (fun H locs w => ?_)
              refine lv_aload_n hx hb dL_arePoses_183 rfl (lv_at hl 11 rfl) ?_
              refine lv_iload hx hb dL_arePoses_184 (lv_at hl 3 rfl) ?_
              refine k_ciR (k_runS X w (met_L_beat l D cI cJ cO ga z (nI pp)  H.size) gL_arePoses_L_beat rfl rfl rfl 2 hdL_beat ⟨Nat.le_of_ble_eq_true rfl, Nat.le_of_ble_eq_true rfl⟩ [10] rfl rfl rfl hl.1 rfl (Nat.le_of_ble_eq_true rfl) dL_arePoses_186 ⟨Nat.le_of_ble_eq_true rfl, Nat.le_of_ble_eq_true rfl⟩) w hA [10] rfl (fun H locs w => ?_)
              refine lv_icmp_ne (tgt := 286) hx hb dL_arePoses_189 (by decide) (fun c17 => absurd (rfl) c17) (fun c17 => ?_)
              refine lv_aload_n hx hb dL_arePoses_192 rfl (lv_at hl 10 rfl) ?_
              refine lv_iload hx hb dL_arePoses_193 (lv_at hl 3 rfl) ?_
              refine lv_iconst (v := 4) hx hb dL_arePoses_195 (by decide) ?_
              refine k_ciR (k_runV X w (met_X5_pose l D cI cJ cO xx ak b tr hf sv an w1n wan pan ran san z len pp 4 (by omega) hn hn4 (by decide) H.size) gL_arePoses_X5_pose rfl rfl rfl 2 hdX5_pose ⟨Nat.le_of_ble_eq_true rfl, Nat.le_of_ble_eq_true rfl⟩ [0, 1, 2, 3, 4, 5, 6] rfl rfl 0 5 rfl rfl rfl rfl hl.1 rfl (Nat.le_of_ble_eq_true rfl) dL_arePoses_196 ⟨Nat.le_of_ble_eq_true rfl, Nat.le_of_ble_eq_true rfl⟩) w hA [0, 1, 2, 3, 4, 5, 6] rfl (fun H locs w => ?_)
              refine lv_aload_n hx hb dL_arePoses_199 rfl (lv_at hl 11 rfl) ?_
              refine lv_iload hx hb dL_arePoses_200 (lv_at hl 3 rfl) ?_
              refine k_ciR (k_runS X w (met_L_why l D cI cJ cO ga z pp len hgd.1 hn hn4 H.size) gL_arePoses_L_why rfl rfl rfl 2 hdL_why ⟨Nat.le_of_ble_eq_true rfl, Nat.le_of_ble_eq_true rfl⟩ [10] rfl rfl rfl hl.1 rfl (Nat.le_of_ble_eq_true rfl) dL_arePoses_202 ⟨Nat.le_of_ble_eq_true rfl, Nat.le_of_ble_eq_true rfl⟩) w hA [10] rfl (fun H locs w => ?_)
              refine lv_icmp_ne (tgt := 286) hx hb dL_arePoses_205 (by decide) (fun c18 => absurd (rfl) c18) (fun c18 => ?_)
              refine lv_aload_n hx hb dL_arePoses_208 rfl (lv_at hl 10 rfl) ?_
              refine lv_iload hx hb dL_arePoses_209 (lv_at hl 3 rfl) ?_
              refine lv_iconst (v := 5) hx hb dL_arePoses_211 (by decide) ?_
              refine k_ciR (k_runV X w (met_X5_pose l D cI cJ cO xx ak b tr hf sv an w1n wan pan ran san z len pp 5 (by omega) hn hn4 (by decide) H.size) gL_arePoses_X5_pose rfl rfl rfl 2 hdX5_pose ⟨Nat.le_of_ble_eq_true rfl, Nat.le_of_ble_eq_true rfl⟩ [0, 1, 2, 3, 4, 5, 6] rfl rfl 0 5 rfl rfl rfl rfl hl.1 rfl (Nat.le_of_ble_eq_true rfl) dL_arePoses_212 ⟨Nat.le_of_ble_eq_true rfl, Nat.le_of_ble_eq_true rfl⟩) w hA [0, 1, 2, 3, 4, 5, 6] rfl (fun H locs w => ?_)
              refine lv_iload hx hb dL_arePoses_215 (lv_at hl 2 rfl) ?_
              refine lv_if_ge (tgt := 224) hx hb dL_arePoses_217 (by decide) (fun c19 => ?_) (fun c19 => ?_)
              · have cl := lat_ge c19
                obtain ⟨ej, hj, hj2⟩ := lat_j cl
                rw [ej] at hl
                refine lv_aload_n hx hb dL_arePoses_224 rfl (lv_at hl 12 rfl) ?_
                refine lv_iload hx hb dL_arePoses_225 (lv_at hl 2 rfl) ?_
                refine k_iald X w 11 0 rfl rfl (latj z (nI pp) len) (kj := latj z (nI pp) len) (Nat.zero_add _) (by omega) (by decide) rfl (v := pA z (latj z (nI pp) len)) rfl dL_arePoses_227 ?_
                refine lv_bipush (v := 100) hx hb dL_arePoses_228 (by decide) ?_
                refine lv_idiv hx hb dL_arePoses_230 (by decide) ?_
                refine lv_icmp_ne (tgt := 286) hx hb dL_arePoses_231 (by decide) (fun c20 => absurd ((if_neg cl).trans (hpp _ hj).1.symm) c20) (fun c20 => ?_)
                refine lv_aload_n hx hb dL_arePoses_234 rfl (lv_at hl 10 rfl) ?_
                refine lv_iload hx hb dL_arePoses_235 (lv_at hl 3 rfl) ?_
                refine lv_bipush (v := 6) hx hb dL_arePoses_237 (by decide) ?_
                refine k_ciR (k_runV X w (met_X5_pose l D cI cJ cO xx ak b tr hf sv an w1n wan pan ran san z len pp 6 (by omega) hn hn4 (by decide) H.size) gL_arePoses_X5_pose rfl rfl rfl 2 hdX5_pose ⟨Nat.le_of_ble_eq_true rfl, Nat.le_of_ble_eq_true rfl⟩ [0, 1, 2, 3, 4, 5, 6] rfl rfl 0 5 rfl rfl rfl rfl hl.1 rfl (Nat.le_of_ble_eq_true rfl) dL_arePoses_239 ⟨Nat.le_of_ble_eq_true rfl, Nat.le_of_ble_eq_true rfl⟩) w hA [0, 1, 2, 3, 4, 5, 6] rfl (fun H locs w => ?_)
                refine lv_iload hx hb dL_arePoses_242 (lv_at hl 2 rfl) ?_
                refine lv_if_ge (tgt := 251) hx hb dL_arePoses_244 (by decide) (fun c21 => ?_) (fun c21 => absurd (nI_pos' (by omega)) c21)
                refine lv_aload_n hx hb dL_arePoses_251 rfl (lv_at hl 13 rfl) ?_
                refine lv_iload hx hb dL_arePoses_252 (lv_at hl 2 rfl) ?_
                refine k_iald X w 12 0 rfl rfl (latj z (nI pp) len) (kj := latj z (nI pp) len) (Nat.zero_add _) (by omega) (by decide) rfl (v := pB z (latj z (nI pp) len)) rfl dL_arePoses_254 ?_
                refine lv_sipush (v := 10000) hx hb dL_arePoses_255 (by decide) ?_
                refine lv_iadd hx hb dL_arePoses_258 ?_
                refine lv_icmp_ne (tgt := 286) hx hb dL_arePoses_259 (by decide) (fun c22 => absurd (if_neg cl) c22) (fun c22 => ?_)
                refine lv_aload_n hx hb dL_arePoses_262 rfl (lv_at hl 10 rfl) ?_
                refine lv_iload hx hb dL_arePoses_263 (lv_at hl 3 rfl) ?_
                refine lv_bipush (v := 7) hx hb dL_arePoses_265 (by decide) ?_
                refine k_ciR (k_runV X w (met_X5_pose l D cI cJ cO xx ak b tr hf sv an w1n wan pan ran san z len pp 7 (by omega) hn hn4 (by decide) H.size) gL_arePoses_X5_pose rfl rfl rfl 2 hdX5_pose ⟨Nat.le_of_ble_eq_true rfl, Nat.le_of_ble_eq_true rfl⟩ [0, 1, 2, 3, 4, 5, 6] rfl rfl 0 5 rfl rfl rfl rfl hl.1 rfl (Nat.le_of_ble_eq_true rfl) dL_arePoses_267 ⟨Nat.le_of_ble_eq_true rfl, Nat.le_of_ble_eq_true rfl⟩) w hA [0, 1, 2, 3, 4, 5, 6] rfl (fun H locs w => ?_)
                refine lv_iload hx hb dL_arePoses_270 (lv_at hl 1 rfl) ?_
                refine lv_icmp_ne (tgt := 286) hx hb dL_arePoses_272 (by decide) (fun c23 => absurd ((by rw [hmm, show i = len by omega]; rfl)) c23) (fun c23 => ?_)
                refine lv_aload_n hx hb dL_arePoses_275 rfl (lv_at hl 10 rfl) ?_
                refine lv_iload hx hb dL_arePoses_276 (lv_at hl 3 rfl) ?_
                refine k_ci (wr := [oV sv rr y, aI cI ga 22 0 (gz z), aI cI aa 40 0 (pA z), aI cI ba 40 0 (pB z), aI cI g2 22 0 (gz zz)]) (ws2 := [oX xx an ak sv b tr hf, oS an w1n pan san z, aI cI san 4 12 z, oW w1n wan z, aI cI wan 6 19 z, oP pan ran z, aI cI ran 200 25 z, oV sv rr y, oW tr twa (utr z pp), aI cI twa 6 19 (utr z pp), aI cI ga 22 0 (gz z), aI cI aa 40 0 (pA z), aI cI ba 40 0 (pB z), aI cI g2 22 0 (gz zz)]) (k_runV X w (met_X5_stopsIn l D cI cJ cO xx ak b tr hf sv an w1n wan pan ran san z twa (utrs z zt pp) pp (by omega) H.size) gL_arePoses_X5_stopsIn rfl rfl rfl 1 hdX5_stopsIn ⟨Nat.le_of_ble_eq_true rfl, Nat.le_of_ble_eq_true rfl⟩ [0, 1, 2, 3, 4, 5, 6, 8, 9] rfl rfl 0 5 rfl rfl rfl rfl hl.1 rfl (Nat.le_of_ble_eq_true rfl) dL_arePoses_278 ⟨Nat.le_of_ble_eq_true rfl, Nat.le_of_ble_eq_true rfl⟩) w hA [0, 1, 2, 3, 4, 5, 6, 8, 9] [7, 10, 11, 12, 13] rfl rfl rfl (by decide) [5, 6, 7, 8, 9, 10, 11, 0, 12, 13, 1, 2, 3, 4] rfl rfl (fun H locs w => ?_)
                refine lv_iload hx hb dL_arePoses_281 (lv_at hl 0 rfl) ?_
                refine lv_icmp_eq (tgt := 288) hx hb dL_arePoses_283 (by decide) (fun c24 => ?_) (fun c24 => absurd (hst.symm) c24)
                refine lv_iload hx hb dL_arePoses_288 (lv_at hl 2 rfl) ?_
                refine lv_if_ge (tgt := 296) hx hb dL_arePoses_290 (by decide) (fun c25 => ?_) (fun c25 => absurd (nI_pos' (by omega)) c25)
                refine lv_iload hx hb dL_arePoses_296 (lv_at hl 4 rfl) ?_
                have K : ∀ y27 : Int32, y27 = apL z len (pp + 1) → W p l e ({ frames := 7, cells := 1, slots := 22, locals := 151 }) s m [.ref xx, .ref ga, .ref aa, .ref ba].toArray below meth c H locs 1 22 Q (F0 m 319 ls [.int y27]) := by
                  intro y27 ey27
                  refine lv_istore (lv' := [(6, .int y27), (13, .int (nI cc)), (12, .int mm), (11, .int (nI (latj z (nI pp) len))), (10, .int (nI pp)), (4, .int (nI aN)), (5, .int s5), (7, .int m7), (8, .int o8), (9, .ref g2), (0, .ref xx), (1, .ref ga), (2, .ref aa), (3, .ref ba)]) hx hb dL_arePoses_319 hl (by decide) rfl (fun ls hl => ?_)
                  refine lv_iload hx hb dL_arePoses_321 (lv_at hl 5 rfl) ?_
                  have K : ∀ y29 : Int32, y29 = apM z len (pp + 1) → W p l e ({ frames := 7, cells := 1, slots := 22, locals := 151 }) s m [.ref xx, .ref ga, .ref aa, .ref ba].toArray below meth c H locs 1 22 Q (F0 m 344 ls [.int y29]) := by
                    intro y29 ey29
                    refine lv_istore (lv' := [(7, .int y29), (6, .int y27), (13, .int (nI cc)), (12, .int mm), (11, .int (nI (latj z (nI pp) len))), (10, .int (nI pp)), (4, .int (nI aN)), (5, .int s5), (8, .int o8), (9, .ref g2), (0, .ref xx), (1, .ref ga), (2, .ref aa), (3, .ref ba)]) hx hb dL_arePoses_344 hl (by decide) rfl (fun ls hl => ?_)
                    refine lv_iload hx hb dL_arePoses_346 (lv_at hl 7 rfl) ?_
                    refine lv_aload_n hx hb dL_arePoses_348 rfl (lv_at hl 13 rfl) ?_
                    refine lv_iload hx hb dL_arePoses_349 (lv_at hl 4 rfl) ?_
                    refine k_iald X w 12 0 rfl rfl (latj z (nI pp) len) (kj := latj z (nI pp) len) (Nat.zero_add _) (by omega) (by decide) rfl (v := pB z (latj z (nI pp) len)) rfl dL_arePoses_351 ?_
                    refine lv_iadd hx hb dL_arePoses_352 ?_
                    refine lv_istore (lv' := [(5, .int (s5 + (pB z (latj z (nI pp) len)))), (7, .int y29), (6, .int y27), (13, .int (nI cc)), (12, .int mm), (11, .int (nI (latj z (nI pp) len))), (10, .int (nI pp)), (4, .int (nI aN)), (8, .int o8), (9, .ref g2), (0, .ref xx), (1, .ref ga), (2, .ref aa), (3, .ref ba)]) hx hb dL_arePoses_353 hl (by decide) rfl (fun ls hl => ?_)
                    refine lv_iload hx hb dL_arePoses_355 (lv_at hl 8 rfl) ?_
                    have K : ∀ y31 : Int32, y31 = apO z len (pp + 1) → W p l e ({ frames := 7, cells := 1, slots := 22, locals := 151 }) s m [.ref xx, .ref ga, .ref aa, .ref ba].toArray below meth c H locs 1 22 Q (F0 m 383 ls [.int y31]) := by
                      intro y31 ey31
                      refine lv_istore (lv' := [(8, .int y31), (5, .int (s5 + (pB z (latj z (nI pp) len)))), (7, .int y29), (6, .int y27), (13, .int (nI cc)), (12, .int mm), (11, .int (nI (latj z (nI pp) len))), (10, .int (nI pp)), (4, .int (nI aN)), (9, .ref g2), (0, .ref xx), (1, .ref ga), (2, .ref aa), (3, .ref ba)]) hx hb dL_arePoses_383 hl (by decide) rfl (fun ls hl => ?_)
                      refine lv_iinc (v := nI (aN + 1)) (lv' := [(4, .int (nI (aN + 1))), (8, .int y31), (5, .int (s5 + (pB z (latj z (nI pp) len)))), (7, .int y29), (6, .int y27), (13, .int (nI cc)), (12, .int mm), (11, .int (nI (latj z (nI pp) len))), (10, .int (nI pp)), (9, .ref g2), (0, .ref xx), (1, .ref ga), (2, .ref aa), (3, .ref ba)]) hx hb dL_arePoses_385 hl (k := 8) rfl (nI_1 _) (by decide) rfl (fun ls hl => ?_)
                      refine lv_iinc (v := nI (pp + 1)) (lv' := [(10, .int (nI (pp + 1))), (4, .int (nI (aN + 1))), (8, .int y31), (5, .int (s5 + (pB z (latj z (nI pp) len)))), (7, .int y29), (6, .int y27), (13, .int (nI cc)), (12, .int mm), (11, .int (nI (latj z (nI pp) len))), (9, .ref g2), (0, .ref xx), (1, .ref ga), (2, .ref aa), (3, .ref ba)]) hx hb dL_arePoses_388 hl (k := 8) rfl (nI_1 _) (by decide) rfl (fun ls hl => ?_)
                      refine lv_goto (tgt := 24) hx hb dL_arePoses_391 (by decide) ?_
                      have w := w.to (show [oX xx an ak sv b tr hf, oS an w1n pan san z, aI cI san 4 12 z, oW w1n wan z, aI cI wan 6 19 z, oP pan ran z, aI cI ran 200 25 z, oV sv rr y, oW tr twa (utr z pp), aI cI twa 6 19 (utr z pp), aI cI ga 22 0 (gz z), aI cI aa 40 0 (pA z), aI cI ba 40 0 (pB z), aI cI g2 22 0 (gz zz)] = [oX xx an ak sv b tr hf, oS an w1n pan san z, aI cI san 4 12 z, oW w1n wan z, aI cI wan 6 19 z, oP pan ran z, aI cI ran 200 25 z, oV sv rr y, oW tr twa (utrs z zt (pp + 1)), aI cI twa 6 19 (utrs z zt (pp + 1)), aI cI ga 22 0 (gz z), aI cI aa 40 0 (pA z), aI cI ba 40 0 (pB z), aI cI g2 22 0 (gz zz)] by rw [show oW tr twa (utr z pp) = oW tr twa (utrs z zt (pp + 1)) from rfl, show aI cI twa 6 19 (utr z pp) = aI cI twa 6 19 (utrs z zt (pp + 1)) from rfl])
                      exact ih (pp + 1) (aN + 1) (s5 + (pB z (latj z (nI pp) len))) y27 y29 y31 (gz zz) (by omega) (apN_y cl ha) (apS_y cl hs5) ey27 ey29 ey31 _ _ _ w (lv_sub hl [0, 1, 3, 5, 4, 2, 9, 10, 11, 12, 13] rfl)
                    refine lv_if_ne (tgt := 378) hx hb dL_arePoses_357 (by decide) (fun c30 => ?_) (fun c30 => ?_)
                    · refine lv_iconst (v := 1) hx hb dL_arePoses_378 (by decide) ?_
                      refine lv_goto (tgt := 383) hx hb dL_arePoses_379 (by decide) ?_
                      exact K _ (apO_1 cl ho8 c30)
                    · refine lv_aload_n hx hb dL_arePoses_360 rfl (lv_at hl 11 rfl) ?_
                      refine lv_iconst (v := 0) hx hb dL_arePoses_361 (by decide) ?_
                      refine k_iald X w 10 0 rfl rfl 0 (kj := 0) rfl (by decide) (by decide) rfl (v := z 0) (gz_o _ 0 (by decide)) dL_arePoses_362 ?_
                      refine lv_aload_n hx hb dL_arePoses_363 rfl (lv_at hl 12 rfl) ?_
                      refine lv_iload hx hb dL_arePoses_364 (lv_at hl 5 rfl) ?_
                      refine k_iald X w 11 0 rfl rfl (latj z (nI pp) len) (kj := latj z (nI pp) len) (Nat.zero_add _) (by omega) (by decide) rfl (v := pA z (latj z (nI pp) len)) rfl dL_arePoses_366 ?_
                      refine lv_bipush (v := 100) hx hb dL_arePoses_367 (by decide) ?_
                      refine lv_idiv hx hb dL_arePoses_369 (by decide) ?_
                      refine lv_aload_n hx hb dL_arePoses_370 rfl (lv_at hl 11 rfl) ?_
                      refine lv_bipush (v := 14) hx hb dL_arePoses_371 (by decide) ?_
                      refine k_iald X w 10 0 rfl rfl 14 (kj := 14) rfl (by decide) (by decide) rfl (v := z 14) (gz_o _ 14 (by decide)) dL_arePoses_373 ?_
                      refine lv_iadd hx hb dL_arePoses_374 ?_
                      refine lv_icmp_le (tgt := 382) hx hb dL_arePoses_375 (by decide) (fun c32 => ?_) (fun c32 => ?_)
                      · refine lv_iconst (v := 0) hx hb dL_arePoses_382 (by decide) ?_
                        exact K _ (apO_0 cl ho8 c30 (hpp _ hj).1 c32)
                      · refine lv_iconst (v := 1) hx hb dL_arePoses_378 (by decide) ?_
                        refine lv_goto (tgt := 383) hx hb dL_arePoses_379 (by decide) ?_
                        exact K _ (apO_2 cl ho8 c30 (hpp _ hj).1 c32)
                  refine lv_if_eq (tgt := 335) hx hb dL_arePoses_323 (by decide) (fun c28 => ?_) (fun c28 => ?_)
                  · refine lv_aload_n hx hb dL_arePoses_335 rfl (lv_at hl 13 rfl) ?_
                    refine lv_iload hx hb dL_arePoses_336 (lv_at hl 3 rfl) ?_
                    refine k_iald X w 12 0 rfl rfl (latj z (nI pp) len) (kj := latj z (nI pp) len) (Nat.zero_add _) (by omega) (by decide) rfl (v := pB z (latj z (nI pp) len)) rfl dL_arePoses_338 ?_
                    refine lv_goto (tgt := 344) hx hb dL_arePoses_339 (by decide) ?_
                    exact K _ (apM_0 (by omega) cl ha c28)
                  · refine lv_aload_n hx hb dL_arePoses_326 rfl (lv_at hl 13 rfl) ?_
                    refine lv_iload hx hb dL_arePoses_327 (lv_at hl 3 rfl) ?_
                    refine k_iald X w 12 0 rfl rfl (latj z (nI pp) len) (kj := latj z (nI pp) len) (Nat.zero_add _) (by omega) (by decide) rfl (v := pB z (latj z (nI pp) len)) rfl dL_arePoses_329 ?_
                    refine lv_iload hx hb dL_arePoses_330 (lv_at hl 7 rfl) ?_
                    refine lv_icmp_le (tgt := 342) hx hb dL_arePoses_332 (by decide) (fun c33 => ?_) (fun c33 => ?_)
                    · refine lv_iload hx hb dL_arePoses_342 (lv_at hl 7 rfl) ?_
                      exact K _ (apM_k cl ha hm7 c28 c33)
                    · refine lv_aload_n hx hb dL_arePoses_335 rfl (lv_at hl 13 rfl) ?_
                      refine lv_iload hx hb dL_arePoses_336 (lv_at hl 3 rfl) ?_
                      refine k_iald X w 12 0 rfl rfl (latj z (nI pp) len) (kj := latj z (nI pp) len) (Nat.zero_add _) (by omega) (by decide) rfl (v := pB z (latj z (nI pp) len)) rfl dL_arePoses_338 ?_
                      refine lv_goto (tgt := 344) hx hb dL_arePoses_339 (by decide) ?_
                      exact K _ (apM_t cl ha hm7 c28 c33)
                refine lv_if_eq (tgt := 310) hx hb dL_arePoses_298 (by decide) (fun c26 => ?_) (fun c26 => ?_)
                · refine lv_aload_n hx hb dL_arePoses_310 rfl (lv_at hl 13 rfl) ?_
                  refine lv_iload hx hb dL_arePoses_311 (lv_at hl 2 rfl) ?_
                  refine k_iald X w 12 0 rfl rfl (latj z (nI pp) len) (kj := latj z (nI pp) len) (Nat.zero_add _) (by omega) (by decide) rfl (v := pB z (latj z (nI pp) len)) rfl dL_arePoses_313 ?_
                  refine lv_goto (tgt := 319) hx hb dL_arePoses_314 (by decide) ?_
                  exact K _ (apL_0 (by omega) cl ha c26)
                · refine lv_aload_n hx hb dL_arePoses_301 rfl (lv_at hl 13 rfl) ?_
                  refine lv_iload hx hb dL_arePoses_302 (lv_at hl 2 rfl) ?_
                  refine k_iald X w 12 0 rfl rfl (latj z (nI pp) len) (kj := latj z (nI pp) len) (Nat.zero_add _) (by omega) (by decide) rfl (v := pB z (latj z (nI pp) len)) rfl dL_arePoses_304 ?_
                  refine lv_iload hx hb dL_arePoses_305 (lv_at hl 6 rfl) ?_
                  refine lv_icmp_ge (tgt := 317) hx hb dL_arePoses_307 (by decide) (fun c34 => ?_) (fun c34 => ?_)
                  · refine lv_iload hx hb dL_arePoses_317 (lv_at hl 6 rfl) ?_
                    exact K _ (apL_k cl ha hl6 c26 c34)
                  · refine lv_aload_n hx hb dL_arePoses_310 rfl (lv_at hl 13 rfl) ?_
                    refine lv_iload hx hb dL_arePoses_311 (lv_at hl 2 rfl) ?_
                    refine k_iald X w 12 0 rfl rfl (latj z (nI pp) len) (kj := latj z (nI pp) len) (Nat.zero_add _) (by omega) (by decide) rfl (v := pB z (latj z (nI pp) len)) rfl dL_arePoses_313 ?_
                    refine lv_goto (tgt := 319) hx hb dL_arePoses_314 (by decide) ?_
                    exact K _ (apL_t cl ha hl6 c26 c34)
              · have cl := lat_lt hn4 c19
                rw [cl] at hl
                refine lv_iconst (v := (-1)) hx hb dL_arePoses_220 (by decide) ?_
                refine lv_goto (tgt := 231) hx hb dL_arePoses_221 (by decide) ?_
                refine lv_icmp_ne (tgt := 286) hx hb dL_arePoses_231 (by decide) (fun c35 => absurd (if_pos cl) c35) (fun c35 => ?_)
                refine lv_aload_n hx hb dL_arePoses_234 rfl (lv_at hl 10 rfl) ?_
                refine lv_iload hx hb dL_arePoses_235 (lv_at hl 3 rfl) ?_
                refine lv_bipush (v := 6) hx hb dL_arePoses_237 (by decide) ?_
                refine k_ciR (k_runV X w (met_X5_pose l D cI cJ cO xx ak b tr hf sv an w1n wan pan ran san z len pp 6 (by omega) hn hn4 (by decide) H.size) gL_arePoses_X5_pose rfl rfl rfl 2 hdX5_pose ⟨Nat.le_of_ble_eq_true rfl, Nat.le_of_ble_eq_true rfl⟩ [0, 1, 2, 3, 4, 5, 6] rfl rfl 0 5 rfl rfl rfl rfl hl.1 rfl (Nat.le_of_ble_eq_true rfl) dL_arePoses_239 ⟨Nat.le_of_ble_eq_true rfl, Nat.le_of_ble_eq_true rfl⟩) w hA [0, 1, 2, 3, 4, 5, 6] rfl (fun H locs w => ?_)
                refine lv_iload hx hb dL_arePoses_242 (lv_at hl 2 rfl) ?_
                refine lv_if_ge (tgt := 251) hx hb dL_arePoses_244 (by decide) (fun c36 => absurd c36 (by decide)) (fun c36 => ?_)
                refine lv_iconst (v := (-1)) hx hb dL_arePoses_247 (by decide) ?_
                refine lv_goto (tgt := 259) hx hb dL_arePoses_248 (by decide) ?_
                refine lv_icmp_ne (tgt := 286) hx hb dL_arePoses_259 (by decide) (fun c37 => absurd (if_pos cl) c37) (fun c37 => ?_)
                refine lv_aload_n hx hb dL_arePoses_262 rfl (lv_at hl 10 rfl) ?_
                refine lv_iload hx hb dL_arePoses_263 (lv_at hl 3 rfl) ?_
                refine lv_bipush (v := 7) hx hb dL_arePoses_265 (by decide) ?_
                refine k_ciR (k_runV X w (met_X5_pose l D cI cJ cO xx ak b tr hf sv an w1n wan pan ran san z len pp 7 (by omega) hn hn4 (by decide) H.size) gL_arePoses_X5_pose rfl rfl rfl 2 hdX5_pose ⟨Nat.le_of_ble_eq_true rfl, Nat.le_of_ble_eq_true rfl⟩ [0, 1, 2, 3, 4, 5, 6] rfl rfl 0 5 rfl rfl rfl rfl hl.1 rfl (Nat.le_of_ble_eq_true rfl) dL_arePoses_267 ⟨Nat.le_of_ble_eq_true rfl, Nat.le_of_ble_eq_true rfl⟩) w hA [0, 1, 2, 3, 4, 5, 6] rfl (fun H locs w => ?_)
                refine lv_iload hx hb dL_arePoses_270 (lv_at hl 1 rfl) ?_
                refine lv_icmp_ne (tgt := 286) hx hb dL_arePoses_272 (by decide) (fun c38 => absurd ((by rw [hmm, show i = len by omega]; rfl)) c38) (fun c38 => ?_)
                refine lv_aload_n hx hb dL_arePoses_275 rfl (lv_at hl 10 rfl) ?_
                refine lv_iload hx hb dL_arePoses_276 (lv_at hl 3 rfl) ?_
                refine k_ci (wr := [oV sv rr y, aI cI ga 22 0 (gz z), aI cI aa 40 0 (pA z), aI cI ba 40 0 (pB z), aI cI g2 22 0 (gz zz)]) (ws2 := [oX xx an ak sv b tr hf, oS an w1n pan san z, aI cI san 4 12 z, oW w1n wan z, aI cI wan 6 19 z, oP pan ran z, aI cI ran 200 25 z, oV sv rr y, oW tr twa (utr z pp), aI cI twa 6 19 (utr z pp), aI cI ga 22 0 (gz z), aI cI aa 40 0 (pA z), aI cI ba 40 0 (pB z), aI cI g2 22 0 (gz zz)]) (k_runV X w (met_X5_stopsIn l D cI cJ cO xx ak b tr hf sv an w1n wan pan ran san z twa (utrs z zt pp) pp (by omega) H.size) gL_arePoses_X5_stopsIn rfl rfl rfl 1 hdX5_stopsIn ⟨Nat.le_of_ble_eq_true rfl, Nat.le_of_ble_eq_true rfl⟩ [0, 1, 2, 3, 4, 5, 6, 8, 9] rfl rfl 0 5 rfl rfl rfl rfl hl.1 rfl (Nat.le_of_ble_eq_true rfl) dL_arePoses_278 ⟨Nat.le_of_ble_eq_true rfl, Nat.le_of_ble_eq_true rfl⟩) w hA [0, 1, 2, 3, 4, 5, 6, 8, 9] [7, 10, 11, 12, 13] rfl rfl rfl (by decide) [5, 6, 7, 8, 9, 10, 11, 0, 12, 13, 1, 2, 3, 4] rfl rfl (fun H locs w => ?_)
                refine lv_iload hx hb dL_arePoses_281 (lv_at hl 0 rfl) ?_
                refine lv_icmp_eq (tgt := 288) hx hb dL_arePoses_283 (by decide) (fun c39 => ?_) (fun c39 => absurd (hst.symm) c39)
                refine lv_iload hx hb dL_arePoses_288 (lv_at hl 2 rfl) ?_
                refine lv_if_ge (tgt := 296) hx hb dL_arePoses_290 (by decide) (fun c40 => absurd c40 (by decide)) (fun c40 => ?_)
                refine lv_goto (tgt := 388) hx hb dL_arePoses_293 (by decide) ?_
                refine lv_iinc (v := nI (pp + 1)) (lv' := [(10, .int (nI (pp + 1))), (13, .int (nI cc)), (12, .int mm), (11, .int (-1)), (4, .int (nI aN)), (5, .int s5), (6, .int l6), (7, .int m7), (8, .int o8), (9, .ref g2), (0, .ref xx), (1, .ref ga), (2, .ref aa), (3, .ref ba)]) hx hb dL_arePoses_388 hl (k := 3) rfl (nI_1 _) (by decide) rfl (fun ls hl => ?_)
                refine lv_goto (tgt := 24) hx hb dL_arePoses_391 (by decide) ?_
                have w := w.to (show [oX xx an ak sv b tr hf, oS an w1n pan san z, aI cI san 4 12 z, oW w1n wan z, aI cI wan 6 19 z, oP pan ran z, aI cI ran 200 25 z, oV sv rr y, oW tr twa (utr z pp), aI cI twa 6 19 (utr z pp), aI cI ga 22 0 (gz z), aI cI aa 40 0 (pA z), aI cI ba 40 0 (pB z), aI cI g2 22 0 (gz zz)] = [oX xx an ak sv b tr hf, oS an w1n pan san z, aI cI san 4 12 z, oW w1n wan z, aI cI wan 6 19 z, oP pan ran z, aI cI ran 200 25 z, oV sv rr y, oW tr twa (utrs z zt (pp + 1)), aI cI twa 6 19 (utrs z zt (pp + 1)), aI cI ga 22 0 (gz z), aI cI aa 40 0 (pA z), aI cI ba 40 0 (pB z), aI cI g2 22 0 (gz zz)] by rw [show oW tr twa (utr z pp) = oW tr twa (utrs z zt (pp + 1)) from rfl, show aI cI twa 6 19 (utr z pp) = aI cI twa 6 19 (utrs z zt (pp + 1)) from rfl])
                exact ih (pp + 1) aN s5 l6 m7 o8 (gz zz) (by omega) (ha.trans (ap_no cl).1.symm) (hs5.trans (ap_no cl).2.1.symm) (hl6.trans (ap_no cl).2.2.1.symm) (hm7.trans (ap_no cl).2.2.2.1.symm) (ho8.trans (ap_no cl).2.2.2.2.symm) _ _ _ w (lv_sub hl [0, 4, 5, 6, 7, 8, 9, 10, 11, 12, 13] rfl)
            | succ n3 ih3 =>
              intro cc zz hi3 hzz hbb hl1 h9 he H locs ls w hl
              refine lv_aload hx hb dL_arePoses_99 (lv_at hl 9 rfl) ?_
              refine lv_iload hx hb dL_arePoses_101 (lv_at hl 3 rfl) ?_
              refine k_ciR (k_runS X w (met_L_goes l D cI cJ cO g2 zz (nI pp)  H.size) gL_arePoses_L_goes rfl rfl rfl 2 hdL_goes ⟨Nat.le_of_ble_eq_true rfl, Nat.le_of_ble_eq_true rfl⟩ [13] rfl rfl rfl hl.1 rfl (Nat.le_of_ble_eq_true rfl) dL_arePoses_103 ⟨Nat.le_of_ble_eq_true rfl, Nat.le_of_ble_eq_true rfl⟩) w hA [13] rfl (fun H locs w => ?_)
              refine lv_if_eq (tgt := 120) hx hb dL_arePoses_106 (by decide) (fun c41 => ?_) (fun c41 => ?_)
              · have c41 := bI_f c41
                have hst := untilN_e c41 h9 he
                refine lv_aload_n hx hb dL_arePoses_120 rfl (lv_at hl 10 rfl) ?_
                refine lv_iload hx hb dL_arePoses_121 (lv_at hl 3 rfl) ?_
                refine lv_iconst (v := 0) hx hb dL_arePoses_123 (by decide) ?_
                refine k_ciR (k_runV X w (met_X5_pose l D cI cJ cO xx ak b tr hf sv an w1n wan pan ran san z len pp 0 (by omega) hn hn4 (by decide) H.size) gL_arePoses_X5_pose rfl rfl rfl 2 hdX5_pose ⟨Nat.le_of_ble_eq_true rfl, Nat.le_of_ble_eq_true rfl⟩ [0, 1, 2, 3, 4, 5, 6] rfl rfl 0 5 rfl rfl rfl rfl hl.1 rfl (Nat.le_of_ble_eq_true rfl) dL_arePoses_124 ⟨Nat.le_of_ble_eq_true rfl, Nat.le_of_ble_eq_true rfl⟩) w hA [0, 1, 2, 3, 4, 5, 6] rfl (fun H locs w => ?_)
                refine lv_aload_n hx hb dL_arePoses_127 rfl (lv_at hl 11 rfl) ?_
                refine lv_bipush (v := 16) hx hb dL_arePoses_128 (by decide) ?_
                refine lv_iload hx hb dL_arePoses_130 (lv_at hl 3 rfl) ?_
                refine lv_iadd hx hb dL_arePoses_132 ?_
                refine k_iald X w 10 0 rfl rfl (16 + pp) (kj := 16 + pp) (Nat.zero_add _) (by omega) (by decide) (nI_addp rfl rfl) (v := z (19 + pp)) (gz_w _ _) dL_arePoses_133 ?_
                refine lv_bipush (v := 100) hx hb dL_arePoses_134 (by decide) ?_
                refine lv_iadd hx hb dL_arePoses_136 ?_
                refine lv_icmp_ne (tgt := 286) hx hb dL_arePoses_137 (by decide) (fun c42 => absurd (rfl) c42) (fun c42 => ?_)
                refine lv_aload_n hx hb dL_arePoses_140 rfl (lv_at hl 10 rfl) ?_
                refine lv_iload hx hb dL_arePoses_141 (lv_at hl 3 rfl) ?_
                refine lv_iconst (v := 1) hx hb dL_arePoses_143 (by decide) ?_
                refine k_ciR (k_runV X w (met_X5_pose l D cI cJ cO xx ak b tr hf sv an w1n wan pan ran san z len pp 1 (by omega) hn hn4 (by decide) H.size) gL_arePoses_X5_pose rfl rfl rfl 2 hdX5_pose ⟨Nat.le_of_ble_eq_true rfl, Nat.le_of_ble_eq_true rfl⟩ [0, 1, 2, 3, 4, 5, 6] rfl rfl 0 5 rfl rfl rfl rfl hl.1 rfl (Nat.le_of_ble_eq_true rfl) dL_arePoses_144 ⟨Nat.le_of_ble_eq_true rfl, Nat.le_of_ble_eq_true rfl⟩) w hA [0, 1, 2, 3, 4, 5, 6] rfl (fun H locs w => ?_)
                refine lv_aload_n hx hb dL_arePoses_147 rfl (lv_at hl 11 rfl) ?_
                refine lv_iload hx hb dL_arePoses_148 (lv_at hl 3 rfl) ?_
                refine k_ciR (k_runS X w (met_L_swing l D cI cJ cO ga z (nI pp)  H.size) gL_arePoses_L_swing rfl rfl rfl 2 hdL_swing ⟨Nat.le_of_ble_eq_true rfl, Nat.le_of_ble_eq_true rfl⟩ [10] rfl rfl rfl hl.1 rfl (Nat.le_of_ble_eq_true rfl) dL_arePoses_150 ⟨Nat.le_of_ble_eq_true rfl, Nat.le_of_ble_eq_true rfl⟩) w hA [10] rfl (fun H locs w => ?_)
                refine lv_icmp_ne (tgt := 286) hx hb dL_arePoses_153 (by decide) (fun c43 => absurd (rfl) c43) (fun c43 => ?_)
                refine lv_aload_n hx hb dL_arePoses_156 rfl (lv_at hl 10 rfl) ?_
                refine lv_iload hx hb dL_arePoses_157 (lv_at hl 3 rfl) ?_
                refine lv_iconst (v := 2) hx hb dL_arePoses_159 (by decide) ?_
                refine k_ciR (k_runV X w (met_X5_pose l D cI cJ cO xx ak b tr hf sv an w1n wan pan ran san z len pp 2 (by omega) hn hn4 (by decide) H.size) gL_arePoses_X5_pose rfl rfl rfl 2 hdX5_pose ⟨Nat.le_of_ble_eq_true rfl, Nat.le_of_ble_eq_true rfl⟩ [0, 1, 2, 3, 4, 5, 6] rfl rfl 0 5 rfl rfl rfl rfl hl.1 rfl (Nat.le_of_ble_eq_true rfl) dL_arePoses_160 ⟨Nat.le_of_ble_eq_true rfl, Nat.le_of_ble_eq_true rfl⟩) w hA [0, 1, 2, 3, 4, 5, 6] rfl (fun H locs w => ?_)
                refine lv_aload_n hx hb dL_arePoses_163 rfl (lv_at hl 11 rfl) ?_
                refine lv_iload hx hb dL_arePoses_164 (lv_at hl 3 rfl) ?_
                refine k_ciR (k_runS X w (met_L_rate l D cI cJ cO ga z pp hgd.1 (by omega) H.size) gL_arePoses_L_rate rfl rfl rfl 2 hdL_rate ⟨Nat.le_of_ble_eq_true rfl, Nat.le_of_ble_eq_true rfl⟩ [10] rfl rfl rfl hl.1 rfl (Nat.le_of_ble_eq_true rfl) dL_arePoses_166 ⟨Nat.le_of_ble_eq_true rfl, Nat.le_of_ble_eq_true rfl⟩) w hA [10] rfl (fun H locs w => ?_)
                refine lv_sipush (v := 10000) hx hb dL_arePoses_169 (by decide) ?_
                refine lv_iadd hx hb dL_arePoses_172 ?_
                refine lv_icmp_ne (tgt := 286) hx hb dL_arePoses_173 (by decide) (fun c44 => absurd (rfl) c44) (fun c44 => ?_)
                refine lv_aload_n hx hb dL_arePoses_176 rfl (lv_at hl 10 rfl) ?_
                refine lv_iload hx hb dL_arePoses_177 (lv_at hl 3 rfl) ?_
                refine lv_iconst (v := 3) hx hb dL_arePoses_179 (by decide) ?_
                refine k_ciR (k_runV X w (met_X5_pose l D cI cJ cO xx ak b tr hf sv an w1n wan pan ran san z len pp 3 (by omega) hn hn4 (by decide) H.size) gL_arePoses_X5_pose rfl rfl rfl 2 hdX5_pose ⟨Nat.le_of_ble_eq_true rfl, Nat.le_of_ble_eq_true rfl⟩ [0, 1, 2, 3, 4, 5, 6] rfl rfl 0 5 rfl rfl rfl rfl hl.1 rfl (Nat.le_of_ble_eq_true rfl) dL_arePoses_180 ⟨Nat.le_of_ble_eq_true rfl, Nat.le_of_ble_eq_true rfl⟩) w hA [0, 1, 2, 3, 4, 5, 6] rfl (fun H locs w => ?_)
                refine lv_aload_n hx hb dL_arePoses_183 rfl (lv_at hl 11 rfl) ?_
                refine lv_iload hx hb dL_arePoses_184 (lv_at hl 3 rfl) ?_
                refine k_ciR (k_runS X w (met_L_beat l D cI cJ cO ga z (nI pp)  H.size) gL_arePoses_L_beat rfl rfl rfl 2 hdL_beat ⟨Nat.le_of_ble_eq_true rfl, Nat.le_of_ble_eq_true rfl⟩ [10] rfl rfl rfl hl.1 rfl (Nat.le_of_ble_eq_true rfl) dL_arePoses_186 ⟨Nat.le_of_ble_eq_true rfl, Nat.le_of_ble_eq_true rfl⟩) w hA [10] rfl (fun H locs w => ?_)
                refine lv_icmp_ne (tgt := 286) hx hb dL_arePoses_189 (by decide) (fun c45 => absurd (rfl) c45) (fun c45 => ?_)
                refine lv_aload_n hx hb dL_arePoses_192 rfl (lv_at hl 10 rfl) ?_
                refine lv_iload hx hb dL_arePoses_193 (lv_at hl 3 rfl) ?_
                refine lv_iconst (v := 4) hx hb dL_arePoses_195 (by decide) ?_
                refine k_ciR (k_runV X w (met_X5_pose l D cI cJ cO xx ak b tr hf sv an w1n wan pan ran san z len pp 4 (by omega) hn hn4 (by decide) H.size) gL_arePoses_X5_pose rfl rfl rfl 2 hdX5_pose ⟨Nat.le_of_ble_eq_true rfl, Nat.le_of_ble_eq_true rfl⟩ [0, 1, 2, 3, 4, 5, 6] rfl rfl 0 5 rfl rfl rfl rfl hl.1 rfl (Nat.le_of_ble_eq_true rfl) dL_arePoses_196 ⟨Nat.le_of_ble_eq_true rfl, Nat.le_of_ble_eq_true rfl⟩) w hA [0, 1, 2, 3, 4, 5, 6] rfl (fun H locs w => ?_)
                refine lv_aload_n hx hb dL_arePoses_199 rfl (lv_at hl 11 rfl) ?_
                refine lv_iload hx hb dL_arePoses_200 (lv_at hl 3 rfl) ?_
                refine k_ciR (k_runS X w (met_L_why l D cI cJ cO ga z pp len hgd.1 hn hn4 H.size) gL_arePoses_L_why rfl rfl rfl 2 hdL_why ⟨Nat.le_of_ble_eq_true rfl, Nat.le_of_ble_eq_true rfl⟩ [10] rfl rfl rfl hl.1 rfl (Nat.le_of_ble_eq_true rfl) dL_arePoses_202 ⟨Nat.le_of_ble_eq_true rfl, Nat.le_of_ble_eq_true rfl⟩) w hA [10] rfl (fun H locs w => ?_)
                refine lv_icmp_ne (tgt := 286) hx hb dL_arePoses_205 (by decide) (fun c46 => absurd (rfl) c46) (fun c46 => ?_)
                refine lv_aload_n hx hb dL_arePoses_208 rfl (lv_at hl 10 rfl) ?_
                refine lv_iload hx hb dL_arePoses_209 (lv_at hl 3 rfl) ?_
                refine lv_iconst (v := 5) hx hb dL_arePoses_211 (by decide) ?_
                refine k_ciR (k_runV X w (met_X5_pose l D cI cJ cO xx ak b tr hf sv an w1n wan pan ran san z len pp 5 (by omega) hn hn4 (by decide) H.size) gL_arePoses_X5_pose rfl rfl rfl 2 hdX5_pose ⟨Nat.le_of_ble_eq_true rfl, Nat.le_of_ble_eq_true rfl⟩ [0, 1, 2, 3, 4, 5, 6] rfl rfl 0 5 rfl rfl rfl rfl hl.1 rfl (Nat.le_of_ble_eq_true rfl) dL_arePoses_212 ⟨Nat.le_of_ble_eq_true rfl, Nat.le_of_ble_eq_true rfl⟩) w hA [0, 1, 2, 3, 4, 5, 6] rfl (fun H locs w => ?_)
                refine lv_iload hx hb dL_arePoses_215 (lv_at hl 2 rfl) ?_
                refine lv_if_ge (tgt := 224) hx hb dL_arePoses_217 (by decide) (fun c47 => ?_) (fun c47 => ?_)
                · have cl := lat_ge c47
                  obtain ⟨ej, hj, hj2⟩ := lat_j cl
                  rw [ej] at hl
                  refine lv_aload_n hx hb dL_arePoses_224 rfl (lv_at hl 12 rfl) ?_
                  refine lv_iload hx hb dL_arePoses_225 (lv_at hl 2 rfl) ?_
                  refine k_iald X w 11 0 rfl rfl (latj z (nI pp) len) (kj := latj z (nI pp) len) (Nat.zero_add _) (by omega) (by decide) rfl (v := pA z (latj z (nI pp) len)) rfl dL_arePoses_227 ?_
                  refine lv_bipush (v := 100) hx hb dL_arePoses_228 (by decide) ?_
                  refine lv_idiv hx hb dL_arePoses_230 (by decide) ?_
                  refine lv_icmp_ne (tgt := 286) hx hb dL_arePoses_231 (by decide) (fun c48 => absurd ((if_neg cl).trans (hpp _ hj).1.symm) c48) (fun c48 => ?_)
                  refine lv_aload_n hx hb dL_arePoses_234 rfl (lv_at hl 10 rfl) ?_
                  refine lv_iload hx hb dL_arePoses_235 (lv_at hl 3 rfl) ?_
                  refine lv_bipush (v := 6) hx hb dL_arePoses_237 (by decide) ?_
                  refine k_ciR (k_runV X w (met_X5_pose l D cI cJ cO xx ak b tr hf sv an w1n wan pan ran san z len pp 6 (by omega) hn hn4 (by decide) H.size) gL_arePoses_X5_pose rfl rfl rfl 2 hdX5_pose ⟨Nat.le_of_ble_eq_true rfl, Nat.le_of_ble_eq_true rfl⟩ [0, 1, 2, 3, 4, 5, 6] rfl rfl 0 5 rfl rfl rfl rfl hl.1 rfl (Nat.le_of_ble_eq_true rfl) dL_arePoses_239 ⟨Nat.le_of_ble_eq_true rfl, Nat.le_of_ble_eq_true rfl⟩) w hA [0, 1, 2, 3, 4, 5, 6] rfl (fun H locs w => ?_)
                  refine lv_iload hx hb dL_arePoses_242 (lv_at hl 2 rfl) ?_
                  refine lv_if_ge (tgt := 251) hx hb dL_arePoses_244 (by decide) (fun c49 => ?_) (fun c49 => absurd (nI_pos' (by omega)) c49)
                  refine lv_aload_n hx hb dL_arePoses_251 rfl (lv_at hl 13 rfl) ?_
                  refine lv_iload hx hb dL_arePoses_252 (lv_at hl 2 rfl) ?_
                  refine k_iald X w 12 0 rfl rfl (latj z (nI pp) len) (kj := latj z (nI pp) len) (Nat.zero_add _) (by omega) (by decide) rfl (v := pB z (latj z (nI pp) len)) rfl dL_arePoses_254 ?_
                  refine lv_sipush (v := 10000) hx hb dL_arePoses_255 (by decide) ?_
                  refine lv_iadd hx hb dL_arePoses_258 ?_
                  refine lv_icmp_ne (tgt := 286) hx hb dL_arePoses_259 (by decide) (fun c50 => absurd (if_neg cl) c50) (fun c50 => ?_)
                  refine lv_aload_n hx hb dL_arePoses_262 rfl (lv_at hl 10 rfl) ?_
                  refine lv_iload hx hb dL_arePoses_263 (lv_at hl 3 rfl) ?_
                  refine lv_bipush (v := 7) hx hb dL_arePoses_265 (by decide) ?_
                  refine k_ciR (k_runV X w (met_X5_pose l D cI cJ cO xx ak b tr hf sv an w1n wan pan ran san z len pp 7 (by omega) hn hn4 (by decide) H.size) gL_arePoses_X5_pose rfl rfl rfl 2 hdX5_pose ⟨Nat.le_of_ble_eq_true rfl, Nat.le_of_ble_eq_true rfl⟩ [0, 1, 2, 3, 4, 5, 6] rfl rfl 0 5 rfl rfl rfl rfl hl.1 rfl (Nat.le_of_ble_eq_true rfl) dL_arePoses_267 ⟨Nat.le_of_ble_eq_true rfl, Nat.le_of_ble_eq_true rfl⟩) w hA [0, 1, 2, 3, 4, 5, 6] rfl (fun H locs w => ?_)
                  refine lv_iload hx hb dL_arePoses_270 (lv_at hl 1 rfl) ?_
                  refine lv_icmp_ne (tgt := 286) hx hb dL_arePoses_272 (by decide) (fun c51 => absurd ((by rw [hmm, show i = len by omega]; rfl)) c51) (fun c51 => ?_)
                  refine lv_aload_n hx hb dL_arePoses_275 rfl (lv_at hl 10 rfl) ?_
                  refine lv_iload hx hb dL_arePoses_276 (lv_at hl 3 rfl) ?_
                  refine k_ci (wr := [oV sv rr y, aI cI ga 22 0 (gz z), aI cI aa 40 0 (pA z), aI cI ba 40 0 (pB z), aI cI g2 22 0 (gz zz)]) (ws2 := [oX xx an ak sv b tr hf, oS an w1n pan san z, aI cI san 4 12 z, oW w1n wan z, aI cI wan 6 19 z, oP pan ran z, aI cI ran 200 25 z, oV sv rr y, oW tr twa (utr z pp), aI cI twa 6 19 (utr z pp), aI cI ga 22 0 (gz z), aI cI aa 40 0 (pA z), aI cI ba 40 0 (pB z), aI cI g2 22 0 (gz zz)]) (k_runV X w (met_X5_stopsIn l D cI cJ cO xx ak b tr hf sv an w1n wan pan ran san z twa (utrs z zt pp) pp (by omega) H.size) gL_arePoses_X5_stopsIn rfl rfl rfl 1 hdX5_stopsIn ⟨Nat.le_of_ble_eq_true rfl, Nat.le_of_ble_eq_true rfl⟩ [0, 1, 2, 3, 4, 5, 6, 8, 9] rfl rfl 0 5 rfl rfl rfl rfl hl.1 rfl (Nat.le_of_ble_eq_true rfl) dL_arePoses_278 ⟨Nat.le_of_ble_eq_true rfl, Nat.le_of_ble_eq_true rfl⟩) w hA [0, 1, 2, 3, 4, 5, 6, 8, 9] [7, 10, 11, 12, 13] rfl rfl rfl (by decide) [5, 6, 7, 8, 9, 10, 11, 0, 12, 13, 1, 2, 3, 4] rfl rfl (fun H locs w => ?_)
                  refine lv_iload hx hb dL_arePoses_281 (lv_at hl 0 rfl) ?_
                  refine lv_icmp_eq (tgt := 288) hx hb dL_arePoses_283 (by decide) (fun c52 => ?_) (fun c52 => absurd (hst.symm) c52)
                  refine lv_iload hx hb dL_arePoses_288 (lv_at hl 2 rfl) ?_
                  refine lv_if_ge (tgt := 296) hx hb dL_arePoses_290 (by decide) (fun c53 => ?_) (fun c53 => absurd (nI_pos' (by omega)) c53)
                  refine lv_iload hx hb dL_arePoses_296 (lv_at hl 4 rfl) ?_
                  have K : ∀ y55 : Int32, y55 = apL z len (pp + 1) → W p l e ({ frames := 7, cells := 1, slots := 22, locals := 151 }) s m [.ref xx, .ref ga, .ref aa, .ref ba].toArray below meth c H locs 1 22 Q (F0 m 319 ls [.int y55]) := by
                    intro y55 ey55
                    refine lv_istore (lv' := [(6, .int y55), (13, .int (nI cc)), (12, .int mm), (11, .int (nI (latj z (nI pp) len))), (10, .int (nI pp)), (4, .int (nI aN)), (5, .int s5), (7, .int m7), (8, .int o8), (9, .ref g2), (0, .ref xx), (1, .ref ga), (2, .ref aa), (3, .ref ba)]) hx hb dL_arePoses_319 hl (by decide) rfl (fun ls hl => ?_)
                    refine lv_iload hx hb dL_arePoses_321 (lv_at hl 5 rfl) ?_
                    have K : ∀ y57 : Int32, y57 = apM z len (pp + 1) → W p l e ({ frames := 7, cells := 1, slots := 22, locals := 151 }) s m [.ref xx, .ref ga, .ref aa, .ref ba].toArray below meth c H locs 1 22 Q (F0 m 344 ls [.int y57]) := by
                      intro y57 ey57
                      refine lv_istore (lv' := [(7, .int y57), (6, .int y55), (13, .int (nI cc)), (12, .int mm), (11, .int (nI (latj z (nI pp) len))), (10, .int (nI pp)), (4, .int (nI aN)), (5, .int s5), (8, .int o8), (9, .ref g2), (0, .ref xx), (1, .ref ga), (2, .ref aa), (3, .ref ba)]) hx hb dL_arePoses_344 hl (by decide) rfl (fun ls hl => ?_)
                      refine lv_iload hx hb dL_arePoses_346 (lv_at hl 7 rfl) ?_
                      refine lv_aload_n hx hb dL_arePoses_348 rfl (lv_at hl 13 rfl) ?_
                      refine lv_iload hx hb dL_arePoses_349 (lv_at hl 4 rfl) ?_
                      refine k_iald X w 12 0 rfl rfl (latj z (nI pp) len) (kj := latj z (nI pp) len) (Nat.zero_add _) (by omega) (by decide) rfl (v := pB z (latj z (nI pp) len)) rfl dL_arePoses_351 ?_
                      refine lv_iadd hx hb dL_arePoses_352 ?_
                      refine lv_istore (lv' := [(5, .int (s5 + (pB z (latj z (nI pp) len)))), (7, .int y57), (6, .int y55), (13, .int (nI cc)), (12, .int mm), (11, .int (nI (latj z (nI pp) len))), (10, .int (nI pp)), (4, .int (nI aN)), (8, .int o8), (9, .ref g2), (0, .ref xx), (1, .ref ga), (2, .ref aa), (3, .ref ba)]) hx hb dL_arePoses_353 hl (by decide) rfl (fun ls hl => ?_)
                      refine lv_iload hx hb dL_arePoses_355 (lv_at hl 8 rfl) ?_
                      have K : ∀ y59 : Int32, y59 = apO z len (pp + 1) → W p l e ({ frames := 7, cells := 1, slots := 22, locals := 151 }) s m [.ref xx, .ref ga, .ref aa, .ref ba].toArray below meth c H locs 1 22 Q (F0 m 383 ls [.int y59]) := by
                        intro y59 ey59
                        refine lv_istore (lv' := [(8, .int y59), (5, .int (s5 + (pB z (latj z (nI pp) len)))), (7, .int y57), (6, .int y55), (13, .int (nI cc)), (12, .int mm), (11, .int (nI (latj z (nI pp) len))), (10, .int (nI pp)), (4, .int (nI aN)), (9, .ref g2), (0, .ref xx), (1, .ref ga), (2, .ref aa), (3, .ref ba)]) hx hb dL_arePoses_383 hl (by decide) rfl (fun ls hl => ?_)
                        refine lv_iinc (v := nI (aN + 1)) (lv' := [(4, .int (nI (aN + 1))), (8, .int y59), (5, .int (s5 + (pB z (latj z (nI pp) len)))), (7, .int y57), (6, .int y55), (13, .int (nI cc)), (12, .int mm), (11, .int (nI (latj z (nI pp) len))), (10, .int (nI pp)), (9, .ref g2), (0, .ref xx), (1, .ref ga), (2, .ref aa), (3, .ref ba)]) hx hb dL_arePoses_385 hl (k := 8) rfl (nI_1 _) (by decide) rfl (fun ls hl => ?_)
                        refine lv_iinc (v := nI (pp + 1)) (lv' := [(10, .int (nI (pp + 1))), (4, .int (nI (aN + 1))), (8, .int y59), (5, .int (s5 + (pB z (latj z (nI pp) len)))), (7, .int y57), (6, .int y55), (13, .int (nI cc)), (12, .int mm), (11, .int (nI (latj z (nI pp) len))), (9, .ref g2), (0, .ref xx), (1, .ref ga), (2, .ref aa), (3, .ref ba)]) hx hb dL_arePoses_388 hl (k := 8) rfl (nI_1 _) (by decide) rfl (fun ls hl => ?_)
                        refine lv_goto (tgt := 24) hx hb dL_arePoses_391 (by decide) ?_
                        have w := w.to (show [oX xx an ak sv b tr hf, oS an w1n pan san z, aI cI san 4 12 z, oW w1n wan z, aI cI wan 6 19 z, oP pan ran z, aI cI ran 200 25 z, oV sv rr y, oW tr twa (utr z pp), aI cI twa 6 19 (utr z pp), aI cI ga 22 0 (gz z), aI cI aa 40 0 (pA z), aI cI ba 40 0 (pB z), aI cI g2 22 0 (gz zz)] = [oX xx an ak sv b tr hf, oS an w1n pan san z, aI cI san 4 12 z, oW w1n wan z, aI cI wan 6 19 z, oP pan ran z, aI cI ran 200 25 z, oV sv rr y, oW tr twa (utrs z zt (pp + 1)), aI cI twa 6 19 (utrs z zt (pp + 1)), aI cI ga 22 0 (gz z), aI cI aa 40 0 (pA z), aI cI ba 40 0 (pB z), aI cI g2 22 0 (gz zz)] by rw [show oW tr twa (utr z pp) = oW tr twa (utrs z zt (pp + 1)) from rfl, show aI cI twa 6 19 (utr z pp) = aI cI twa 6 19 (utrs z zt (pp + 1)) from rfl])
                        exact ih (pp + 1) (aN + 1) (s5 + (pB z (latj z (nI pp) len))) y55 y57 y59 (gz zz) (by omega) (apN_y cl ha) (apS_y cl hs5) ey55 ey57 ey59 _ _ _ w (lv_sub hl [0, 1, 3, 5, 4, 2, 9, 10, 11, 12, 13] rfl)
                      refine lv_if_ne (tgt := 378) hx hb dL_arePoses_357 (by decide) (fun c58 => ?_) (fun c58 => ?_)
                      · refine lv_iconst (v := 1) hx hb dL_arePoses_378 (by decide) ?_
                        refine lv_goto (tgt := 383) hx hb dL_arePoses_379 (by decide) ?_
                        exact K _ (apO_1 cl ho8 c58)
                      · refine lv_aload_n hx hb dL_arePoses_360 rfl (lv_at hl 11 rfl) ?_
                        refine lv_iconst (v := 0) hx hb dL_arePoses_361 (by decide) ?_
                        refine k_iald X w 10 0 rfl rfl 0 (kj := 0) rfl (by decide) (by decide) rfl (v := z 0) (gz_o _ 0 (by decide)) dL_arePoses_362 ?_
                        refine lv_aload_n hx hb dL_arePoses_363 rfl (lv_at hl 12 rfl) ?_
                        refine lv_iload hx hb dL_arePoses_364 (lv_at hl 5 rfl) ?_
                        refine k_iald X w 11 0 rfl rfl (latj z (nI pp) len) (kj := latj z (nI pp) len) (Nat.zero_add _) (by omega) (by decide) rfl (v := pA z (latj z (nI pp) len)) rfl dL_arePoses_366 ?_
                        refine lv_bipush (v := 100) hx hb dL_arePoses_367 (by decide) ?_
                        refine lv_idiv hx hb dL_arePoses_369 (by decide) ?_
                        refine lv_aload_n hx hb dL_arePoses_370 rfl (lv_at hl 11 rfl) ?_
                        refine lv_bipush (v := 14) hx hb dL_arePoses_371 (by decide) ?_
                        refine k_iald X w 10 0 rfl rfl 14 (kj := 14) rfl (by decide) (by decide) rfl (v := z 14) (gz_o _ 14 (by decide)) dL_arePoses_373 ?_
                        refine lv_iadd hx hb dL_arePoses_374 ?_
                        refine lv_icmp_le (tgt := 382) hx hb dL_arePoses_375 (by decide) (fun c60 => ?_) (fun c60 => ?_)
                        · refine lv_iconst (v := 0) hx hb dL_arePoses_382 (by decide) ?_
                          exact K _ (apO_0 cl ho8 c58 (hpp _ hj).1 c60)
                        · refine lv_iconst (v := 1) hx hb dL_arePoses_378 (by decide) ?_
                          refine lv_goto (tgt := 383) hx hb dL_arePoses_379 (by decide) ?_
                          exact K _ (apO_2 cl ho8 c58 (hpp _ hj).1 c60)
                    refine lv_if_eq (tgt := 335) hx hb dL_arePoses_323 (by decide) (fun c56 => ?_) (fun c56 => ?_)
                    · refine lv_aload_n hx hb dL_arePoses_335 rfl (lv_at hl 13 rfl) ?_
                      refine lv_iload hx hb dL_arePoses_336 (lv_at hl 3 rfl) ?_
                      refine k_iald X w 12 0 rfl rfl (latj z (nI pp) len) (kj := latj z (nI pp) len) (Nat.zero_add _) (by omega) (by decide) rfl (v := pB z (latj z (nI pp) len)) rfl dL_arePoses_338 ?_
                      refine lv_goto (tgt := 344) hx hb dL_arePoses_339 (by decide) ?_
                      exact K _ (apM_0 (by omega) cl ha c56)
                    · refine lv_aload_n hx hb dL_arePoses_326 rfl (lv_at hl 13 rfl) ?_
                      refine lv_iload hx hb dL_arePoses_327 (lv_at hl 3 rfl) ?_
                      refine k_iald X w 12 0 rfl rfl (latj z (nI pp) len) (kj := latj z (nI pp) len) (Nat.zero_add _) (by omega) (by decide) rfl (v := pB z (latj z (nI pp) len)) rfl dL_arePoses_329 ?_
                      refine lv_iload hx hb dL_arePoses_330 (lv_at hl 7 rfl) ?_
                      refine lv_icmp_le (tgt := 342) hx hb dL_arePoses_332 (by decide) (fun c61 => ?_) (fun c61 => ?_)
                      · refine lv_iload hx hb dL_arePoses_342 (lv_at hl 7 rfl) ?_
                        exact K _ (apM_k cl ha hm7 c56 c61)
                      · refine lv_aload_n hx hb dL_arePoses_335 rfl (lv_at hl 13 rfl) ?_
                        refine lv_iload hx hb dL_arePoses_336 (lv_at hl 3 rfl) ?_
                        refine k_iald X w 12 0 rfl rfl (latj z (nI pp) len) (kj := latj z (nI pp) len) (Nat.zero_add _) (by omega) (by decide) rfl (v := pB z (latj z (nI pp) len)) rfl dL_arePoses_338 ?_
                        refine lv_goto (tgt := 344) hx hb dL_arePoses_339 (by decide) ?_
                        exact K _ (apM_t cl ha hm7 c56 c61)
                  refine lv_if_eq (tgt := 310) hx hb dL_arePoses_298 (by decide) (fun c54 => ?_) (fun c54 => ?_)
                  · refine lv_aload_n hx hb dL_arePoses_310 rfl (lv_at hl 13 rfl) ?_
                    refine lv_iload hx hb dL_arePoses_311 (lv_at hl 2 rfl) ?_
                    refine k_iald X w 12 0 rfl rfl (latj z (nI pp) len) (kj := latj z (nI pp) len) (Nat.zero_add _) (by omega) (by decide) rfl (v := pB z (latj z (nI pp) len)) rfl dL_arePoses_313 ?_
                    refine lv_goto (tgt := 319) hx hb dL_arePoses_314 (by decide) ?_
                    exact K _ (apL_0 (by omega) cl ha c54)
                  · refine lv_aload_n hx hb dL_arePoses_301 rfl (lv_at hl 13 rfl) ?_
                    refine lv_iload hx hb dL_arePoses_302 (lv_at hl 2 rfl) ?_
                    refine k_iald X w 12 0 rfl rfl (latj z (nI pp) len) (kj := latj z (nI pp) len) (Nat.zero_add _) (by omega) (by decide) rfl (v := pB z (latj z (nI pp) len)) rfl dL_arePoses_304 ?_
                    refine lv_iload hx hb dL_arePoses_305 (lv_at hl 6 rfl) ?_
                    refine lv_icmp_ge (tgt := 317) hx hb dL_arePoses_307 (by decide) (fun c62 => ?_) (fun c62 => ?_)
                    · refine lv_iload hx hb dL_arePoses_317 (lv_at hl 6 rfl) ?_
                      exact K _ (apL_k cl ha hl6 c54 c62)
                    · refine lv_aload_n hx hb dL_arePoses_310 rfl (lv_at hl 13 rfl) ?_
                      refine lv_iload hx hb dL_arePoses_311 (lv_at hl 2 rfl) ?_
                      refine k_iald X w 12 0 rfl rfl (latj z (nI pp) len) (kj := latj z (nI pp) len) (Nat.zero_add _) (by omega) (by decide) rfl (v := pB z (latj z (nI pp) len)) rfl dL_arePoses_313 ?_
                      refine lv_goto (tgt := 319) hx hb dL_arePoses_314 (by decide) ?_
                      exact K _ (apL_t cl ha hl6 c54 c62)
                · have cl := lat_lt hn4 c47
                  rw [cl] at hl
                  refine lv_iconst (v := (-1)) hx hb dL_arePoses_220 (by decide) ?_
                  refine lv_goto (tgt := 231) hx hb dL_arePoses_221 (by decide) ?_
                  refine lv_icmp_ne (tgt := 286) hx hb dL_arePoses_231 (by decide) (fun c63 => absurd (if_pos cl) c63) (fun c63 => ?_)
                  refine lv_aload_n hx hb dL_arePoses_234 rfl (lv_at hl 10 rfl) ?_
                  refine lv_iload hx hb dL_arePoses_235 (lv_at hl 3 rfl) ?_
                  refine lv_bipush (v := 6) hx hb dL_arePoses_237 (by decide) ?_
                  refine k_ciR (k_runV X w (met_X5_pose l D cI cJ cO xx ak b tr hf sv an w1n wan pan ran san z len pp 6 (by omega) hn hn4 (by decide) H.size) gL_arePoses_X5_pose rfl rfl rfl 2 hdX5_pose ⟨Nat.le_of_ble_eq_true rfl, Nat.le_of_ble_eq_true rfl⟩ [0, 1, 2, 3, 4, 5, 6] rfl rfl 0 5 rfl rfl rfl rfl hl.1 rfl (Nat.le_of_ble_eq_true rfl) dL_arePoses_239 ⟨Nat.le_of_ble_eq_true rfl, Nat.le_of_ble_eq_true rfl⟩) w hA [0, 1, 2, 3, 4, 5, 6] rfl (fun H locs w => ?_)
                  refine lv_iload hx hb dL_arePoses_242 (lv_at hl 2 rfl) ?_
                  refine lv_if_ge (tgt := 251) hx hb dL_arePoses_244 (by decide) (fun c64 => absurd c64 (by decide)) (fun c64 => ?_)
                  refine lv_iconst (v := (-1)) hx hb dL_arePoses_247 (by decide) ?_
                  refine lv_goto (tgt := 259) hx hb dL_arePoses_248 (by decide) ?_
                  refine lv_icmp_ne (tgt := 286) hx hb dL_arePoses_259 (by decide) (fun c65 => absurd (if_pos cl) c65) (fun c65 => ?_)
                  refine lv_aload_n hx hb dL_arePoses_262 rfl (lv_at hl 10 rfl) ?_
                  refine lv_iload hx hb dL_arePoses_263 (lv_at hl 3 rfl) ?_
                  refine lv_bipush (v := 7) hx hb dL_arePoses_265 (by decide) ?_
                  refine k_ciR (k_runV X w (met_X5_pose l D cI cJ cO xx ak b tr hf sv an w1n wan pan ran san z len pp 7 (by omega) hn hn4 (by decide) H.size) gL_arePoses_X5_pose rfl rfl rfl 2 hdX5_pose ⟨Nat.le_of_ble_eq_true rfl, Nat.le_of_ble_eq_true rfl⟩ [0, 1, 2, 3, 4, 5, 6] rfl rfl 0 5 rfl rfl rfl rfl hl.1 rfl (Nat.le_of_ble_eq_true rfl) dL_arePoses_267 ⟨Nat.le_of_ble_eq_true rfl, Nat.le_of_ble_eq_true rfl⟩) w hA [0, 1, 2, 3, 4, 5, 6] rfl (fun H locs w => ?_)
                  refine lv_iload hx hb dL_arePoses_270 (lv_at hl 1 rfl) ?_
                  refine lv_icmp_ne (tgt := 286) hx hb dL_arePoses_272 (by decide) (fun c66 => absurd ((by rw [hmm, show i = len by omega]; rfl)) c66) (fun c66 => ?_)
                  refine lv_aload_n hx hb dL_arePoses_275 rfl (lv_at hl 10 rfl) ?_
                  refine lv_iload hx hb dL_arePoses_276 (lv_at hl 3 rfl) ?_
                  refine k_ci (wr := [oV sv rr y, aI cI ga 22 0 (gz z), aI cI aa 40 0 (pA z), aI cI ba 40 0 (pB z), aI cI g2 22 0 (gz zz)]) (ws2 := [oX xx an ak sv b tr hf, oS an w1n pan san z, aI cI san 4 12 z, oW w1n wan z, aI cI wan 6 19 z, oP pan ran z, aI cI ran 200 25 z, oV sv rr y, oW tr twa (utr z pp), aI cI twa 6 19 (utr z pp), aI cI ga 22 0 (gz z), aI cI aa 40 0 (pA z), aI cI ba 40 0 (pB z), aI cI g2 22 0 (gz zz)]) (k_runV X w (met_X5_stopsIn l D cI cJ cO xx ak b tr hf sv an w1n wan pan ran san z twa (utrs z zt pp) pp (by omega) H.size) gL_arePoses_X5_stopsIn rfl rfl rfl 1 hdX5_stopsIn ⟨Nat.le_of_ble_eq_true rfl, Nat.le_of_ble_eq_true rfl⟩ [0, 1, 2, 3, 4, 5, 6, 8, 9] rfl rfl 0 5 rfl rfl rfl rfl hl.1 rfl (Nat.le_of_ble_eq_true rfl) dL_arePoses_278 ⟨Nat.le_of_ble_eq_true rfl, Nat.le_of_ble_eq_true rfl⟩) w hA [0, 1, 2, 3, 4, 5, 6, 8, 9] [7, 10, 11, 12, 13] rfl rfl rfl (by decide) [5, 6, 7, 8, 9, 10, 11, 0, 12, 13, 1, 2, 3, 4] rfl rfl (fun H locs w => ?_)
                  refine lv_iload hx hb dL_arePoses_281 (lv_at hl 0 rfl) ?_
                  refine lv_icmp_eq (tgt := 288) hx hb dL_arePoses_283 (by decide) (fun c67 => ?_) (fun c67 => absurd (hst.symm) c67)
                  refine lv_iload hx hb dL_arePoses_288 (lv_at hl 2 rfl) ?_
                  refine lv_if_ge (tgt := 296) hx hb dL_arePoses_290 (by decide) (fun c68 => absurd c68 (by decide)) (fun c68 => ?_)
                  refine lv_goto (tgt := 388) hx hb dL_arePoses_293 (by decide) ?_
                  refine lv_iinc (v := nI (pp + 1)) (lv' := [(10, .int (nI (pp + 1))), (13, .int (nI cc)), (12, .int mm), (11, .int (-1)), (4, .int (nI aN)), (5, .int s5), (6, .int l6), (7, .int m7), (8, .int o8), (9, .ref g2), (0, .ref xx), (1, .ref ga), (2, .ref aa), (3, .ref ba)]) hx hb dL_arePoses_388 hl (k := 3) rfl (nI_1 _) (by decide) rfl (fun ls hl => ?_)
                  refine lv_goto (tgt := 24) hx hb dL_arePoses_391 (by decide) ?_
                  have w := w.to (show [oX xx an ak sv b tr hf, oS an w1n pan san z, aI cI san 4 12 z, oW w1n wan z, aI cI wan 6 19 z, oP pan ran z, aI cI ran 200 25 z, oV sv rr y, oW tr twa (utr z pp), aI cI twa 6 19 (utr z pp), aI cI ga 22 0 (gz z), aI cI aa 40 0 (pA z), aI cI ba 40 0 (pB z), aI cI g2 22 0 (gz zz)] = [oX xx an ak sv b tr hf, oS an w1n pan san z, aI cI san 4 12 z, oW w1n wan z, aI cI wan 6 19 z, oP pan ran z, aI cI ran 200 25 z, oV sv rr y, oW tr twa (utrs z zt (pp + 1)), aI cI twa 6 19 (utrs z zt (pp + 1)), aI cI ga 22 0 (gz z), aI cI aa 40 0 (pA z), aI cI ba 40 0 (pB z), aI cI g2 22 0 (gz zz)] by rw [show oW tr twa (utr z pp) = oW tr twa (utrs z zt (pp + 1)) from rfl, show aI cI twa 6 19 (utr z pp) = aI cI twa 6 19 (utrs z zt (pp + 1)) from rfl])
                  exact ih (pp + 1) aN s5 l6 m7 o8 (gz zz) (by omega) (ha.trans (ap_no cl).1.symm) (hs5.trans (ap_no cl).2.1.symm) (hl6.trans (ap_no cl).2.2.1.symm) (hm7.trans (ap_no cl).2.2.2.1.symm) (ho8.trans (ap_no cl).2.2.2.2.symm) _ _ _ w (lv_sub hl [0, 4, 5, 6, 7, 8, 9, 10, 11, 12, 13] rfl)
              · have c41 := bI_t c41
                refine lv_aload hx hb dL_arePoses_109 (lv_at hl 9 rfl) ?_
                refine k_cv (wr := [oX xx an ak sv b tr hf, oS an w1n pan san z, aI cI san 4 12 z, oW w1n wan z, aI cI wan 6 19 z, oP pan ran z, aI cI ran 200 25 z, oV sv rr y, oW tr twa (utrs z zt pp), aI cI twa 6 19 (utrs z zt pp), aI cI ga 22 0 (gz z), aI cI aa 40 0 (pA z), aI cI ba 40 0 (pB z)]) (ws2 := [oX xx an ak sv b tr hf, oS an w1n pan san z, aI cI san 4 12 z, oW w1n wan z, aI cI wan 6 19 z, oP pan ran z, aI cI ran 200 25 z, oV sv rr y, oW tr twa (utrs z zt pp), aI cI twa 6 19 (utrs z zt pp), aI cI ga 22 0 (gz z), aI cI aa 40 0 (pA z), aI cI ba 40 0 (pB z), aI cI g2 22 0 (gz (hourF zz pp))]) (k_runS X w (met_L_hour l D cI cJ cO g2 zz pp hbb hzz (by omega) H.size) gL_arePoses_L_hour rfl rfl rfl 1 hdL_hour ⟨Nat.le_of_ble_eq_true rfl, Nat.le_of_ble_eq_true rfl⟩ [13] rfl rfl rfl hl.1 rfl (Nat.le_of_ble_eq_true rfl) dL_arePoses_111 ⟨Nat.le_of_ble_eq_true rfl, Nat.le_of_ble_eq_true rfl⟩) w hA [13] [0, 1, 2, 3, 4, 5, 6, 7, 8, 9, 10, 11, 12] rfl rfl rfl (by decide) [0, 1, 2, 3, 4, 5, 6, 7, 8, 9, 10, 11, 12, 13] rfl rfl (fun H locs w => ?_)
                refine lv_iinc (v := nI (cc + 1)) (lv' := [(13, .int (nI (cc + 1))), (12, .int mm), (11, .int (lat z (nI pp) len)), (10, .int (nI pp)), (4, .int (nI aN)), (5, .int s5), (6, .int l6), (7, .int m7), (8, .int o8), (9, .ref g2), (0, .ref xx), (1, .ref ga), (2, .ref aa), (3, .ref ba)]) hx hb dL_arePoses_114 hl (k := 0) rfl (nI_1 _) (by decide) rfl (fun ls hl => ?_)
                refine lv_goto (tgt := 99) hx hb dL_arePoses_117 (by decide) ?_
                exact ih3 (cc + 1) (hourF zz pp) (by omega) ((hourF_6 _ _).trans hzz) (hourF_okb hbb) (until_s c41 hbb hl1) (until_9 c41 h9) he _ _ _ w (lv_sub hl [0, 1, 2, 3, 4, 5, 6, 7, 8, 9, 10, 11, 12, 13] rfl)
          exact lp99 48 0 (upd z 6 (nI pp)) (Nat.zero_add _) (upd_is _ _ _) (okb_u (by omega) hgd.1) (show (z 1).toInt + ((0 : Nat) : Int) ≤ 48 by have := hgd.1.1.2; omega) (add_z _).symm rfl _ _ _ w (lv_sub hl [0, 1, 2, 3, 4, 5, 6, 7, 8, 9, 10, 11, 12, 13] rfl)
        | succ n2 ih2 =>
          intro i mm hi2 hmm H locs ls w hl
          refine lv_iload hx hb dL_arePoses_46 (lv_at hl 0 rfl) ?_
          refine lv_aload_n hx hb dL_arePoses_48 rfl (lv_at hl 11 rfl) ?_
          refine lv_bipush (v := 10) hx hb dL_arePoses_49 (by decide) ?_
          refine k_iald X w 10 0 rfl rfl 10 (kj := 10) rfl (by decide) (by decide) rfl (v := nI len) ((gz_o _ 10 (by decide)).trans hn) dL_arePoses_51 ?_
          refine lv_icmp_ge (tgt := 83) hx hb dL_arePoses_52 (by decide) (fun c13 => absurd c13 (nI_ge (by omega) (by omega))) (fun c13 => ?_)
          refine lv_iload hx hb dL_arePoses_55 (lv_at hl 1 rfl) ?_
          refine lv_aload_n hx hb dL_arePoses_57 rfl (lv_at hl 12 rfl) ?_
          refine lv_iload hx hb dL_arePoses_58 (lv_at hl 0 rfl) ?_
          refine k_iald X w 11 0 rfl rfl i (kj := i) (Nat.zero_add _) (by omega) (by decide) rfl (v := pA z i) rfl dL_arePoses_60 ?_
          refine lv_bipush (v := 100) hx hb dL_arePoses_61 (by decide) ?_
          refine lv_irem hx hb dL_arePoses_63 (by decide) ?_
          refine lv_iload hx hb dL_arePoses_64 (lv_at hl 3 rfl) ?_
          refine lv_icmp_ne (tgt := 73) hx hb dL_arePoses_66 (by decide) (fun c14 => ?_) (fun c14 => ?_)
          · rw [(hpp i (by omega)).2] at c14
            refine lv_iconst (v := 0) hx hb dL_arePoses_73 (by decide) ?_
            refine lv_iadd hx hb dL_arePoses_74 ?_
            refine lv_istore (lv' := [(12, .int (mm + 0)), (13, .int (nI i)), (11, .int (lat z (nI pp) len)), (10, .int (nI pp)), (4, .int (nI aN)), (5, .int s5), (6, .int l6), (7, .int m7), (8, .int o8), (9, .ref g2), (0, .ref xx), (1, .ref ga), (2, .ref aa), (3, .ref ba)]) hx hb dL_arePoses_75 hl (by decide) rfl (fun ls hl => ?_)
            refine lv_iinc (v := nI (i + 1)) (lv' := [(13, .int (nI (i + 1))), (12, .int (mm + 0)), (11, .int (lat z (nI pp) len)), (10, .int (nI pp)), (4, .int (nI aN)), (5, .int s5), (6, .int l6), (7, .int m7), (8, .int o8), (9, .ref g2), (0, .ref xx), (1, .ref ga), (2, .ref aa), (3, .ref ba)]) hx hb dL_arePoses_77 hl (k := 1) rfl (nI_1 _) (by decide) rfl (fun ls hl => ?_)
            refine lv_goto (tgt := 46) hx hb dL_arePoses_80 (by decide) ?_
            exact ih2 (i + 1) (mm + 0) (by omega) (by rw [cnt, if_neg c14, add_z, hmm]) _ _ _ w (lv_sub hl [0, 1, 2, 3, 4, 5, 6, 7, 8, 9, 10, 11, 12, 13] rfl)
          · rw [(hpp i (by omega)).2] at c14
            refine lv_iconst (v := 1) hx hb dL_arePoses_69 (by decide) ?_
            refine lv_goto (tgt := 74) hx hb dL_arePoses_70 (by decide) ?_
            refine lv_iadd hx hb dL_arePoses_74 ?_
            refine lv_istore (lv' := [(12, .int (mm + 1)), (13, .int (nI i)), (11, .int (lat z (nI pp) len)), (10, .int (nI pp)), (4, .int (nI aN)), (5, .int s5), (6, .int l6), (7, .int m7), (8, .int o8), (9, .ref g2), (0, .ref xx), (1, .ref ga), (2, .ref aa), (3, .ref ba)]) hx hb dL_arePoses_75 hl (by decide) rfl (fun ls hl => ?_)
            refine lv_iinc (v := nI (i + 1)) (lv' := [(13, .int (nI (i + 1))), (12, .int (mm + 1)), (11, .int (lat z (nI pp) len)), (10, .int (nI pp)), (4, .int (nI aN)), (5, .int s5), (6, .int l6), (7, .int m7), (8, .int o8), (9, .ref g2), (0, .ref xx), (1, .ref ga), (2, .ref aa), (3, .ref ba)]) hx hb dL_arePoses_77 hl (k := 1) rfl (nI_1 _) (by decide) rfl (fun ls hl => ?_)
            refine lv_goto (tgt := 46) hx hb dL_arePoses_80 (by decide) ?_
            exact ih2 (i + 1) (mm + 1) (by omega) (by rw [cnt, if_pos c14, hmm]) _ _ _ w (lv_sub hl [0, 1, 2, 3, 4, 5, 6, 7, 8, 9, 10, 11, 12, 13] rfl)
      exact lp46 len 0 0 (Nat.zero_add _) rfl _ _ _ w (lv_sub hl [0, 1, 2, 3, 4, 5, 6, 7, 8, 9, 10, 11, 12, 13] rfl)
  have w := w.to (show [oX xx an ak sv b tr hf, oS an w1n pan san z, aI cI san 4 12 z, oW w1n wan z, aI cI wan 6 19 z, oP pan ran z, aI cI ran 200 25 z, oV sv rr y, oW tr twa zt, aI cI twa 6 19 zt, aI cI ga 22 0 (gz z), aI cI aa 40 0 (pA z), aI cI ba 40 0 (pB z), aI cI g2 22 0 (fun _ => 0)] = [oX xx an ak sv b tr hf, oS an w1n pan san z, aI cI san 4 12 z, oW w1n wan z, aI cI wan 6 19 z, oP pan ran z, aI cI ran 200 25 z, oV sv rr y, oW tr twa (utrs z zt 0), aI cI twa 6 19 (utrs z zt 0), aI cI ga 22 0 (gz z), aI cI aa 40 0 (pA z), aI cI ba 40 0 (pB z), aI cI g2 22 0 (fun _ => 0)] by rw [show oW tr twa zt = oW tr twa (utrs z zt 0) from rfl, show aI cI twa 6 19 zt = aI cI twa 6 19 (utrs z zt 0) from rfl])
  exact lp24 6 0 0 0 0 0 0 (fun _ => 0) (Nat.zero_add _) rfl rfl rfl rfl rfl _ _ _ w (lv_sub hl [0, 6, 5, 4, 3, 2, 1, 7, 8, 9, 10] rfl)
