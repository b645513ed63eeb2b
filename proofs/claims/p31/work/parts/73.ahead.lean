theorem hdL_isAhead : yL_isAhead.cls = RL ∧ yL_isAhead.cls ≠ "java/lang/invoke/MethodHandle" ∧ yL_isAhead.cls ≠ "java/lang/invoke/VarHandle" ∧ (parseMethodDescriptor yL_isAhead.desc).map (fun d => d.parameters.length) = some 3 := ⟨rfl, by decide, by decide, by decide +kernel⟩
set_option maxHeartbeats 4000000 in
set_option maxRecDepth 100000 in
theorem met_L_isAhead (l : Launch) (D : va_G) (cI cJ cO : ClassId) (o : Nat → Nat) (xx : Nat) (ak : Nat) (b : Nat) (tr : Nat) (hf : Int32) (sv : Nat) (an : Nat) (w1n : Nat) (wan : Nat) (pan : Nat) (ran : Nat) (san : Nat) (z : Nat → Int32) (twa : Nat) (zt : Nat → Int32) (ga : Nat) (x : Int32) (M : Int) (hgd : good M z) (hM : M ≤ 10000000) : CIm l D (TY cI cJ cO) o cI yL_isAhead wsL_isAhead ({ frames := 7, cells := 1, slots := 22, locals := 158 }) 1 22 [.ref xx, .ref ga, .int x] [oX xx an ak sv b tr hf, oS an w1n pan san z, aI cI san 4 12 z, oW w1n wan z, aI cI wan 6 19 z, oP pan ran z, aI cI ran 200 25 z, oW tr twa zt, aI cI twa 6 19 zt, aI cI ga 22 0 (gz z)] 1 [oX xx an ak sv b tr hf, oS an w1n pan san z, aI cI san 4 12 z, oW w1n wan z, aI cI wan 6 19 z, oP pan ran z, aI cI ran 200 25 z, oW tr twa (ntr z zt 6), aI cI twa 6 19 (ntr z zt 6), aI cI ga 22 0 (gz z)] := by
  refine CIm.ofM (by decide) rfl (Nat.le_of_ble_eq_true rfl) (rfl) (fun p e s m below meth c A ls Q X hA w ox hl fin => ?_)
  obtain ⟨hx, hb, hml, hown, hts⟩ := id X.1
  have hl : lv_has ls 15 [(0, .ref xx), (1, .ref ga), (2, .int x)] := hl
  have b0 := hgd.1
  have hE := good_E hgd hM
  obtain ⟨i1, hi1, f1⟩ := low_nat x (b := 6) (by decide) (by decide)
  have f1 : rem (x &&& 2147483647) 6 = nI i1 := f1
  have f1p : rem (x >>> ((3 * 0 : Int32) &&& 31) &&& 2147483647) 6 = nI i1 := by rw [shr0]; exact f1
  obtain ⟨i2, hi2, f2⟩ := low_nat (x >>> (3 &&& 31)) (b := 6) (by decide) (by decide)
  have f2 : rem (x >>> (3 &&& 31) &&& 2147483647) 6 = nI i2 := f2
  have f2p : rem (x >>> ((3 * 1 : Int32) &&& 31) &&& 2147483647) 6 = nI i2 := by rw [show ((3 * 1 : Int32) &&& 31) = (3 &&& 31) by decide]; exact f2
  obtain ⟨i3, hi3, f3⟩ := low_nat (x >>> (6 &&& 31)) (b := 6) (by decide) (by decide)
  have f3 : rem (x >>> (6 &&& 31) &&& 2147483647) 6 = nI i3 := f3
  have f3p : rem (x >>> ((3 * 2 : Int32) &&& 31) &&& 2147483647) 6 = nI i3 := by rw [show ((3 * 2 : Int32) &&& 31) = (6 &&& 31) by decide]; exact f3
  refine lv_bipush (v := 22) hx hb dL_isAhead_0 (by decide) ?_
  refine k_newa (n := 22) (k := 0) X w hA rfl (List.mem_of_getElem? (i := 1) rfl) rfl (by decide) ⟨Nat.le_of_ble_eq_true rfl, Nat.le_of_ble_eq_true rfl⟩ dL_isAhead_2 (fun g3 H w => ?_)
  have w := w.to (show _ = [oX xx an ak sv b tr hf, oS an w1n pan san z, aI cI san 4 12 z, oW w1n wan z, aI cI wan 6 19 z, oP pan ran z, aI cI ran 200 25 z, oW tr twa zt, aI cI twa 6 19 zt, aI cI ga 22 0 (gz z), aI cI g3 22 0 (fun _ => 0)] from rfl)
  refine lv_astore_n (lv' := [(3, .ref g3), (0, .ref xx), (1, .ref ga), (2, .int x)]) hx hb dL_isAhead_4 rfl hl (by decide) rfl (fun ls hl => ?_)
  refine lv_iconst (v := 0) hx hb dL_isAhead_5 (by decide) ?_
  refine lv_istore (lv' := [(4, .int 0), (3, .ref g3), (0, .ref xx), (1, .ref ga), (2, .int x)]) hx hb dL_isAhead_6 hl (by decide) rfl (fun ls hl => ?_)
  refine lv_iconst (v := 0) hx hb dL_isAhead_8 (by decide) ?_
  refine lv_istore (lv' := [(5, .int 0), (4, .int 0), (3, .ref g3), (0, .ref xx), (1, .ref ga), (2, .int x)]) hx hb dL_isAhead_9 hl (by decide) rfl (fun ls hl => ?_)
  refine lv_iconst (v := 0) hx hb dL_isAhead_11 (by decide) ?_
  refine lv_istore (lv' := [(6, .int 0), (5, .int 0), (4, .int 0), (3, .ref g3), (0, .ref xx), (1, .ref ga), (2, .int x)]) hx hb dL_isAhead_12 hl (by decide) rfl (fun ls hl => ?_)
  refine lv_iconst (v := 0) hx hb dL_isAhead_14 (by decide) ?_
  refine lv_istore (lv' := [(7, .int 0), (6, .int 0), (5, .int 0), (4, .int 0), (3, .ref g3), (0, .ref xx), (1, .ref ga), (2, .int x)]) hx hb dL_isAhead_15 hl (by decide) rfl (fun ls hl => ?_)
  refine lv_aload_n hx hb dL_isAhead_17 rfl (lv_at hl 6 rfl) ?_
  refine lv_aload_n hx hb dL_isAhead_18 rfl (lv_at hl 4 rfl) ?_
  refine k_cv (wr := [oX xx an ak sv b tr hf, oS an w1n pan san z, aI cI san 4 12 z, oW w1n wan z, aI cI wan 6 19 z, oP pan ran z, aI cI ran 200 25 z, oW tr twa zt, aI cI twa 6 19 zt]) (ws2 := [oX xx an ak sv b tr hf, oS an w1n pan san z, aI cI san 4 12 z, oW w1n wan z, aI cI wan 6 19 z, oP pan ran z, aI cI ran 200 25 z, oW tr twa zt, aI cI twa 6 19 zt, aI cI ga 22 0 (gz z), aI cI g3 22 0 (gz z)]) (k_runS X w (met_L_copy l D cI cJ cO ga g3 (gz z) (fun _ => 0)  H.size) gL_isAhead_L_copy rfl rfl rfl 2 hdL_copy ⟨Nat.le_of_ble_eq_true rfl, Nat.le_of_ble_eq_true rfl⟩ [9, 10] rfl rfl rfl hl.1 rfl (Nat.le_of_ble_eq_true rfl) dL_isAhead_19 ⟨Nat.le_of_ble_eq_true rfl, Nat.le_of_ble_eq_true rfl⟩) w hA [9, 10] [0, 1, 2, 3, 4, 5, 6, 7, 8] rfl rfl rfl (by decide) [0, 1, 2, 3, 4, 5, 6, 7, 8, 9, 10] rfl rfl (fun H locs w => ?_)
  refine lv_iconst (v := 0) hx hb dL_isAhead_22 (by decide) ?_
  refine lv_istore (lv' := [(8, .int 0), (7, .int 0), (6, .int 0), (5, .int 0), (4, .int 0), (3, .ref g3), (0, .ref xx), (1, .ref ga), (2, .int x)]) hx hb dL_isAhead_23 hl (by decide) rfl (fun ls hl => ?_)
  refine lv_iconst (v := 0) hx hb dL_isAhead_25 (by decide) ?_
  refine lv_istore (lv' := [(9, .int 0), (8, .int 0), (7, .int 0), (6, .int 0), (5, .int 0), (4, .int 0), (3, .ref g3), (0, .ref xx), (1, .ref ga), (2, .int x)]) hx hb dL_isAhead_26 hl (by decide) rfl (fun ls hl => ?_)
  refine lv_iload hx hb dL_isAhead_28 (lv_at hl 0 rfl) ?_
  refine lv_iconst (v := 3) hx hb dL_isAhead_30 (by decide) ?_
  refine lv_icmp_ge (tgt := 66) hx hb dL_isAhead_31 (by decide) (fun c1 => absurd c1 (by decide)) (fun c1 => ?_)
  refine lv_aload_n hx hb dL_isAhead_34 rfl (lv_at hl 6 rfl) ?_
  refine lv_bipush (v := 6) hx hb dL_isAhead_35 (by decide) ?_
  refine lv_iload_n hx hb dL_isAhead_37 rfl (lv_at hl 9 rfl) ?_
  refine lv_iconst (v := 3) hx hb dL_isAhead_38 (by decide) ?_
  refine lv_iload hx hb dL_isAhead_39 (lv_at hl 0 rfl) ?_
  refine lv_imul hx hb dL_isAhead_41 ?_
  refine lv_ishr hx hb dL_isAhead_42 ?_
  refine lv_bipush (v := 6) hx hb dL_isAhead_43 (by decide) ?_
  refine k_ciR (k_runS X w (met_L_low l D cI cJ cO (x >>> ((3 * 0) &&& 31)) 6 (by decide) H.size) gL_isAhead_L_low rfl rfl rfl 2 hdL_low ⟨Nat.le_of_ble_eq_true rfl, Nat.le_of_ble_eq_true rfl⟩ [] rfl rfl rfl hl.1 rfl (Nat.le_of_ble_eq_true rfl) dL_isAhead_45 ⟨Nat.le_of_ble_eq_true rfl, Nat.le_of_ble_eq_true rfl⟩) w hA [] rfl (fun H locs w => ?_)
  rw [f1p]
  refine k_iast X w 10 0 rfl rfl 6 (kj := 6) rfl (by decide) (by decide) rfl (ws2 := [oX xx an ak sv b tr hf, oS an w1n pan san z, aI cI san 4 12 z, oW w1n wan z, aI cI wan 6 19 z, oP pan ran z, aI cI ran 200 25 z, oW tr twa zt, aI cI twa 6 19 zt, aI cI ga 22 0 (gz z), aI cI g3 22 0 (upd (gz z) 6 (nI i1))]) rfl dL_isAhead_48 (fun H locs w => ?_)
  have w := w.to (show [oX xx an ak sv b tr hf, oS an w1n pan san z, aI cI san 4 12 z, oW w1n wan z, aI cI wan 6 19 z, oP pan ran z, aI cI ran 200 25 z, oW tr twa zt, aI cI twa 6 19 zt, aI cI ga 22 0 (gz z), aI cI g3 22 0 (upd (gz z) 6 (nI i1))] = [oX xx an ak sv b tr hf, oS an w1n pan san z, aI cI san 4 12 z, oW w1n wan z, aI cI wan 6 19 z, oP pan ran z, aI cI ran 200 25 z, oW tr twa zt, aI cI twa 6 19 zt, aI cI ga 22 0 (gz z), aI cI g3 22 0 (gz (upd z 6 (nI i1)))] by rw [show upd (gz z) 6 (nI i1) = gz (upd z 6 (nI i1)) from gz_u (by decide)])
  refine lv_iload hx hb dL_isAhead_49 (lv_at hl 1 rfl) ?_
  refine lv_aload_n hx hb dL_isAhead_51 rfl (lv_at hl 6 rfl) ?_
  refine lv_bipush (v := 8) hx hb dL_isAhead_52 (by decide) ?_
  refine k_ci (wr := [oX xx an ak sv b tr hf, oS an w1n pan san z, aI cI san 4 12 z, oW w1n wan z, aI cI wan 6 19 z, oP pan ran z, aI cI ran 200 25 z, oW tr twa zt, aI cI twa 6 19 zt, aI cI ga 22 0 (gz z)]) (ws2 := [oX xx an ak sv b tr hf, oS an w1n pan san z, aI cI san 4 12 z, oW w1n wan z, aI cI wan 6 19 z, oP pan ran z, aI cI ran 200 25 z, oW tr twa zt, aI cI twa 6 19 zt, aI cI ga 22 0 (gz z), aI cI g3 22 0 (gz (hoursF 8 (upd z 6 (nI i1)) i1))]) (k_runS X w (met_L_hours l D cI cJ cO g3 (upd z 6 (nI i1)) i1 8 (okb_u (by omega) b0) (upd_is _ _ _) hi1 (by decide) H.size) gL_isAhead_L_hours rfl rfl rfl 2 hdL_hours ⟨Nat.le_of_ble_eq_true rfl, Nat.le_of_ble_eq_true rfl⟩ [10] rfl rfl rfl hl.1 rfl (Nat.le_of_ble_eq_true rfl) dL_isAhead_54 ⟨Nat.le_of_ble_eq_true rfl, Nat.le_of_ble_eq_true rfl⟩) w hA [10] [0, 1, 2, 3, 4, 5, 6, 7, 8, 9] rfl rfl rfl (by decide) [0, 1, 2, 3, 4, 5, 6, 7, 8, 9, 10] rfl rfl (fun H locs w => ?_)
  obtain ⟨u1, e1⟩ : ∃ u, hoursF 8 (upd z 6 (nI i1)) i1 = u := ⟨_, rfl⟩
  rw [e1] at w
  rw [e1, show (upd z 6 (nI i1)) 9 = z 9 from rfl]
  have h1 : u1 = wz1 z i1 := by rw [← e1]; rfl
  have b1 : okb u1 := by rw [← e1]; exact hoursF_okb 8 (okb_u (by omega) b0)
  refine lv_iadd hx hb dL_isAhead_57 ?_
  refine lv_istore (lv' := [(8, .int (0 + (u1 9 - z 9))), (9, .int 0), (7, .int 0), (6, .int 0), (5, .int 0), (4, .int 0), (3, .ref g3), (0, .ref xx), (1, .ref ga), (2, .int x)]) hx hb dL_isAhead_58 hl (by decide) rfl (fun ls hl => ?_)
  refine lv_iinc (v := 1) (lv' := [(9, .int 1), (8, .int (0 + (u1 9 - z 9))), (7, .int 0), (6, .int 0), (5, .int 0), (4, .int 0), (3, .ref g3), (0, .ref xx), (1, .ref ga), (2, .int x)]) hx hb dL_isAhead_60 hl (k := 1) rfl (by decide) (by decide) rfl (fun ls hl => ?_)
  refine lv_goto (tgt := 28) hx hb dL_isAhead_63 (by decide) ?_
  refine lv_iload hx hb dL_isAhead_28 (lv_at hl 0 rfl) ?_
  refine lv_iconst (v := 3) hx hb dL_isAhead_30 (by decide) ?_
  refine lv_icmp_ge (tgt := 66) hx hb dL_isAhead_31 (by decide) (fun c2 => absurd c2 (by decide)) (fun c2 => ?_)
  refine lv_aload_n hx hb dL_isAhead_34 rfl (lv_at hl 6 rfl) ?_
  refine lv_bipush (v := 6) hx hb dL_isAhead_35 (by decide) ?_
  refine lv_iload_n hx hb dL_isAhead_37 rfl (lv_at hl 9 rfl) ?_
  refine lv_iconst (v := 3) hx hb dL_isAhead_38 (by decide) ?_
  refine lv_iload hx hb dL_isAhead_39 (lv_at hl 0 rfl) ?_
  refine lv_imul hx hb dL_isAhead_41 ?_
  refine lv_ishr hx hb dL_isAhead_42 ?_
  refine lv_bipush (v := 6) hx hb dL_isAhead_43 (by decide) ?_
  refine k_ciR (k_runS X w (met_L_low l D cI cJ cO (x >>> ((3 * 1) &&& 31)) 6 (by decide) H.size) gL_isAhead_L_low rfl rfl rfl 2 hdL_low ⟨Nat.le_of_ble_eq_true rfl, Nat.le_of_ble_eq_true rfl⟩ [] rfl rfl rfl hl.1 rfl (Nat.le_of_ble_eq_true rfl) dL_isAhead_45 ⟨Nat.le_of_ble_eq_true rfl, Nat.le_of_ble_eq_true rfl⟩) w hA [] rfl (fun H locs w => ?_)
  rw [f2p]
  refine k_iast X w 10 0 rfl rfl 6 (kj := 6) rfl (by decide) (by decide) rfl (ws2 := [oX xx an ak sv b tr hf, oS an w1n pan san z, aI cI san 4 12 z, oW w1n wan z, aI cI wan 6 19 z, oP pan ran z, aI cI ran 200 25 z, oW tr twa zt, aI cI twa 6 19 zt, aI cI ga 22 0 (gz z), aI cI g3 22 0 (upd (gz u1) 6 (nI i2))]) rfl dL_isAhead_48 (fun H locs w => ?_)
  have w := w.to (show [oX xx an ak sv b tr hf, oS an w1n pan san z, aI cI san 4 12 z, oW w1n wan z, aI cI wan 6 19 z, oP pan ran z, aI cI ran 200 25 z, oW tr twa zt, aI cI twa 6 19 zt, aI cI ga 22 0 (gz z), aI cI g3 22 0 (upd (gz u1) 6 (nI i2))] = [oX xx an ak sv b tr hf, oS an w1n pan san z, aI cI san 4 12 z, oW w1n wan z, aI cI wan 6 19 z, oP pan ran z, aI cI ran 200 25 z, oW tr twa zt, aI cI twa 6 19 zt, aI cI ga 22 0 (gz z), aI cI g3 22 0 (gz (upd u1 6 (nI i2)))] by rw [show upd (gz u1) 6 (nI i2) = gz (upd u1 6 (nI i2)) from gz_u (by decide)])
  refine lv_iload hx hb dL_isAhead_49 (lv_at hl 1 rfl) ?_
  refine lv_aload_n hx hb dL_isAhead_51 rfl (lv_at hl 6 rfl) ?_
  refine lv_bipush (v := 8) hx hb dL_isAhead_52 (by decide) ?_
  refine k_ci (wr := [oX xx an ak sv b tr hf, oS an w1n pan san z, aI cI san 4 12 z, oW w1n wan z, aI cI wan 6 19 z, oP pan ran z, aI cI ran 200 25 z, oW tr twa zt, aI cI twa 6 19 zt, aI cI ga 22 0 (gz z)]) (ws2 := [oX xx an ak sv b tr hf, oS an w1n pan san z, aI cI san 4 12 z, oW w1n wan z, aI cI wan 6 19 z, oP pan ran z, aI cI ran 200 25 z, oW tr twa zt, aI cI twa 6 19 zt, aI cI ga 22 0 (gz z), aI cI g3 22 0 (gz (hoursF 8 (upd u1 6 (nI i2)) i2))]) (k_runS X w (met_L_hours l D cI cJ cO g3 (upd u1 6 (nI i2)) i2 8 (okb_u (by omega) b1) (upd_is _ _ _) hi2 (by decide) H.size) gL_isAhead_L_hours rfl rfl rfl 2 hdL_hours ⟨Nat.le_of_ble_eq_true rfl, Nat.le_of_ble_eq_true rfl⟩ [10] rfl rfl rfl hl.1 rfl (Nat.le_of_ble_eq_true rfl) dL_isAhead_54 ⟨Nat.le_of_ble_eq_true rfl, Nat.le_of_ble_eq_true rfl⟩) w hA [10] [0, 1, 2, 3, 4, 5, 6, 7, 8, 9] rfl rfl rfl (by decide) [0, 1, 2, 3, 4, 5, 6, 7, 8, 9, 10] rfl rfl (fun H locs w => ?_)
  obtain ⟨u2, e2⟩ : ∃ u, hoursF 8 (upd u1 6 (nI i2)) i2 = u := ⟨_, rfl⟩
  rw [e2] at w
  rw [e2, show (upd u1 6 (nI i2)) 9 = u1 9 from rfl]
  have h2 : u2 = wz2 z i1 i2 := by rw [← e2, h1]; rfl
  have b2 : okb u2 := by rw [← e2]; exact hoursF_okb 8 (okb_u (by omega) b1)
  refine lv_iadd hx hb dL_isAhead_57 ?_
  refine lv_istore (lv' := [(8, .int ((0 + (u1 9 - z 9)) + (u2 9 - u1 9))), (9, .int 1), (7, .int 0), (6, .int 0), (5, .int 0), (4, .int 0), (3, .ref g3), (0, .ref xx), (1, .ref ga), (2, .int x)]) hx hb dL_isAhead_58 hl (by decide) rfl (fun ls hl => ?_)
  refine lv_iinc (v := 2) (lv' := [(9, .int 2), (8, .int ((0 + (u1 9 - z 9)) + (u2 9 - u1 9))), (7, .int 0), (6, .int 0), (5, .int 0), (4, .int 0), (3, .ref g3), (0, .ref xx), (1, .ref ga), (2, .int x)]) hx hb dL_isAhead_60 hl (k := 1) rfl (by decide) (by decide) rfl (fun ls hl => ?_)
  refine lv_goto (tgt := 28) hx hb dL_isAhead_63 (by decide) ?_
  refine lv_iload hx hb dL_isAhead_28 (lv_at hl 0 rfl) ?_
  refine lv_iconst (v := 3) hx hb dL_isAhead_30 (by decide) ?_
  refine lv_icmp_ge (tgt := 66) hx hb dL_isAhead_31 (by decide) (fun c3 => absurd c3 (by decide)) (fun c3 => ?_)
  refine lv_aload_n hx hb dL_isAhead_34 rfl (lv_at hl 6 rfl) ?_
  refine lv_bipush (v := 6) hx hb dL_isAhead_35 (by decide) ?_
  refine lv_iload_n hx hb dL_isAhead_37 rfl (lv_at hl 9 rfl) ?_
  refine lv_iconst (v := 3) hx hb dL_isAhead_38 (by decide) ?_
  refine lv_iload hx hb dL_isAhead_39 (lv_at hl 0 rfl) ?_
  refine lv_imul hx hb dL_isAhead_41 ?_
  refine lv_ishr hx hb dL_isAhead_42 ?_
  refine lv_bipush (v := 6) hx hb dL_isAhead_43 (by decide) ?_
  refine k_ciR (k_runS X w (met_L_low l D cI cJ cO (x >>> ((3 * 2) &&& 31)) 6 (by decide) H.size) gL_isAhead_L_low rfl rfl rfl 2 hdL_low ⟨Nat.le_of_ble_eq_true rfl, Nat.le_of_ble_eq_true rfl⟩ [] rfl rfl rfl hl.1 rfl (Nat.le_of_ble_eq_true rfl) dL_isAhead_45 ⟨Nat.le_of_ble_eq_true rfl, Nat.le_of_ble_eq_true rfl⟩) w hA [] rfl (fun H locs w => ?_)
  rw [f3p]
  refine k_iast X w 10 0 rfl rfl 6 (kj := 6) rfl (by decide) (by decide) rfl (ws2 := [oX xx an ak sv b tr hf, oS an w1n pan san z, aI cI san 4 12 z, oW w1n wan z, aI cI wan 6 19 z, oP pan ran z, aI cI ran 200 25 z, oW tr twa zt, aI cI twa 6 19 zt, aI cI ga 22 0 (gz z), aI cI g3 22 0 (upd (gz u2) 6 (nI i3))]) rfl dL_isAhead_48 (fun H locs w => ?_)
  have w := w.to (show [oX xx an ak sv b tr hf, oS an w1n pan san z, aI cI san 4 12 z, oW w1n wan z, aI cI wan 6 19 z, oP pan ran z, aI cI ran 200 25 z, oW tr twa zt, aI cI twa 6 19 zt, aI cI ga 22 0 (gz z), aI cI g3 22 0 (upd (gz u2) 6 (nI i3))] = [oX xx an ak sv b tr hf, oS an w1n pan san z, aI cI san 4 12 z, oW w1n wan z, aI cI wan 6 19 z, oP pan ran z, aI cI ran 200 25 z, oW tr twa zt, aI cI twa 6 19 zt, aI cI ga 22 0 (gz z), aI cI g3 22 0 (gz (upd u2 6 (nI i3)))] by rw [show upd (gz u2) 6 (nI i3) = gz (upd u2 6 (nI i3)) from gz_u (by decide)])
  refine lv_iload hx hb dL_isAhead_49 (lv_at hl 1 rfl) ?_
  refine lv_aload_n hx hb dL_isAhead_51 rfl (lv_at hl 6 rfl) ?_
  refine lv_bipush (v := 8) hx hb dL_isAhead_52 (by decide) ?_
  refine k_ci (wr := [oX xx an ak sv b tr hf, oS an w1n pan san z, aI cI san 4 12 z, oW w1n wan z, aI cI wan 6 19 z, oP pan ran z, aI cI ran 200 25 z, oW tr twa zt, aI cI twa 6 19 zt, aI cI ga 22 0 (gz z)]) (ws2 := [oX xx an ak sv b tr hf, oS an w1n pan san z, aI cI san 4 12 z, oW w1n wan z, aI cI wan 6 19 z, oP pan ran z, aI cI ran 200 25 z, oW tr twa zt, aI cI twa 6 19 zt, aI cI ga 22 0 (gz z), aI cI g3 22 0 (gz (hoursF 8 (upd u2 6 (nI i3)) i3))]) (k_runS X w (met_L_hours l D cI cJ cO g3 (upd u2 6 (nI i3)) i3 8 (okb_u (by omega) b2) (upd_is _ _ _) hi3 (by decide) H.size) gL_isAhead_L_hours rfl rfl rfl 2 hdL_hours ⟨Nat.le_of_ble_eq_true rfl, Nat.le_of_ble_eq_true rfl⟩ [10] rfl rfl rfl hl.1 rfl (Nat.le_of_ble_eq_true rfl) dL_isAhead_54 ⟨Nat.le_of_ble_eq_true rfl, Nat.le_of_ble_eq_true rfl⟩) w hA [10] [0, 1, 2, 3, 4, 5, 6, 7, 8, 9] rfl rfl rfl (by decide) [0, 1, 2, 3, 4, 5, 6, 7, 8, 9, 10] rfl rfl (fun H locs w => ?_)
  obtain ⟨u3, e3⟩ : ∃ u, hoursF 8 (upd u2 6 (nI i3)) i3 = u := ⟨_, rfl⟩
  rw [e3] at w
  rw [e3, show (upd u2 6 (nI i3)) 9 = u2 9 from rfl]
  have h3 : u3 = wz3 z i1 i2 i3 := by rw [← e3, h2]; rfl
  have b3 : okb u3 := by rw [← e3]; exact hoursF_okb 8 (okb_u (by omega) b2)
  refine lv_iadd hx hb dL_isAhead_57 ?_
  refine lv_istore (lv' := [(8, .int (((0 + (u1 9 - z 9)) + (u2 9 - u1 9)) + (u3 9 - u2 9))), (9, .int 2), (7, .int 0), (6, .int 0), (5, .int 0), (4, .int 0), (3, .ref g3), (0, .ref xx), (1, .ref ga), (2, .int x)]) hx hb dL_isAhead_58 hl (by decide) rfl (fun ls hl => ?_)
  refine lv_iinc (v := 3) (lv' := [(9, .int 3), (8, .int (((0 + (u1 9 - z 9)) + (u2 9 - u1 9)) + (u3 9 - u2 9))), (7, .int 0), (6, .int 0), (5, .int 0), (4, .int 0), (3, .ref g3), (0, .ref xx), (1, .ref ga), (2, .int x)]) hx hb dL_isAhead_60 hl (k := 1) rfl (by decide) (by decide) rfl (fun ls hl => ?_)
  refine lv_goto (tgt := 28) hx hb dL_isAhead_63 (by decide) ?_
  refine lv_iload hx hb dL_isAhead_28 (lv_at hl 0 rfl) ?_
  refine lv_iconst (v := 3) hx hb dL_isAhead_30 (by decide) ?_
  refine lv_icmp_ge (tgt := 66) hx hb dL_isAhead_31 (by decide) (fun c4 => ?_) (fun c4 => absurd c4 (by decide))
  refine lv_iload_n hx hb dL_isAhead_66 rfl (lv_at hl 9 rfl) ?_
  refine lv_bipush (v := 6) hx hb dL_isAhead_67 (by decide) ?_
  refine k_ciR (k_runS X w (met_L_low l D cI cJ cO x 6 (by decide) H.size) gL_isAhead_L_low rfl rfl rfl 2 hdL_low ⟨Nat.le_of_ble_eq_true rfl, Nat.le_of_ble_eq_true rfl⟩ [] rfl rfl rfl hl.1 rfl (Nat.le_of_ble_eq_true rfl) dL_isAhead_69 ⟨Nat.le_of_ble_eq_true rfl, Nat.le_of_ble_eq_true rfl⟩) w hA [] rfl (fun H locs w => ?_)
  rw [f1]
  refine lv_istore (lv' := [(9, .int (nI i1)), (8, .int (((0 + (u1 9 - z 9)) + (u2 9 - u1 9)) + (u3 9 - u2 9))), (7, .int 0), (6, .int 0), (5, .int 0), (4, .int 0), (3, .ref g3), (0, .ref xx), (1, .ref ga), (2, .int x)]) hx hb dL_isAhead_72 hl (by decide) rfl (fun ls hl => ?_)
  refine lv_iload_n hx hb dL_isAhead_74 rfl (lv_at hl 9 rfl) ?_
  refine lv_iconst (v := 3) hx hb dL_isAhead_75 (by decide) ?_
  refine lv_ishr hx hb dL_isAhead_76 ?_
  refine lv_bipush (v := 6) hx hb dL_isAhead_77 (by decide) ?_
  refine k_ciR (k_runS X w (met_L_low l D cI cJ cO (x >>> (3 &&& 31)) 6 (by decide) H.size) gL_isAhead_L_low rfl rfl rfl 2 hdL_low ⟨Nat.le_of_ble_eq_true rfl, Nat.le_of_ble_eq_true rfl⟩ [] rfl rfl rfl hl.1 rfl (Nat.le_of_ble_eq_true rfl) dL_isAhead_79 ⟨Nat.le_of_ble_eq_true rfl, Nat.le_of_ble_eq_true rfl⟩) w hA [] rfl (fun H locs w => ?_)
  rw [f2]
  refine lv_istore (lv' := [(10, .int (nI i2)), (9, .int (nI i1)), (8, .int (((0 + (u1 9 - z 9)) + (u2 9 - u1 9)) + (u3 9 - u2 9))), (7, .int 0), (6, .int 0), (5, .int 0), (4, .int 0), (3, .ref g3), (0, .ref xx), (1, .ref ga), (2, .int x)]) hx hb dL_isAhead_82 hl (by decide) rfl (fun ls hl => ?_)
  refine lv_iload_n hx hb dL_isAhead_84 rfl (lv_at hl 10 rfl) ?_
  refine lv_bipush (v := 6) hx hb dL_isAhead_85 (by decide) ?_
  refine lv_ishr hx hb dL_isAhead_87 ?_
  refine lv_bipush (v := 6) hx hb dL_isAhead_88 (by decide) ?_
  refine k_ciR (k_runS X w (met_L_low l D cI cJ cO (x >>> (6 &&& 31)) 6 (by decide) H.size) gL_isAhead_L_low rfl rfl rfl 2 hdL_low ⟨Nat.le_of_ble_eq_true rfl, Nat.le_of_ble_eq_true rfl⟩ [] rfl rfl rfl hl.1 rfl (Nat.le_of_ble_eq_true rfl) dL_isAhead_90 ⟨Nat.le_of_ble_eq_true rfl, Nat.le_of_ble_eq_true rfl⟩) w hA [] rfl (fun H locs w => ?_)
  rw [f3]
  refine lv_istore (lv' := [(11, .int (nI i3)), (10, .int (nI i2)), (9, .int (nI i1)), (8, .int (((0 + (u1 9 - z 9)) + (u2 9 - u1 9)) + (u3 9 - u2 9))), (7, .int 0), (6, .int 0), (5, .int 0), (4, .int 0), (3, .ref g3), (0, .ref xx), (1, .ref ga), (2, .int x)]) hx hb dL_isAhead_93 hl (by decide) rfl (fun ls hl => ?_)
  refine lv_aload_n hx hb dL_isAhead_95 rfl (lv_at hl 9 rfl) ?_
  refine lv_iload hx hb dL_isAhead_96 (lv_at hl 2 rfl) ?_
  refine lv_iload hx hb dL_isAhead_98 (lv_at hl 1 rfl) ?_
  refine lv_iload hx hb dL_isAhead_100 (lv_at hl 0 rfl) ?_
  refine lv_iconst (v := 0) hx hb dL_isAhead_102 (by decide) ?_
  refine k_ci (wr := [aI cI ga 22 0 (gz z), aI cI g3 22 0 (gz u3)]) (ws2 := [oX xx an ak sv b tr hf, oS an w1n pan san z, aI cI san 4 12 z, oW w1n wan z, aI cI wan 6 19 z, oP pan ran z, aI cI ran 200 25 z, oW tr twa (wz3 z i1 i2 i3), aI cI twa 6 19 (wz3 z i1 i2 i3), aI cI ga 22 0 (gz z), aI cI g3 22 0 (gz u3)]) (k_runV X w (met_X5_ifWorn l D cI cJ cO xx ak b tr hf sv an w1n wan pan ran san z twa zt i1 i2 i3 0 hi1 hi2 hi3 (by decide) H.size) gL_isAhead_X5_ifWorn rfl rfl rfl 4 hdX5_ifWorn ⟨Nat.le_of_ble_eq_true rfl, Nat.le_of_ble_eq_true rfl⟩ [0, 1, 2, 3, 4, 5, 6, 7, 8] rfl rfl 0 5 rfl rfl rfl rfl hl.1 rfl (Nat.le_of_ble_eq_true rfl) dL_isAhead_103 ⟨Nat.le_of_ble_eq_true rfl, Nat.le_of_ble_eq_true rfl⟩) w hA [0, 1, 2, 3, 4, 5, 6, 7, 8] [9, 10] rfl rfl rfl (by decide) [2, 3, 4, 5, 6, 7, 8, 9, 10, 0, 1] rfl rfl (fun H locs w => ?_)
  refine lv_aload_n hx hb dL_isAhead_106 rfl (lv_at hl 8 rfl) ?_
  refine lv_bipush (v := 7) hx hb dL_isAhead_107 (by decide) ?_
  refine k_iald X w 10 0 rfl rfl 7 (kj := 7) rfl (by decide) (by decide) rfl (v := u3 7) (gz_o _ 7 (by decide)) dL_isAhead_109 ?_
  refine lv_aload_n hx hb dL_isAhead_110 rfl (lv_at hl 10 rfl) ?_
  refine lv_bipush (v := 7) hx hb dL_isAhead_111 (by decide) ?_
  refine k_iald X w 9 0 rfl rfl 7 (kj := 7) rfl (by decide) (by decide) rfl (v := z 7) (gz_o _ 7 (by decide)) dL_isAhead_113 ?_
  refine lv_isub hx hb dL_isAhead_114 ?_
  refine lv_ldc (v := 100000) hx hb hown (hts _ (List.mem_of_getElem? (i := 2) rfl)) dL_isAhead_115 ?_
  refine lv_iadd hx hb dL_isAhead_117 ?_
  refine lv_icmp_ne (tgt := 137) hx hb dL_isAhead_118 (by decide) (fun c5 => absurd ((by rw [h3]; rfl)) c5) (fun c5 => ?_)
  refine lv_aload_n hx hb dL_isAhead_121 rfl (lv_at hl 9 rfl) ?_
  refine lv_iload hx hb dL_isAhead_122 (lv_at hl 2 rfl) ?_
  refine lv_iload hx hb dL_isAhead_124 (lv_at hl 1 rfl) ?_
  refine lv_iload hx hb dL_isAhead_126 (lv_at hl 0 rfl) ?_
  refine lv_iconst (v := 1) hx hb dL_isAhead_128 (by decide) ?_
  refine k_ci (wr := [aI cI ga 22 0 (gz z), aI cI g3 22 0 (gz u3)]) (ws2 := [oX xx an ak sv b tr hf, oS an w1n pan san z, aI cI san 4 12 z, oW w1n wan z, aI cI wan 6 19 z, oP pan ran z, aI cI ran 200 25 z, oW tr twa (wz3 z i1 i2 i3), aI cI twa 6 19 (wz3 z i1 i2 i3), aI cI ga 22 0 (gz z), aI cI g3 22 0 (gz u3)]) (k_runV X w (met_X5_ifWorn l D cI cJ cO xx ak b tr hf sv an w1n wan pan ran san z twa (wz3 z i1 i2 i3) i1 i2 i3 1 (by first | assumption | omega) (by first | assumption | omega) (by first | assumption | omega) (by first | assumption | omega) H.size) gL_isAhead_X5_ifWorn rfl rfl rfl 4 hdX5_ifWorn ⟨Nat.le_of_ble_eq_true rfl, Nat.le_of_ble_eq_true rfl⟩ [0, 1, 2, 3, 4, 5, 6, 7, 8] rfl rfl 0 5 rfl rfl rfl rfl hl.1 rfl (Nat.le_of_ble_eq_true rfl) dL_isAhead_129 ⟨Nat.le_of_ble_eq_true rfl, Nat.le_of_ble_eq_true rfl⟩) w hA [0, 1, 2, 3, 4, 5, 6, 7, 8] [9, 10] rfl rfl rfl (by decide) [2, 3, 4, 5, 6, 7, 8, 9, 10, 0, 1] rfl rfl (fun H locs w => ?_)
  refine lv_iload hx hb dL_isAhead_132 (lv_at hl 3 rfl) ?_
  refine lv_icmp_eq (tgt := 139) hx hb dL_isAhead_134 (by decide) (fun c6 => ?_) (fun c6 => absurd (by rw [h1, h2, h3]; exact worn_s _ _ _ _) c6)
  refine lv_iconst (v := 0) hx hb dL_isAhead_139 (by decide) ?_
  refine lv_istore (lv' := [(12, .int 0), (11, .int (nI i3)), (10, .int (nI i2)), (9, .int (nI i1)), (8, .int (((0 + (u1 9 - z 9)) + (u2 9 - u1 9)) + (u3 9 - u2 9))), (7, .int 0), (6, .int 0), (5, .int 0), (4, .int 0), (3, .ref g3), (0, .ref xx), (1, .ref ga), (2, .int x)]) hx hb dL_isAhead_140 hl (by decide) rfl (fun ls hl => ?_)
  have lp142 : ∀ (n : Nat) (pp : Nat) (bb : Int32) (ll : Int32) (ss : Int32) (vg : Nat → Int32), pp + n = 6 → ngl z n pp bb (if pp = 0 then 2000000000 else ll) = nightN z → ss = oth z pp → ∀ (H : Heap) (locs : List Loc) (ls : Array Slot), wd D A s.heap H locs ([oX xx an ak sv b tr hf, oS an w1n pan san z, aI cI san 4 12 z, oW w1n wan z, aI cI wan 6 19 z, oP pan ran z, aI cI ran 200 25 z, oW tr twa (wz3 z i1 i2 i3), aI cI twa 6 19 (wz3 z i1 i2 i3), aI cI ga 22 0 (gz z), aI cI g3 22 0 vg]) → lv_has ls 15 [(12, .int (nI pp)), (5, .int bb), (6, .int ll), (7, .int ss), (4, .int 0), (0, .ref xx), (1, .ref ga), (2, .int x), (3, .ref g3)] → W p l e ({ frames := 7, cells := 1, slots := 22, locals := 158 }) s m [.ref xx, .ref ga, .int x].toArray below meth c H locs 1 22 Q (F0 m 142 ls []) := by
    intro n
    induction n with
    | zero =>
      intro pp bb ll ss vg hi he hss H locs ls w hl
      have he3 : bb = nightN z := he
      have hss6 : ss = oth z 6 := by rw [hss, show pp = 6 by omega]
      refine lv_iload hx hb dL_isAhead_142 (lv_at hl 0 rfl) ?_
      refine lv_bipush (v := 6) hx hb dL_isAhead_144 (by decide) ?_
      refine lv_icmp_ge (tgt := 251) hx hb dL_isAhead_146 (by decide) (fun c7 => ?_) (fun c7 => absurd (nI_le (a := 6) (b := pp) (by omega) (by omega)) c7)
      refine lv_bipush (v := 99) hx hb dL_isAhead_251 (by decide) ?_
      refine lv_istore (lv' := [(12, .int 99), (5, .int bb), (6, .int ll), (7, .int ss), (4, .int 0), (0, .ref xx), (1, .ref ga), (2, .int x), (3, .ref g3)]) hx hb dL_isAhead_253 hl (by decide) rfl (fun ls hl => ?_)
      have lp255 : ∀ (n2 : Nat) (bs2 : Int32), n2 ≤ 199 → brd ss n2 bs2 + 100 = bestN z → ∀ (H : Heap) (locs : List Loc) (ls : Array Slot), wd D A s.heap H locs ([oX xx an ak sv b tr hf, oS an w1n pan san z, aI cI san 4 12 z, oW w1n wan z, aI cI wan 6 19 z, oP pan ran z, aI cI ran 200 25 z, oW tr twa (wz3 z i1 i2 i3), aI cI twa 6 19 (wz3 z i1 i2 i3), aI cI ga 22 0 (gz z), aI cI g3 22 0 vg]) → lv_has ls 15 [(12, .int (nI n2 - 100)), (4, .int bs2), (5, .int bb), (7, .int ss), (0, .ref xx), (1, .ref ga), (2, .int x), (3, .ref g3)] → W p l e ({ frames := 7, cells := 1, slots := 22, locals := 158 }) s m [.ref xx, .ref ga, .int x].toArray below meth c H locs 1 22 Q (F0 m 255 ls []) := by
        intro n2
        induction n2 with
        | zero =>
          intro bs2 hn9 he4 H locs ls w hl
          have he5 : bs2 + 100 = bestN z := he4
          refine lv_iload hx hb dL_isAhead_255 (lv_at hl 0 rfl) ?_
          refine lv_bipush (v := (-99)) hx hb dL_isAhead_257 (by decide) ?_
          refine lv_icmp_lt (tgt := 357) hx hb dL_isAhead_259 (by decide) (fun c8 => ?_) (fun c8 => absurd (by decide) c8)
          refine lv_aload_n hx hb dL_isAhead_357 rfl (lv_at hl 4 rfl) ?_
          refine k_ci (wr := [aI cI ga 22 0 (gz z), aI cI g3 22 0 vg]) (ws2 := [oX xx an ak sv b tr hf, oS an w1n pan san z, aI cI san 4 12 z, oW w1n wan z, aI cI wan 6 19 z, oP pan ran z, aI cI ran 200 25 z, oW tr twa (ntr z (wz3 z i1 i2 i3) 6), aI cI twa 6 19 (ntr z (wz3 z i1 i2 i3) 6), aI cI ga 22 0 (gz z), aI cI g3 22 0 vg]) (k_runV X w (met_X5_nightPose l D cI cJ cO xx ak b tr hf sv an w1n wan pan ran san z twa (wz3 z i1 i2 i3)  H.size) gL_isAhead_X5_nightPose rfl rfl rfl 0 hdX5_nightPose ⟨Nat.le_of_ble_eq_true rfl, Nat.le_of_ble_eq_true rfl⟩ [0, 1, 2, 3, 4, 5, 6, 7, 8] rfl rfl 0 5 rfl rfl rfl rfl hl.1 rfl (Nat.le_of_ble_eq_true rfl) dL_isAhead_358 ⟨Nat.le_of_ble_eq_true rfl, Nat.le_of_ble_eq_true rfl⟩) w hA [0, 1, 2, 3, 4, 5, 6, 7, 8] [9, 10] rfl rfl rfl (by decide) [2, 3, 4, 5, 6, 7, 8, 9, 10, 0, 1] rfl rfl (fun H locs w => ?_)
          refine lv_iload hx hb dL_isAhead_361 (lv_at hl 2 rfl) ?_
          refine lv_icmp_ne (tgt := 382) hx hb dL_isAhead_363 (by decide) (fun c9 => absurd (he3.symm) c9) (fun c9 => ?_)
          refine lv_aload_n hx hb dL_isAhead_366 rfl (lv_at hl 4 rfl) ?_
          refine k_ciR (k_runV X w (met_X5_bestRegulator l D cI cJ cO xx ak b tr hf sv an w1n wan pan ran san z  H.size) gL_isAhead_X5_bestRegulator rfl rfl rfl 0 hdX5_bestRegulator ⟨Nat.le_of_ble_eq_true rfl, Nat.le_of_ble_eq_true rfl⟩ [0, 1, 2, 3, 4, 5, 6] rfl rfl 0 5 rfl rfl rfl rfl hl.1 rfl (Nat.le_of_ble_eq_true rfl) dL_isAhead_367 ⟨Nat.le_of_ble_eq_true rfl, Nat.le_of_ble_eq_true rfl⟩) w hA [0, 1, 2, 3, 4, 5, 6] rfl (fun H locs w => ?_)
          refine lv_iload hx hb dL_isAhead_370 (lv_at hl 1 rfl) ?_
          refine lv_bipush (v := 100) hx hb dL_isAhead_372 (by decide) ?_
          refine lv_iadd hx hb dL_isAhead_374 ?_
          refine lv_icmp_ne (tgt := 382) hx hb dL_isAhead_375 (by decide) (fun c10 => absurd (he5.symm) c10) (fun c10 => ?_)
          refine lv_iconst (v := 1) hx hb dL_isAhead_378 (by decide) ?_
          refine lv_goto (tgt := 383) hx hb dL_isAhead_379 (by decide) ?_
          have w := w.sub (ws2 := [oX xx an ak sv b tr hf, oS an w1n pan san z, aI cI san 4 12 z, oW w1n wan z, aI cI wan 6 19 z, oP pan ran z, aI cI ran 200 25 z, oW tr twa (ntr z (wz3 z i1 i2 i3) 6), aI cI twa 6 19 (ntr z (wz3 z i1 i2 i3) 6), aI cI ga 22 0 (gz z)]) [0, 1, 2, 3, 4, 5, 6, 7, 8, 9] rfl rfl rfl
          have ez : ntr z (wz3 z i1 i2 i3) 6 = ntr z zt 6 := by exact ntr_6 _ _ _
          rw [ez] at w
          exact fin _ _ _ _ _ _ _ w rfl dL_isAhead_383 (Nat.le_of_ble_eq_true rfl) (Nat.le_of_ble_eq_true rfl)
        | succ n2 ih2 =>
          intro bs2 hn9 he4 H locs ls w hl
          rw [r100] at hl
          refine lv_iload hx hb dL_isAhead_255 (lv_at hl 0 rfl) ?_
          refine lv_bipush (v := (-99)) hx hb dL_isAhead_257 (by decide) ?_
          refine lv_icmp_lt (tgt := 357) hx hb dL_isAhead_259 (by decide) (fun c11 => absurd c11 (r_ge (by omega))) (fun c11 => ?_)
          refine lv_iload hx hb dL_isAhead_262 (lv_at hl 3 rfl) ?_
          refine lv_bipush (v := 6) hx hb dL_isAhead_264 (by decide) ?_
          refine lv_iload hx hb dL_isAhead_266 (lv_at hl 0 rfl) ?_
          refine lv_imul hx hb dL_isAhead_268 ?_
          refine lv_iadd hx hb dL_isAhead_269 ?_
          have K : ∀ y13 : Int32, y13 = am (ss + 6 * (nI n2 - 99)) → W p l e ({ frames := 7, cells := 1, slots := 22, locals := 158 }) s m [.ref xx, .ref ga, .int x].toArray below meth c H locs 1 22 Q (F0 m 293 ls [.int y13]) := by
            intro y13 ey13
            subst ey13
            refine lv_istore (lv' := [(13, .int (am (ss + 6 * (nI n2 - 99)))), (12, .int (nI n2 - 99)), (4, .int bs2), (5, .int bb), (7, .int ss), (0, .ref xx), (1, .ref ga), (2, .int x), (3, .ref g3)]) hx hb dL_isAhead_293 hl (by decide) rfl (fun ls hl => ?_)
            refine lv_iload hx hb dL_isAhead_295 (lv_at hl 4 rfl) ?_
            refine lv_bipush (v := 6) hx hb dL_isAhead_297 (by decide) ?_
            refine lv_iload hx hb dL_isAhead_299 (lv_at hl 2 rfl) ?_
            refine lv_imul hx hb dL_isAhead_301 ?_
            refine lv_iadd hx hb dL_isAhead_302 ?_
            have K : ∀ y15 : Int32, y15 = am (ss + 6 * bs2) → W p l e ({ frames := 7, cells := 1, slots := 22, locals := 158 }) s m [.ref xx, .ref ga, .int x].toArray below meth c H locs 1 22 Q (F0 m 326 ls [.int y15]) := by
              intro y15 ey15
              subst ey15
              refine lv_istore (lv' := [(14, .int (am (ss + 6 * bs2))), (13, .int (am (ss + 6 * (nI n2 - 99)))), (12, .int (nI n2 - 99)), (4, .int bs2), (5, .int bb), (7, .int ss), (0, .ref xx), (1, .ref ga), (2, .int x), (3, .ref g3)]) hx hb dL_isAhead_326 hl (by decide) rfl (fun ls hl => ?_)
              refine lv_iload hx hb dL_isAhead_328 (lv_at hl 2 rfl) ?_
              refine lv_bipush (v := 99) hx hb dL_isAhead_330 (by decide) ?_
              refine lv_icmp_eq (tgt := 342) hx hb dL_isAhead_332 (by decide) (fun c16 => ?_) (fun c16 => ?_)
              · refine lv_iload hx hb dL_isAhead_342 (lv_at hl 2 rfl) ?_
                refine lv_goto (tgt := 349) hx hb dL_isAhead_344 (by decide) ?_
                refine lv_istore (lv' := [(4, .int (nI n2 - 99)), (14, .int (am (ss + 6 * bs2))), (13, .int (am (ss + 6 * (nI n2 - 99)))), (12, .int (nI n2 - 99)), (5, .int bb), (7, .int ss), (0, .ref xx), (1, .ref ga), (2, .int x), (3, .ref g3)]) hx hb dL_isAhead_349 hl (by decide) rfl (fun ls hl => ?_)
                refine lv_iinc (v := nI n2 - 100) (lv' := [(12, .int (nI n2 - 100)), (4, .int (nI n2 - 99)), (14, .int (am (ss + 6 * bs2))), (13, .int (am (ss + 6 * (nI n2 - 99)))), (5, .int bb), (7, .int ss), (0, .ref xx), (1, .ref ga), (2, .int x), (3, .ref g3)]) hx hb dL_isAhead_351 hl (k := 3) rfl (r99m _) (by decide) rfl (fun ls hl => ?_)
                refine lv_goto (tgt := 255) hx hb dL_isAhead_354 (by decide) ?_
                exact ih2 (nI n2 - 99) (by omega) ((congrArg (fun t => t + 100) (brd_1 (by omega) c16)).symm.trans he4) _ _ _ w (lv_sub hl [0, 1, 4, 5, 6, 7, 8, 9] rfl)
              · refine lv_iload hx hb dL_isAhead_335 (lv_at hl 1 rfl) ?_
                refine lv_iload hx hb dL_isAhead_337 (lv_at hl 0 rfl) ?_
                refine lv_icmp_gt (tgt := 347) hx hb dL_isAhead_339 (by decide) (fun c17 => ?_) (fun c17 => ?_)
                · refine lv_iload hx hb dL_isAhead_347 (lv_at hl 3 rfl) ?_
                  refine lv_istore (lv' := [(4, .int bs2), (14, .int (am (ss + 6 * bs2))), (13, .int (am (ss + 6 * (nI n2 - 99)))), (12, .int (nI n2 - 99)), (5, .int bb), (7, .int ss), (0, .ref xx), (1, .ref ga), (2, .int x), (3, .ref g3)]) hx hb dL_isAhead_349 hl (by decide) rfl (fun ls hl => ?_)
                  refine lv_iinc (v := nI n2 - 100) (lv' := [(12, .int (nI n2 - 100)), (4, .int bs2), (14, .int (am (ss + 6 * bs2))), (13, .int (am (ss + 6 * (nI n2 - 99)))), (5, .int bb), (7, .int ss), (0, .ref xx), (1, .ref ga), (2, .int x), (3, .ref g3)]) hx hb dL_isAhead_351 hl (k := 3) rfl (r99m _) (by decide) rfl (fun ls hl => ?_)
                  refine lv_goto (tgt := 255) hx hb dL_isAhead_354 (by decide) ?_
                  exact ih2 bs2 (by omega) ((congrArg (fun t => t + 100) (brd_3 (by omega) c16 c17)).symm.trans he4) _ _ _ w (lv_sub hl [0, 1, 4, 5, 6, 7, 8, 9] rfl)
                · refine lv_iload hx hb dL_isAhead_342 (lv_at hl 2 rfl) ?_
                  refine lv_goto (tgt := 349) hx hb dL_isAhead_344 (by decide) ?_
                  refine lv_istore (lv' := [(4, .int (nI n2 - 99)), (14, .int (am (ss + 6 * bs2))), (13, .int (am (ss + 6 * (nI n2 - 99)))), (12, .int (nI n2 - 99)), (5, .int bb), (7, .int ss), (0, .ref xx), (1, .ref ga), (2, .int x), (3, .ref g3)]) hx hb dL_isAhead_349 hl (by decide) rfl (fun ls hl => ?_)
                  refine lv_iinc (v := nI n2 - 100) (lv' := [(12, .int (nI n2 - 100)), (4, .int (nI n2 - 99)), (14, .int (am (ss + 6 * bs2))), (13, .int (am (ss + 6 * (nI n2 - 99)))), (5, .int bb), (7, .int ss), (0, .ref xx), (1, .ref ga), (2, .int x), (3, .ref g3)]) hx hb dL_isAhead_351 hl (k := 3) rfl (r99m _) (by decide) rfl (fun ls hl => ?_)
                  refine lv_goto (tgt := 255) hx hb dL_isAhead_354 (by decide) ?_
                  exact ih2 (nI n2 - 99) (by omega) ((congrArg (fun t => t + 100) (brd_2 (by omega) c16 c17)).symm.trans he4) _ _ _ w (lv_sub hl [0, 1, 4, 5, 6, 7, 8, 9] rfl)
            refine lv_if_ge (tgt := 318) hx hb dL_isAhead_303 (by decide) (fun c14 => ?_) (fun c14 => ?_)
            · refine lv_iload hx hb dL_isAhead_318 (lv_at hl 4 rfl) ?_
              refine lv_bipush (v := 6) hx hb dL_isAhead_320 (by decide) ?_
              refine lv_iload hx hb dL_isAhead_322 (lv_at hl 2 rfl) ?_
              refine lv_imul hx hb dL_isAhead_324 ?_
              refine lv_iadd hx hb dL_isAhead_325 ?_
              exact K _ (lam_p c14)
            · refine lv_iload hx hb dL_isAhead_306 (lv_at hl 4 rfl) ?_
              refine lv_ineg hx hb dL_isAhead_308 ?_
              refine lv_bipush (v := 6) hx hb dL_isAhead_309 (by decide) ?_
              refine lv_iload hx hb dL_isAhead_311 (lv_at hl 2 rfl) ?_
              refine lv_imul hx hb dL_isAhead_313 ?_
              refine lv_isub hx hb dL_isAhead_314 ?_
              refine lv_goto (tgt := 326) hx hb dL_isAhead_315 (by decide) ?_
              exact K _ (lam_m c14)
          refine lv_if_ge (tgt := 285) hx hb dL_isAhead_270 (by decide) (fun c12 => ?_) (fun c12 => ?_)
          · refine lv_iload hx hb dL_isAhead_285 (lv_at hl 3 rfl) ?_
            refine lv_bipush (v := 6) hx hb dL_isAhead_287 (by decide) ?_
            refine lv_iload hx hb dL_isAhead_289 (lv_at hl 0 rfl) ?_
            refine lv_imul hx hb dL_isAhead_291 ?_
            refine lv_iadd hx hb dL_isAhead_292 ?_
            exact K _ (lam_p c12)
          · refine lv_iload hx hb dL_isAhead_273 (lv_at hl 3 rfl) ?_
            refine lv_ineg hx hb dL_isAhead_275 ?_
            refine lv_bipush (v := 6) hx hb dL_isAhead_276 (by decide) ?_
            refine lv_iload hx hb dL_isAhead_278 (lv_at hl 0 rfl) ?_
            refine lv_imul hx hb dL_isAhead_280 ?_
            refine lv_isub hx hb dL_isAhead_281 ?_
            refine lv_goto (tgt := 293) hx hb dL_isAhead_282 (by decide) ?_
            exact K _ (lam_m c12)
      exact lp255 199 0 (by decide) (by rw [hss6]; exact brd_is _ _) _ _ _ w (lv_sub hl [0, 4, 1, 3, 5, 6, 7, 8] rfl)
    | succ n ih =>
      intro pp bb ll ss vg hi he hss H locs ls w hl
      refine lv_iload hx hb dL_isAhead_142 (lv_at hl 0 rfl) ?_
      refine lv_bipush (v := 6) hx hb dL_isAhead_144 (by decide) ?_
      refine lv_icmp_ge (tgt := 251) hx hb dL_isAhead_146 (by decide) (fun c8 => absurd c8 (nI_ge (a := pp) (b := 6) (by omega) (by decide))) (fun c8 => ?_)
      refine lv_aload_n hx hb dL_isAhead_149 rfl (lv_at hl 6 rfl) ?_
      refine lv_aload_n hx hb dL_isAhead_150 rfl (lv_at hl 8 rfl) ?_
      refine k_cv (wr := [oX xx an ak sv b tr hf, oS an w1n pan san z, aI cI san 4 12 z, oW w1n wan z, aI cI wan 6 19 z, oP pan ran z, aI cI ran 200 25 z, oW tr twa (wz3 z i1 i2 i3), aI cI twa 6 19 (wz3 z i1 i2 i3)]) (ws2 := [oX xx an ak sv b tr hf, oS an w1n pan san z, aI cI san 4 12 z, oW w1n wan z, aI cI wan 6 19 z, oP pan ran z, aI cI ran 200 25 z, oW tr twa (wz3 z i1 i2 i3), aI cI twa 6 19 (wz3 z i1 i2 i3), aI cI ga 22 0 (gz z), aI cI g3 22 0 (gz z)]) (k_runS X w (met_L_copy l D cI cJ cO ga g3 (gz z) vg  H.size) gL_isAhead_L_copy rfl rfl rfl 2 hdL_copy ⟨Nat.le_of_ble_eq_true rfl, Nat.le_of_ble_eq_true rfl⟩ [9, 10] rfl rfl rfl hl.1 rfl (Nat.le_of_ble_eq_true rfl) dL_isAhead_151 ⟨Nat.le_of_ble_eq_true rfl, Nat.le_of_ble_eq_true rfl⟩) w hA [9, 10] [0, 1, 2, 3, 4, 5, 6, 7, 8] rfl rfl rfl (by decide) [0, 1, 2, 3, 4, 5, 6, 7, 8, 9, 10] rfl rfl (fun H locs w => ?_)
      refine lv_aload_n hx hb dL_isAhead_154 rfl (lv_at hl 8 rfl) ?_
      refine lv_bipush (v := 6) hx hb dL_isAhead_155 (by decide) ?_
      refine lv_iload hx hb dL_isAhead_157 (lv_at hl 0 rfl) ?_
      refine k_iast X w 10 0 rfl rfl 6 (kj := 6) rfl (by decide) (by decide) rfl (ws2 := [oX xx an ak sv b tr hf, oS an w1n pan san z, aI cI san 4 12 z, oW w1n wan z, aI cI wan 6 19 z, oP pan ran z, aI cI ran 200 25 z, oW tr twa (wz3 z i1 i2 i3), aI cI twa 6 19 (wz3 z i1 i2 i3), aI cI ga 22 0 (gz z), aI cI g3 22 0 (upd (gz z) 6 (nI pp))]) rfl dL_isAhead_159 (fun H locs w => ?_)
      have w := w.to (show [oX xx an ak sv b tr hf, oS an w1n pan san z, aI cI san 4 12 z, oW w1n wan z, aI cI wan 6 19 z, oP pan ran z, aI cI ran 200 25 z, oW tr twa (wz3 z i1 i2 i3), aI cI twa 6 19 (wz3 z i1 i2 i3), aI cI ga 22 0 (gz z), aI cI g3 22 0 (upd (gz z) 6 (nI pp))] = [oX xx an ak sv b tr hf, oS an w1n pan san z, aI cI san 4 12 z, oW w1n wan z, aI cI wan 6 19 z, oP pan ran z, aI cI ran 200 25 z, oW tr twa (wz3 z i1 i2 i3), aI cI twa 6 19 (wz3 z i1 i2 i3), aI cI ga 22 0 (gz z), aI cI g3 22 0 (gz (upd z 6 (nI pp)))] by rw [show upd (gz z) 6 (nI pp) = gz (upd z 6 (nI pp)) from gz_u (by decide)])
      refine lv_aload_n hx hb dL_isAhead_160 rfl (lv_at hl 8 rfl) ?_
      refine lv_bipush (v := 8) hx hb dL_isAhead_161 (by decide) ?_
      refine k_ci (wr := [oX xx an ak sv b tr hf, oS an w1n pan san z, aI cI san 4 12 z, oW w1n wan z, aI cI wan 6 19 z, oP pan ran z, aI cI ran 200 25 z, oW tr twa (wz3 z i1 i2 i3), aI cI twa 6 19 (wz3 z i1 i2 i3), aI cI ga 22 0 (gz z)]) (ws2 := [oX xx an ak sv b tr hf, oS an w1n pan san z, aI cI san 4 12 z, oW w1n wan z, aI cI wan 6 19 z, oP pan ran z, aI cI ran 200 25 z, oW tr twa (wz3 z i1 i2 i3), aI cI twa 6 19 (wz3 z i1 i2 i3), aI cI ga 22 0 (gz z), aI cI g3 22 0 (gz (hoursF 8 (upd z 6 (nI pp)) pp))]) (k_runS X w (met_L_hours l D cI cJ cO g3 (upd z 6 (nI pp)) pp 8 (okb_u (by omega) b0) (upd_is _ _ _) (by omega) (by decide) H.size) gL_isAhead_L_hours rfl rfl rfl 2 hdL_hours ⟨Nat.le_of_ble_eq_true rfl, Nat.le_of_ble_eq_true rfl⟩ [10] rfl rfl rfl hl.1 rfl (Nat.le_of_ble_eq_true rfl) dL_isAhead_163 ⟨Nat.le_of_ble_eq_true rfl, Nat.le_of_ble_eq_true rfl⟩) w hA [10] [0, 1, 2, 3, 4, 5, 6, 7, 8, 9] rfl rfl rfl (by decide) [0, 1, 2, 3, 4, 5, 6, 7, 8, 9, 10] rfl rfl (fun H locs w => ?_)
      obtain ⟨u, eu⟩ : ∃ u, hoursF 8 (upd z 6 (nI pp)) pp = u := ⟨_, rfl⟩
      rw [eu] at w
      have eu2 : wz1 z pp = u := eu
      refine lv_pop hx hb dL_isAhead_166 rfl ?_
      refine lv_aload_n hx hb dL_isAhead_167 rfl (lv_at hl 8 rfl) ?_
      refine lv_bipush (v := 7) hx hb dL_isAhead_168 (by decide) ?_
      refine k_iald X w 10 0 rfl rfl 7 (kj := 7) rfl (by decide) (by decide) rfl (v := u 7) (gz_o _ 7 (by decide)) dL_isAhead_170 ?_
      have K : ∀ y10 : Int32, y10 = am (u 7) → W p l e ({ frames := 7, cells := 1, slots := 22, locals := 158 }) s m [.ref xx, .ref ga, .int x].toArray below meth c H locs 1 22 Q (F0 m 186 ls [.int y10]) := by
        intro y10 ey10
        subst ey10
        refine lv_istore (lv' := [(13, .int (am (u 7))), (12, .int (nI pp)), (5, .int bb), (6, .int ll), (7, .int ss), (4, .int 0), (0, .ref xx), (1, .ref ga), (2, .int x), (3, .ref g3)]) hx hb dL_isAhead_186 hl (by decide) rfl (fun ls hl => ?_)
        refine lv_iload hx hb dL_isAhead_188 (lv_at hl 1 rfl) ?_
        refine lv_if_eq (tgt := 200) hx hb dL_isAhead_190 (by decide) (fun c11 => ?_) (fun c11 => ?_)
        · refine lv_iload hx hb dL_isAhead_200 (lv_at hl 1 rfl) ?_
          refine lv_goto (tgt := 207) hx hb dL_isAhead_202 (by decide) ?_
          refine lv_istore (lv' := [(5, .int (nI pp)), (13, .int (am (u 7))), (12, .int (nI pp)), (6, .int ll), (7, .int ss), (4, .int 0), (0, .ref xx), (1, .ref ga), (2, .int x), (3, .ref g3)]) hx hb dL_isAhead_207 hl (by decide) rfl (fun ls hl => ?_)
          refine lv_iload hx hb dL_isAhead_209 (lv_at hl 2 rfl) ?_
          refine lv_if_eq (tgt := 221) hx hb dL_isAhead_211 (by decide) (fun c12 => ?_) (fun c12 => absurd c11 c12)
          refine lv_iload hx hb dL_isAhead_221 (lv_at hl 1 rfl) ?_
          refine lv_goto (tgt := 228) hx hb dL_isAhead_223 (by decide) ?_
          refine lv_istore (lv' := [(6, .int (am (u 7))), (5, .int (nI pp)), (13, .int (am (u 7))), (12, .int (nI pp)), (7, .int ss), (4, .int 0), (0, .ref xx), (1, .ref ga), (2, .int x), (3, .ref g3)]) hx hb dL_isAhead_228 hl (by decide) rfl (fun ls hl => ?_)
          refine lv_iload hx hb dL_isAhead_230 (lv_at hl 4 rfl) ?_
          refine lv_aload_n hx hb dL_isAhead_232 rfl (lv_at hl 7 rfl) ?_
          refine lv_iload hx hb dL_isAhead_233 (lv_at hl 3 rfl) ?_
          refine k_ciR (k_runS X w (met_L_rate l D cI cJ cO ga z pp b0 (by omega) H.size) gL_isAhead_L_rate rfl rfl rfl 2 hdL_rate ⟨Nat.le_of_ble_eq_true rfl, Nat.le_of_ble_eq_true rfl⟩ [9] rfl rfl rfl hl.1 rfl (Nat.le_of_ble_eq_true rfl) dL_isAhead_235 ⟨Nat.le_of_ble_eq_true rfl, Nat.le_of_ble_eq_true rfl⟩) w hA [9] rfl (fun H locs w => ?_)
          refine lv_aload_n hx hb dL_isAhead_238 rfl (lv_at hl 7 rfl) ?_
          refine lv_iconst (v := 2) hx hb dL_isAhead_239 (by decide) ?_
          refine k_iald X w 9 0 rfl rfl 2 (kj := 2) rfl (by decide) (by decide) rfl (v := z 2) (gz_o _ 2 (by decide)) dL_isAhead_240 ?_
          refine lv_isub hx hb dL_isAhead_241 ?_
          refine lv_iadd hx hb dL_isAhead_242 ?_
          refine lv_istore (lv' := [(7, .int (ss + ((rate z pp) - (z 2)))), (6, .int (am (u 7))), (5, .int (nI pp)), (13, .int (am (u 7))), (12, .int (nI pp)), (4, .int 0), (0, .ref xx), (1, .ref ga), (2, .int x), (3, .ref g3)]) hx hb dL_isAhead_243 hl (by decide) rfl (fun ls hl => ?_)
          refine lv_iinc (v := nI (pp + 1)) (lv' := [(12, .int (nI (pp + 1))), (7, .int (ss + ((rate z pp) - (z 2)))), (6, .int (am (u 7))), (5, .int (nI pp)), (13, .int (am (u 7))), (4, .int 0), (0, .ref xx), (1, .ref ga), (2, .int x), (3, .ref g3)]) hx hb dL_isAhead_245 hl (k := 4) rfl (nI_1 _) (by decide) rfl (fun ls hl => ?_)
          refine lv_goto (tgt := 142) hx hb dL_isAhead_248 (by decide) ?_
          exact ih (pp + 1) (nI pp) (am (u 7)) (ss + ((rate z pp) - (z 2))) (gz u) (by omega) (night_tu eu2 (nI_z (by omega) c11) hE he) (by rw [hss]; rfl) _ _ _ w (lv_sub hl [0, 3, 2, 1, 5, 6, 7, 8, 9] rfl)
        · refine lv_iload hx hb dL_isAhead_193 (lv_at hl 0 rfl) ?_
          refine lv_iload hx hb dL_isAhead_195 (lv_at hl 3 rfl) ?_
          refine lv_icmp_ge (tgt := 205) hx hb dL_isAhead_197 (by decide) (fun c13 => ?_) (fun c13 => ?_)
          · refine lv_iload hx hb dL_isAhead_205 (lv_at hl 2 rfl) ?_
            refine lv_istore (lv' := [(5, .int bb), (13, .int (am (u 7))), (12, .int (nI pp)), (6, .int ll), (7, .int ss), (4, .int 0), (0, .ref xx), (1, .ref ga), (2, .int x), (3, .ref g3)]) hx hb dL_isAhead_207 hl (by decide) rfl (fun ls hl => ?_)
            refine lv_iload hx hb dL_isAhead_209 (lv_at hl 2 rfl) ?_
            refine lv_if_eq (tgt := 221) hx hb dL_isAhead_211 (by decide) (fun c14 => absurd c14 c11) (fun c14 => ?_)
            refine lv_iload hx hb dL_isAhead_214 (lv_at hl 1 rfl) ?_
            refine lv_iload hx hb dL_isAhead_216 (lv_at hl 3 rfl) ?_
            refine lv_icmp_ge (tgt := 226) hx hb dL_isAhead_218 (by decide) (fun c15 => ?_) (fun c15 => absurd c13 c15)
            refine lv_iload hx hb dL_isAhead_226 (lv_at hl 3 rfl) ?_
            refine lv_istore (lv' := [(6, .int ll), (5, .int bb), (13, .int (am (u 7))), (12, .int (nI pp)), (7, .int ss), (4, .int 0), (0, .ref xx), (1, .ref ga), (2, .int x), (3, .ref g3)]) hx hb dL_isAhead_228 hl (by decide) rfl (fun ls hl => ?_)
            refine lv_iload hx hb dL_isAhead_230 (lv_at hl 4 rfl) ?_
            refine lv_aload_n hx hb dL_isAhead_232 rfl (lv_at hl 7 rfl) ?_
            refine lv_iload hx hb dL_isAhead_233 (lv_at hl 3 rfl) ?_
            refine k_ciR (k_runS X w (met_L_rate l D cI cJ cO ga z pp b0 (by omega) H.size) gL_isAhead_L_rate rfl rfl rfl 2 hdL_rate ⟨Nat.le_of_ble_eq_true rfl, Nat.le_of_ble_eq_true rfl⟩ [9] rfl rfl rfl hl.1 rfl (Nat.le_of_ble_eq_true rfl) dL_isAhead_235 ⟨Nat.le_of_ble_eq_true rfl, Nat.le_of_ble_eq_true rfl⟩) w hA [9] rfl (fun H locs w => ?_)
            refine lv_aload_n hx hb dL_isAhead_238 rfl (lv_at hl 7 rfl) ?_
            refine lv_iconst (v := 2) hx hb dL_isAhead_239 (by decide) ?_
            refine k_iald X w 9 0 rfl rfl 2 (kj := 2) rfl (by decide) (by decide) rfl (v := z 2) (gz_o _ 2 (by decide)) dL_isAhead_240 ?_
            refine lv_isub hx hb dL_isAhead_241 ?_
            refine lv_iadd hx hb dL_isAhead_242 ?_
            refine lv_istore (lv' := [(7, .int (ss + ((rate z pp) - (z 2)))), (6, .int ll), (5, .int bb), (13, .int (am (u 7))), (12, .int (nI pp)), (4, .int 0), (0, .ref xx), (1, .ref ga), (2, .int x), (3, .ref g3)]) hx hb dL_isAhead_243 hl (by decide) rfl (fun ls hl => ?_)
            refine lv_iinc (v := nI (pp + 1)) (lv' := [(12, .int (nI (pp + 1))), (7, .int (ss + ((rate z pp) - (z 2)))), (6, .int ll), (5, .int bb), (13, .int (am (u 7))), (4, .int 0), (0, .ref xx), (1, .ref ga), (2, .int x), (3, .ref g3)]) hx hb dL_isAhead_245 hl (k := 4) rfl (nI_1 _) (by decide) rfl (fun ls hl => ?_)
            refine lv_goto (tgt := 142) hx hb dL_isAhead_248 (by decide) ?_
            exact ih (pp + 1) bb ll (ss + ((rate z pp) - (z 2))) (gz u) (by omega) (night_ku eu2 (fun h => c11 (by rw [h]; rfl)) c13 he) (by rw [hss]; rfl) _ _ _ w (lv_sub hl [0, 3, 2, 1, 5, 6, 7, 8, 9] rfl)
          · refine lv_iload hx hb dL_isAhead_200 (lv_at hl 1 rfl) ?_
            refine lv_goto (tgt := 207) hx hb dL_isAhead_202 (by decide) ?_
            refine lv_istore (lv' := [(5, .int (nI pp)), (13, .int (am (u 7))), (12, .int (nI pp)), (6, .int ll), (7, .int ss), (4, .int 0), (0, .ref xx), (1, .ref ga), (2, .int x), (3, .ref g3)]) hx hb dL_isAhead_207 hl (by decide) rfl (fun ls hl => ?_)
            refine lv_iload hx hb dL_isAhead_209 (lv_at hl 2 rfl) ?_
            refine lv_if_eq (tgt := 221) hx hb dL_isAhead_211 (by decide) (fun c16 => absurd c16 c11) (fun c16 => ?_)
            refine lv_iload hx hb dL_isAhead_214 (lv_at hl 1 rfl) ?_
            refine lv_iload hx hb dL_isAhead_216 (lv_at hl 3 rfl) ?_
            refine lv_icmp_ge (tgt := 226) hx hb dL_isAhead_218 (by decide) (fun c17 => absurd c17 c13) (fun c17 => ?_)
            refine lv_iload hx hb dL_isAhead_221 (lv_at hl 1 rfl) ?_
            refine lv_goto (tgt := 228) hx hb dL_isAhead_223 (by decide) ?_
            refine lv_istore (lv' := [(6, .int (am (u 7))), (5, .int (nI pp)), (13, .int (am (u 7))), (12, .int (nI pp)), (7, .int ss), (4, .int 0), (0, .ref xx), (1, .ref ga), (2, .int x), (3, .ref g3)]) hx hb dL_isAhead_228 hl (by decide) rfl (fun ls hl => ?_)
            refine lv_iload hx hb dL_isAhead_230 (lv_at hl 4 rfl) ?_
            refine lv_aload_n hx hb dL_isAhead_232 rfl (lv_at hl 7 rfl) ?_
            refine lv_iload hx hb dL_isAhead_233 (lv_at hl 3 rfl) ?_
            refine k_ciR (k_runS X w (met_L_rate l D cI cJ cO ga z pp b0 (by omega) H.size) gL_isAhead_L_rate rfl rfl rfl 2 hdL_rate ⟨Nat.le_of_ble_eq_true rfl, Nat.le_of_ble_eq_true rfl⟩ [9] rfl rfl rfl hl.1 rfl (Nat.le_of_ble_eq_true rfl) dL_isAhead_235 ⟨Nat.le_of_ble_eq_true rfl, Nat.le_of_ble_eq_true rfl⟩) w hA [9] rfl (fun H locs w => ?_)
            refine lv_aload_n hx hb dL_isAhead_238 rfl (lv_at hl 7 rfl) ?_
            refine lv_iconst (v := 2) hx hb dL_isAhead_239 (by decide) ?_
            refine k_iald X w 9 0 rfl rfl 2 (kj := 2) rfl (by decide) (by decide) rfl (v := z 2) (gz_o _ 2 (by decide)) dL_isAhead_240 ?_
            refine lv_isub hx hb dL_isAhead_241 ?_
            refine lv_iadd hx hb dL_isAhead_242 ?_
            refine lv_istore (lv' := [(7, .int (ss + ((rate z pp) - (z 2)))), (6, .int (am (u 7))), (5, .int (nI pp)), (13, .int (am (u 7))), (12, .int (nI pp)), (4, .int 0), (0, .ref xx), (1, .ref ga), (2, .int x), (3, .ref g3)]) hx hb dL_isAhead_243 hl (by decide) rfl (fun ls hl => ?_)
            refine lv_iinc (v := nI (pp + 1)) (lv' := [(12, .int (nI (pp + 1))), (7, .int (ss + ((rate z pp) - (z 2)))), (6, .int (am (u 7))), (5, .int (nI pp)), (13, .int (am (u 7))), (4, .int 0), (0, .ref xx), (1, .ref ga), (2, .int x), (3, .ref g3)]) hx hb dL_isAhead_245 hl (k := 4) rfl (nI_1 _) (by decide) rfl (fun ls hl => ?_)
            refine lv_goto (tgt := 142) hx hb dL_isAhead_248 (by decide) ?_
            exact ih (pp + 1) (nI pp) (am (u 7)) (ss + ((rate z pp) - (z 2))) (gz u) (by omega) (night_su eu2 (fun h => c11 (by rw [h]; rfl)) c13 he) (by rw [hss]; rfl) _ _ _ w (lv_sub hl [0, 3, 2, 1, 5, 6, 7, 8, 9] rfl)
      refine lv_if_ge (tgt := 182) hx hb dL_isAhead_171 (by decide) (fun c9 => ?_) (fun c9 => ?_)
      · refine lv_aload_n hx hb dL_isAhead_182 rfl (lv_at hl 8 rfl) ?_
        refine lv_bipush (v := 7) hx hb dL_isAhead_183 (by decide) ?_
        refine k_iald X w 10 0 rfl rfl 7 (kj := 7) rfl (by decide) (by decide) rfl (v := u 7) (gz_o _ 7 (by decide)) dL_isAhead_185 ?_
        exact K _ (lam_p c9)
      · refine lv_aload_n hx hb dL_isAhead_174 rfl (lv_at hl 8 rfl) ?_
        refine lv_bipush (v := 7) hx hb dL_isAhead_175 (by decide) ?_
        refine k_iald X w 10 0 rfl rfl 7 (kj := 7) rfl (by decide) (by decide) rfl (v := u 7) (gz_o _ 7 (by decide)) dL_isAhead_177 ?_
        refine lv_ineg hx hb dL_isAhead_178 ?_
        refine lv_goto (tgt := 186) hx hb dL_isAhead_179 (by decide) ?_
        exact K _ (lam_n c9)
  exact lp142 6 0 0 0 0 (gz u3) (Nat.zero_add _) rfl rfl _ _ _ w (lv_sub hl [0, 7, 6, 5, 8, 10, 11, 12, 9] rfl)
