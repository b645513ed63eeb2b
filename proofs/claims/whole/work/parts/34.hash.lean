theorem hdJxe99ae_isNaN_b9ae7 : yJxe99ae_isNaN_b9ae7.cls = RJxe99ae ∧ yJxe99ae_isNaN_b9ae7.cls ≠ "java/lang/invoke/MethodHandle" ∧ yJxe99ae_isNaN_b9ae7.cls ≠ "java/lang/invoke/VarHandle" ∧ (parseMethodDescriptor yJxe99ae_isNaN_b9ae7.desc).map (fun d => d.parameters.length) = some 1 := ⟨rfl, by decide, by decide, by decide +kernel⟩
set_option maxHeartbeats 4000000 in
set_option maxRecDepth 100000 in
theorem met_Jxe99ae_isNaN_b9ae7 (l : Launch) (D : va_G) (cI cJ cO : ClassId) (dd : UInt64) (hdd : Op.cmpValue (FP.dcmp dd dd) CmpOp.l = 0) : CI l D (TY cI cJ cO) yJxe99ae_isNaN_b9ae7 wsJxe99ae_isNaN_b9ae7 ({ frames := 0, cells := 0, slots := 0, locals := 0 }) [.double dd] [] (bI false) [] := by
  refine CI.of (by decide +kernel) rfl (Nat.le_of_ble_eq_true rfl) (bI_n _) (fun p e s m below meth c A ls Q X hA w hl fin => ?_)
  obtain ⟨hx, hb, hml, hown, hts⟩ := id X.1
  have hl : lv_has ls 2 [(0, .double dd)] := hl
  refine lv_dload_n hx hb dJxe99ae_isNaN_b9ae7_0 rfl (lv_at hl 0 rfl) ?_
  refine lv_dload_n hx hb dJxe99ae_isNaN_b9ae7_1 rfl (lv_at hl 0 rfl) ?_
  refine lv_dcmp hx hb dJxe99ae_isNaN_b9ae7_2 ?_
  refine lv_if_eq (tgt := 10) hx hb dJxe99ae_isNaN_b9ae7_3 (by decide) (fun c1 => ?_) (fun c1 => absurd hdd c1)
  refine lv_iconst (v := 0) hx hb dJxe99ae_isNaN_b9ae7_10 (by decide) ?_
  exact fin _ _ _ _ _ w (by rfl) dJxe99ae_isNaN_b9ae7_11
theorem hdJxe99ae_doubleToLongBits_ccdee : yJxe99ae_doubleToLongBits_ccdee.cls = RJxe99ae ∧ yJxe99ae_doubleToLongBits_ccdee.cls ≠ "java/lang/invoke/MethodHandle" ∧ yJxe99ae_doubleToLongBits_ccdee.cls ≠ "java/lang/invoke/VarHandle" ∧ (parseMethodDescriptor yJxe99ae_doubleToLongBits_ccdee.desc).map (fun d => d.parameters.length) = some 1 := ⟨rfl, by decide, by decide, by decide +kernel⟩
set_option maxHeartbeats 4000000 in
set_option maxRecDepth 100000 in
theorem met_Jxe99ae_doubleToLongBits_ccdee (l : Launch) (D : va_G) (cI cJ cO : ClassId) (dd : UInt64) (hdd : Op.cmpValue (FP.dcmp dd dd) CmpOp.l = 0) : CL l D (TY cI cJ cO) yJxe99ae_doubleToLongBits_ccdee wsJxe99ae_doubleToLongBits_ccdee ({ frames := 1, cells := 0, slots := 0, locals := 30 }) [.double dd] [] dd.toInt64 [] := by
  refine CL.of (by decide +kernel) rfl (Nat.le_of_ble_eq_true rfl) (fun p e s m below meth c A ls Q X hA w hl fin => ?_)
  obtain ⟨hx, hb, hml, hown, hts⟩ := id X.1
  have hl : lv_has ls 2 [(0, .double dd)] := hl
  refine lv_dload_n hx hb dJxe99ae_doubleToLongBits_ccdee_0 rfl (lv_at hl 0 rfl) ?_
  refine k_ciR (k_runS X w (met_Jxe99ae_isNaN_b9ae7 l D cI cJ cO dd hdd s.heap.size) gJxe99ae_doubleToLongBits_ccdee_Jxe99ae_isNaN_b9ae7 rfl rfl rfl 1 hdJxe99ae_isNaN_b9ae7 ⟨Nat.le_of_ble_eq_true rfl, Nat.le_of_ble_eq_true rfl⟩ [] rfl rfl rfl hl.1 rfl (Nat.le_of_ble_eq_true rfl) dJxe99ae_doubleToLongBits_ccdee_1 ⟨Nat.le_of_ble_eq_true rfl, Nat.le_of_ble_eq_true rfl⟩) w hA [] rfl (fun H locs w => ?_)
  refine lv_if_ne (tgt := 12) hx hb dJxe99ae_doubleToLongBits_ccdee_4 (by decide) (fun c1 => absurd (show bI false = 0 from rfl) c1) (fun c1 => ?_)
  refine lv_dload_n hx hb dJxe99ae_doubleToLongBits_ccdee_7 rfl (lv_at hl 0 rfl) ?_
  refine k_d2l X hl.1 (List.mem_of_getElem? (i := 1) rfl) (List.mem_of_getElem? (i := 2) rfl) (List.mem_of_getElem? (i := 3) rfl) (List.mem_of_getElem? (i := 4) rfl) (Nat.le_of_ble_eq_true rfl) (Nat.le_of_ble_eq_true rfl) dJxe99ae_doubleToLongBits_ccdee_8 ?_
  exact fin _ _ _ _ _ w rfl dJxe99ae_doubleToLongBits_ccdee_11
theorem hdX6_digest : yX6_digest.cls = RX6 ∧ yX6_digest.cls ≠ "java/lang/invoke/MethodHandle" ∧ yX6_digest.cls ≠ "java/lang/invoke/VarHandle" ∧ (parseMethodDescriptor yX6_digest.desc).map (fun d => d.parameters.length) = some 0 := ⟨rfl, by decide, by decide, by decide +kernel⟩
theorem iX6_digest_X6 : ∀ w ∈ wsX60, w ∈ wsX6_digest := fun _ h => List.mem_cons_of_mem _ (List.mem_append_right _ h)
set_option maxHeartbeats 1000000 in
set_option maxRecDepth 100000 in
theorem met_X6_digest (l : Launch) (D : va_G) (cI cJ cO : ClassId) (ma : Nat) (za : Nat) (aa : Nat) (va : Nat) (ka : Nat) (ta : Nat) (y : Nat → Int32) (z : Nat → Int32) (ad : Nat → Int32) (tx : Nat → Int32) (t : Nat → Int32) (nr : Nat) (k : Nat) (len : Nat) (hob : okb z) (hz : z 6 = nI k) (hkk : k < 6) (hn : z 10 = nI nr) (hn4 : nr ≤ 40) (hp : okp z nr) (hdr : dr1 z nr = dr2 z nr) (hE : ¬ 2000000000 ≤ am (wz1 z 0 7)) (h0 : 0 ≤ (z 0).toInt) (hnn : ¬ z 0 ≤ 0 → vf_n64 (FP.ddiv (FP.i2d (z 9)) (FP.i2d (z 0)))) (hdd : Op.cmpValue (FP.dcmp (share z) (share z)) CmpOp.l = 0) (hbt : (share z).toInt64 = bts (share z)) (hL : y 3 = nI len) (hL6 : len ≤ 60) (hT0 : t 0 = nI len) (hT : ∀ i, i < len → tx i = t (300 + i)) : CL l D (TY cI cJ cO) yX6_digest wsX6_digest ({ frames := 5, cells := 0, slots := 0, locals := 114 }) [.ref ma] [oM ma za aa va ka ta y, aI cI za 225 0 z, aI cI aa 225 0 ad, aI cI ta 60 0 tx] (digN z t nr k (y 1) len) [oM ma za aa va ka ta (upd y 0 0), aI cI za 225 0 z, aI cI aa 225 0 (ntA z z 6), aI cI ta 60 0 tx] := by
  refine CL.of (plainFor_of_name (by decide)) rfl (Nat.le_of_ble_eq_true rfl) (fun p e s m below meth c A ls Q X hA w hl fin => ?_)
  obtain ⟨hx, hb, hml, hown, hts⟩ := id X.1
  have hl : lv_has ls 5 [(0, .ref ma)] := hl
  refine lv_aload_n hx hb dX6_digest_0 rfl (lv_at hl 0 rfl) ?_
  refine lv_iconst (v := 0) hx hb dX6_digest_1 (by decide) ?_
  refine k_put X w 0 rfl rfl 0 (by decide) rfl iX6_digest_X6 (List.mem_of_getElem? (i := 1) rfl) tyX6_ok nmX6 rfl rfl (Nat.le_of_ble_eq_true rfl) (ws2 := [oM ma za aa va ka ta (upd y 0 0), aI cI za 225 0 z, aI cI aa 225 0 ad, aI cI ta 60 0 tx]) rfl dX6_digest_2 (fun H locs w => ?_)
  refine lv_ldc2 (v := 3803) hx hb hown (hts _ (List.mem_of_getElem? (i := 2) rfl)) dX6_digest_5 ?_
  refine lv_lstore_n (lv' := [(1, .long 3803), (0, .ref ma)]) hx hb dX6_digest_8 rfl hl (by decide) rfl (fun ls hl => ?_)
  refine lv_iconst (v := 0) hx hb dX6_digest_9 (by decide) ?_
  refine lv_istore_n (lv' := [(3, .int 0), (1, .long 3803), (0, .ref ma)]) hx hb dX6_digest_10 rfl hl (by decide) rfl (fun ls hl => ?_)
  have lp11 : ∀ (n : Nat) (j11 : Nat) (hv11 : Int64), j11 + n = 21 → hv11 = cq z nr k (y 1) 3803 j11 → ∀ (H : Heap) (locs : List Loc) (ls : Array Slot), wd D A s.heap H locs ([oM ma za aa va ka ta (upd y 0 0), aI cI za 225 0 z, aI cI aa 225 0 ad, aI cI ta 60 0 tx]) → lv_has ls 5 [(3, .int (nI j11)), (1, .long hv11), (0, .ref ma)] → W p l e ({ frames := 5, cells := 0, slots := 0, locals := 114 }) s m [.ref ma].toArray below meth c H locs 0 0 Q (F0 m 11 ls []) := by
    intro n
    induction n with
    | zero =>
      intro j11 hv11 hi11 hh11 H locs ls w hl
      refine lv_iload_n hx hb dX6_digest_11 rfl (lv_at hl 0 rfl) ?_
      refine lv_bipush (v := 21) hx hb dX6_digest_12 (by decide) ?_
      refine lv_icmp_ge (tgt := 36) hx hb dX6_digest_14 (by decide) (fun c1 => ?_) (fun c1 => absurd (nI_le (a := 21) (b := j11) (by omega) (by omega)) c1)
      refine lv_iconst (v := 0) hx hb dX6_digest_36 (by decide) ?_
      refine lv_istore_n (lv' := [(3, .int 0), (1, .long hv11), (0, .ref ma)]) hx hb dX6_digest_37 rfl hl (by decide) rfl (fun ls hl => ?_)
      have lp38 : ∀ (n2 : Nat) (j38 : Nat) (hv38 : Int64), j38 + n2 = 6 → hv38 = mqa z nr (cq z nr k (y 1) 3803 21) j38 → ∀ (H : Heap) (locs : List Loc) (ls : Array Slot), wd D A s.heap H locs ([oM ma za aa va ka ta (upd y 0 0), aI cI za 225 0 z, aI cI aa 225 0 (ntA z ad j38), aI cI ta 60 0 tx]) → lv_has ls 5 [(3, .int (nI j38)), (1, .long hv38), (0, .ref ma)] → W p l e ({ frames := 5, cells := 0, slots := 0, locals := 114 }) s m [.ref ma].toArray below meth c H locs 0 0 Q (F0 m 38 ls []) := by
        intro n2
        induction n2 with
        | zero =>
          intro j38 hv38 hi38 hh38 H locs ls w hl
          refine lv_iload_n hx hb dX6_digest_38 rfl (lv_at hl 0 rfl) ?_
          refine lv_bipush (v := 6) hx hb dX6_digest_39 (by decide) ?_
          refine lv_icmp_ge (tgt := 94) hx hb dX6_digest_41 (by decide) (fun c2 => ?_) (fun c2 => absurd (nI_le (a := 6) (b := j38) (by omega) (by omega)) c2)
          refine lv_iconst (v := 0) hx hb dX6_digest_94 (by decide) ?_
          refine lv_istore_n (lv' := [(3, .int 0), (1, .long hv38), (0, .ref ma)]) hx hb dX6_digest_95 rfl hl (by decide) rfl (fun ls hl => ?_)
          have lp96 : ∀ (n3 : Nat) (j96 : Nat) (hv96 : Int64), j96 + n3 = (5 * nr) → hv96 = mrf z nr (mqa z nr (cq z nr k (y 1) 3803 21) 6) j96 → ∀ (H : Heap) (locs : List Loc) (ls : Array Slot), wd D A s.heap H locs ([oM ma za aa va ka ta (upd y 0 0), aI cI za 225 0 z, aI cI aa 225 0 (ntA z ad j38), aI cI ta 60 0 tx]) → lv_has ls 5 [(3, .int (nI j96)), (1, .long hv96), (0, .ref ma)] → W p l e ({ frames := 5, cells := 0, slots := 0, locals := 114 }) s m [.ref ma].toArray below meth c H locs 0 0 Q (F0 m 96 ls []) := by
            intro n3
            induction n3 with
            | zero =>
              intro j96 hv96 hi96 hh96 H locs ls w hl
              refine lv_iload_n hx hb dX6_digest_96 rfl (lv_at hl 0 rfl) ?_
              refine lv_iconst (v := 5) hx hb dX6_digest_97 (by decide) ?_
              refine lv_aload_n hx hb dX6_digest_98 rfl (lv_at hl 2 rfl) ?_
              refine k_get X w 0 rfl rfl 1 (by decide) rfl iX6_digest_X6 (List.mem_of_getElem? (i := 4) rfl) (v := .ref za) rfl dX6_digest_99 ?_
              refine lv_bipush (v := 10) hx hb dX6_digest_102 (by decide) ?_
              refine k_iald X w 1 0 rfl rfl 10 (kj := 10) rfl (by decide) (by decide) rfl (v := nI nr) hn dX6_digest_104 ?_
              refine lv_imul hx hb dX6_digest_105 ?_
              refine lv_icmp_ge (tgt := 133) hx hb dX6_digest_106 (by decide) (fun c3 => ?_) (fun c3 => absurd (show 5 * nI nr ≤ nI j96 by rw [show 5 * nI nr = nI (5 * nr) from nI_mulp rfl rfl]; exact nI_le (by omega) (by omega)) c3)
              refine lv_iconst (v := 0) hx hb dX6_digest_133 (by decide) ?_
              refine lv_istore_n (lv' := [(3, .int 0), (1, .long hv96), (0, .ref ma)]) hx hb dX6_digest_134 rfl hl (by decide) rfl (fun ls hl => ?_)
              have lp135 : ∀ (n4 : Nat) (j135 : Nat) (hv135 : Int64), j135 + n4 = 3 → hv135 = sq z (dig0 z nr k (y 1)) j135 → ∀ (H : Heap) (locs : List Loc) (ls : Array Slot), wd D A s.heap H locs ([oM ma za aa va ka ta (upd y 0 0), aI cI za 225 0 z, aI cI aa 225 0 (ntA z ad j38), aI cI ta 60 0 tx]) → lv_has ls 5 [(3, .int (nI j135)), (1, .long hv135), (0, .ref ma)] → W p l e ({ frames := 5, cells := 0, slots := 0, locals := 114 }) s m [.ref ma].toArray below meth c H locs 0 0 Q (F0 m 135 ls []) := by
                intro n4
                induction n4 with
                | zero =>
                  intro j135 hv135 hi135 hh135 H locs ls w hl
                  refine lv_iload_n hx hb dX6_digest_135 rfl (lv_at hl 0 rfl) ?_
                  refine lv_iconst (v := 3) hx hb dX6_digest_136 (by decide) ?_
                  refine lv_icmp_ge (tgt := 163) hx hb dX6_digest_137 (by decide) (fun c4 => ?_) (fun c4 => absurd (nI_le (a := 3) (b := j135) (by omega) (by omega)) c4)
                  refine lv_ldc2 (v := 31) hx hb hown (hts _ (List.mem_of_getElem? (i := 3) rfl)) dX6_digest_163 ?_
                  refine lv_ldc2 (v := 31) hx hb hown (hts _ (List.mem_of_getElem? (i := 3) rfl)) dX6_digest_166 ?_
                  refine lv_lload_n hx hb dX6_digest_169 rfl (lv_at hl 1 rfl) ?_
                  refine lv_lmul hx hb dX6_digest_170 ?_
                  refine lv_aload_n hx hb dX6_digest_171 rfl (lv_at hl 2 rfl) ?_
                  refine lv_iconst (v := 0) hx hb dX6_digest_172 (by decide) ?_
                  refine lv_iconst (v := 2) hx hb dX6_digest_173 (by decide) ?_
                  refine lv_iconst (v := 4) hx hb dX6_digest_174 (by decide) ?_
                  refine lv_iconst (v := 0) hx hb dX6_digest_175 (by decide) ?_
                  refine k_ci (wr := [aI cI ta 60 0 tx]) (ws2 := [oM ma za aa va ka ta (upd y 0 0), aI cI za 225 0 z, aI cI aa 225 0 z, aI cI ta 60 0 tx]) (k_runV X w (met_X6_worn l D cI cJ cO ma za aa va ka ta (upd y 0 0) z (ntA z ad j38) 0 2 4 0 hob (by omega) (by omega) (by omega) (by omega) H.size) gX6_digest_X6_worn rfl rfl rfl 4 hdX6_worn ⟨Nat.le_of_ble_eq_true rfl, Nat.le_of_ble_eq_true rfl⟩ [0, 1, 2] rfl rfl 0 6 rfl rfl rfl rfl hl.1 rfl (Nat.le_of_ble_eq_true rfl) dX6_digest_176 ⟨Nat.le_of_ble_eq_true rfl, Nat.le_of_ble_eq_true rfl⟩) w hA [0, 1, 2] [3] rfl rfl rfl (by decide) [1, 2, 3, 0] rfl rfl (fun H locs w => ?_)
                  refine lv_i2l (v := (wornN z 0 2 4 0).toInt64) hx hb dX6_digest_179 rfl ?_
                  refine lv_ladd hx hb dX6_digest_180 ?_
                  refine lv_lmul hx hb dX6_digest_181 ?_
                  refine lv_aload_n hx hb dX6_digest_182 rfl (lv_at hl 2 rfl) ?_
                  refine lv_iconst (v := 0) hx hb dX6_digest_183 (by decide) ?_
                  refine lv_iconst (v := 2) hx hb dX6_digest_184 (by decide) ?_
                  refine lv_iconst (v := 4) hx hb dX6_digest_185 (by decide) ?_
                  refine lv_iconst (v := 1) hx hb dX6_digest_186 (by decide) ?_
                  refine k_ci (wr := [aI cI ta 60 0 tx]) (ws2 := [oM ma za aa va ka ta (upd y 0 0), aI cI za 225 0 z, aI cI aa 225 0 z, aI cI ta 60 0 tx]) (k_runV X w (met_X6_worn l D cI cJ cO ma za aa va ka ta (upd y 0 0) z z 0 2 4 1 (by first | assumption | omega) (by first | assumption | omega) (by first | assumption | omega) (by first | assumption | omega) (by first | assumption | omega) H.size) gX6_digest_X6_worn rfl rfl rfl 4 hdX6_worn ⟨Nat.le_of_ble_eq_true rfl, Nat.le_of_ble_eq_true rfl⟩ [0, 1, 2] rfl rfl 0 6 rfl rfl rfl rfl hl.1 rfl (Nat.le_of_ble_eq_true rfl) dX6_digest_187 ⟨Nat.le_of_ble_eq_true rfl, Nat.le_of_ble_eq_true rfl⟩) w hA [0, 1, 2] [3] rfl rfl rfl (by decide) [1, 2, 3, 0] rfl rfl (fun H locs w => ?_)
                  refine lv_i2l (v := (wornN z 0 2 4 1).toInt64) hx hb dX6_digest_190 rfl ?_
                  refine lv_ladd hx hb dX6_digest_191 ?_
                  refine lv_lstore_n (lv' := [(1, .long ((31 * ((31 * hv135) + ((wornN z 0 2 4 0).toInt64))) + ((wornN z 0 2 4 1).toInt64))), (3, .int (nI j135)), (0, .ref ma)]) hx hb dX6_digest_192 rfl hl (by decide) rfl (fun ls hl => ?_)
                  refine lv_ldc2 (v := 31) hx hb hown (hts _ (List.mem_of_getElem? (i := 3) rfl)) dX6_digest_193 ?_
                  refine lv_ldc2 (v := 31) hx hb hown (hts _ (List.mem_of_getElem? (i := 3) rfl)) dX6_digest_196 ?_
                  refine lv_lload_n hx hb dX6_digest_199 rfl (lv_at hl 0 rfl) ?_
                  refine lv_lmul hx hb dX6_digest_200 ?_
                  refine lv_aload_n hx hb dX6_digest_201 rfl (lv_at hl 2 rfl) ?_
                  refine lv_iconst (v := 1) hx hb dX6_digest_202 (by decide) ?_
                  refine lv_iconst (v := 1) hx hb dX6_digest_203 (by decide) ?_
                  refine lv_iconst (v := 5) hx hb dX6_digest_204 (by decide) ?_
                  refine lv_iconst (v := 0) hx hb dX6_digest_205 (by decide) ?_
                  refine k_ci (wr := [aI cI ta 60 0 tx]) (ws2 := [oM ma za aa va ka ta (upd y 0 0), aI cI za 225 0 z, aI cI aa 225 0 z, aI cI ta 60 0 tx]) (k_runV X w (met_X6_worn l D cI cJ cO ma za aa va ka ta (upd y 0 0) z z 1 1 5 0 hob (by omega) (by omega) (by omega) (by omega) H.size) gX6_digest_X6_worn rfl rfl rfl 4 hdX6_worn ⟨Nat.le_of_ble_eq_true rfl, Nat.le_of_ble_eq_true rfl⟩ [0, 1, 2] rfl rfl 0 6 rfl rfl rfl rfl hl.1 rfl (Nat.le_of_ble_eq_true rfl) dX6_digest_206 ⟨Nat.le_of_ble_eq_true rfl, Nat.le_of_ble_eq_true rfl⟩) w hA [0, 1, 2] [3] rfl rfl rfl (by decide) [1, 2, 3, 0] rfl rfl (fun H locs w => ?_)
                  refine lv_i2l (v := (wornN z 1 1 5 0).toInt64) hx hb dX6_digest_209 rfl ?_
                  refine lv_ladd hx hb dX6_digest_210 ?_
                  refine lv_lmul hx hb dX6_digest_211 ?_
                  refine lv_aload_n hx hb dX6_digest_212 rfl (lv_at hl 2 rfl) ?_
                  refine lv_iconst (v := 1) hx hb dX6_digest_213 (by decide) ?_
                  refine lv_iconst (v := 1) hx hb dX6_digest_214 (by decide) ?_
                  refine lv_iconst (v := 5) hx hb dX6_digest_215 (by decide) ?_
                  refine lv_iconst (v := 1) hx hb dX6_digest_216 (by decide) ?_
                  refine k_ci (wr := [aI cI ta 60 0 tx]) (ws2 := [oM ma za aa va ka ta (upd y 0 0), aI cI za 225 0 z, aI cI aa 225 0 z, aI cI ta 60 0 tx]) (k_runV X w (met_X6_worn l D cI cJ cO ma za aa va ka ta (upd y 0 0) z z 1 1 5 1 (by first | assumption | omega) (by first | assumption | omega) (by first | assumption | omega) (by first | assumption | omega) (by first | assumption | omega) H.size) gX6_digest_X6_worn rfl rfl rfl 4 hdX6_worn ⟨Nat.le_of_ble_eq_true rfl, Nat.le_of_ble_eq_true rfl⟩ [0, 1, 2] rfl rfl 0 6 rfl rfl rfl rfl hl.1 rfl (Nat.le_of_ble_eq_true rfl) dX6_digest_217 ⟨Nat.le_of_ble_eq_true rfl, Nat.le_of_ble_eq_true rfl⟩) w hA [0, 1, 2] [3] rfl rfl rfl (by decide) [1, 2, 3, 0] rfl rfl (fun H locs w => ?_)
                  refine lv_i2l (v := (wornN z 1 1 5 1).toInt64) hx hb dX6_digest_220 rfl ?_
                  refine lv_ladd hx hb dX6_digest_221 ?_
                  refine lv_lstore_n (lv' := [(1, .long ((31 * ((31 * ((31 * ((31 * hv135) + ((wornN z 0 2 4 0).toInt64))) + ((wornN z 0 2 4 1).toInt64))) + ((wornN z 1 1 5 0).toInt64))) + ((wornN z 1 1 5 1).toInt64))), (3, .int (nI j135)), (0, .ref ma)]) hx hb dX6_digest_222 rfl hl (by decide) rfl (fun ls hl => ?_)
                  refine lv_ldc2 (v := 31) hx hb hown (hts _ (List.mem_of_getElem? (i := 3) rfl)) dX6_digest_223 ?_
                  refine lv_ldc2 (v := 31) hx hb hown (hts _ (List.mem_of_getElem? (i := 3) rfl)) dX6_digest_226 ?_
                  refine lv_lload_n hx hb dX6_digest_229 rfl (lv_at hl 0 rfl) ?_
                  refine lv_lmul hx hb dX6_digest_230 ?_
                  refine lv_aload_n hx hb dX6_digest_231 rfl (lv_at hl 2 rfl) ?_
                  refine k_ciR (k_runV X w (met_X6_findRegulator l D cI cJ cO ma za aa va ka ta (upd y 0 0) z hob H.size) gX6_digest_X6_findRegulator rfl rfl rfl 0 hdX6_findRegulator ⟨Nat.le_of_ble_eq_true rfl, Nat.le_of_ble_eq_true rfl⟩ [0, 1] rfl rfl 0 6 rfl rfl rfl rfl hl.1 rfl (Nat.le_of_ble_eq_true rfl) dX6_digest_232 ⟨Nat.le_of_ble_eq_true rfl, Nat.le_of_ble_eq_true rfl⟩) w hA [0, 1] rfl (fun H locs w => ?_)
                  refine lv_i2l (v := (bestN z).toInt64) hx hb dX6_digest_235 rfl ?_
                  refine lv_ladd hx hb dX6_digest_236 ?_
                  refine lv_lmul hx hb dX6_digest_237 ?_
                  refine lv_aload_n hx hb dX6_digest_238 rfl (lv_at hl 2 rfl) ?_
                  refine k_ci (wr := [aI cI ta 60 0 tx]) (ws2 := [oM ma za aa va ka ta (upd y 0 0), aI cI za 225 0 z, aI cI aa 225 0 (ntA z z 6), aI cI ta 60 0 tx]) (k_runV X w (met_X6_findNight l D cI cJ cO ma za aa va ka ta (upd y 0 0) z z hob hE H.size) gX6_digest_X6_findNight rfl rfl rfl 0 hdX6_findNight ⟨Nat.le_of_ble_eq_true rfl, Nat.le_of_ble_eq_true rfl⟩ [0, 1, 2] rfl rfl 0 6 rfl rfl rfl rfl hl.1 rfl (Nat.le_of_ble_eq_true rfl) dX6_digest_239 ⟨Nat.le_of_ble_eq_true rfl, Nat.le_of_ble_eq_true rfl⟩) w hA [0, 1, 2] [3] rfl rfl rfl (by decide) [1, 2, 3, 0] rfl rfl (fun H locs w => ?_)
                  refine lv_i2l (v := (nightN z).toInt64) hx hb dX6_digest_242 rfl ?_
                  refine lv_ladd hx hb dX6_digest_243 ?_
                  refine lv_lstore_n (lv' := [(1, .long ((31 * ((31 * ((31 * ((31 * ((31 * ((31 * hv135) + ((wornN z 0 2 4 0).toInt64))) + ((wornN z 0 2 4 1).toInt64))) + ((wornN z 1 1 5 0).toInt64))) + ((wornN z 1 1 5 1).toInt64))) + ((bestN z).toInt64))) + ((nightN z).toInt64))), (3, .int (nI j135)), (0, .ref ma)]) hx hb dX6_digest_244 rfl hl (by decide) rfl (fun ls hl => ?_)
                  refine lv_ldc2 (v := 31) hx hb hown (hts _ (List.mem_of_getElem? (i := 3) rfl)) dX6_digest_245 ?_
                  refine lv_lload_n hx hb dX6_digest_248 rfl (lv_at hl 0 rfl) ?_
                  refine lv_lmul hx hb dX6_digest_249 ?_
                  refine lv_aload_n hx hb dX6_digest_250 rfl (lv_at hl 2 rfl) ?_
                  refine k_cdR (k_runV X w (met_X6_share l D cI cJ cO ma za aa va ka ta (upd y 0 0) z h0 hnn H.size) gX6_digest_X6_share rfl rfl rfl 0 hdX6_share ⟨Nat.le_of_ble_eq_true rfl, Nat.le_of_ble_eq_true rfl⟩ [0, 1] rfl rfl 0 6 rfl rfl rfl rfl hl.1 rfl (Nat.le_of_ble_eq_true rfl) dX6_digest_251 ⟨Nat.le_of_ble_eq_true rfl, Nat.le_of_ble_eq_true rfl⟩) w hA [0, 1] rfl (fun H locs w => ?_)
                  refine k_clR (k_runS X w (met_Jxe99ae_doubleToLongBits_ccdee l D cI cJ cO (share z) hdd H.size) gX6_digest_Jxe99ae_doubleToLongBits_ccdee rfl rfl rfl 1 hdJxe99ae_doubleToLongBits_ccdee ⟨Nat.le_of_ble_eq_true rfl, Nat.le_of_ble_eq_true rfl⟩ [] rfl rfl rfl hl.1 rfl (Nat.le_of_ble_eq_true rfl) dX6_digest_254 ⟨Nat.le_of_ble_eq_true rfl, Nat.le_of_ble_eq_true rfl⟩) w hA [] rfl (fun H locs w => ?_)
                  rw [hbt]
                  refine lv_ladd hx hb dX6_digest_257 ?_
                  refine lv_lstore_n (lv' := [(1, .long ((31 * ((31 * ((31 * ((31 * ((31 * ((31 * ((31 * hv135) + ((wornN z 0 2 4 0).toInt64))) + ((wornN z 0 2 4 1).toInt64))) + ((wornN z 1 1 5 0).toInt64))) + ((wornN z 1 1 5 1).toInt64))) + ((bestN z).toInt64))) + ((nightN z).toInt64))) + (bts (share z)))), (3, .int (nI j135)), (0, .ref ma)]) hx hb dX6_digest_258 rfl hl (by decide) rfl (fun ls hl => ?_)
                  refine lv_ldc2 (v := 31) hx hb hown (hts _ (List.mem_of_getElem? (i := 3) rfl)) dX6_digest_259 ?_
                  refine lv_lload_n hx hb dX6_digest_262 rfl (lv_at hl 0 rfl) ?_
                  refine lv_lmul hx hb dX6_digest_263 ?_
                  refine lv_aload_n hx hb dX6_digest_264 rfl (lv_at hl 2 rfl) ?_
                  refine k_get X w 0 rfl rfl 8 (by decide) rfl iX6_digest_X6 (List.mem_of_getElem? (i := 5) rfl) (v := .int (nI len)) (congrArg (fun t => some (Value.int t)) hL) dX6_digest_265 ?_
                  refine lv_i2l (v := (nI len).toInt64) hx hb dX6_digest_268 rfl ?_
                  refine lv_ladd hx hb dX6_digest_269 ?_
                  refine lv_lstore_n (lv' := [(1, .long ((31 * ((31 * ((31 * ((31 * ((31 * ((31 * ((31 * ((31 * hv135) + ((wornN z 0 2 4 0).toInt64))) + ((wornN z 0 2 4 1).toInt64))) + ((wornN z 1 1 5 0).toInt64))) + ((wornN z 1 1 5 1).toInt64))) + ((bestN z).toInt64))) + ((nightN z).toInt64))) + (bts (share z)))) + ((nI len).toInt64))), (3, .int (nI j135)), (0, .ref ma)]) hx hb dX6_digest_270 rfl hl (by decide) rfl (fun ls hl => ?_)
                  refine lv_iconst (v := 0) hx hb dX6_digest_271 (by decide) ?_
                  refine lv_istore_n (lv' := [(3, .int 0), (1, .long ((31 * ((31 * ((31 * ((31 * ((31 * ((31 * ((31 * ((31 * hv135) + ((wornN z 0 2 4 0).toInt64))) + ((wornN z 0 2 4 1).toInt64))) + ((wornN z 1 1 5 0).toInt64))) + ((wornN z 1 1 5 1).toInt64))) + ((bestN z).toInt64))) + ((nightN z).toInt64))) + (bts (share z)))) + ((nI len).toInt64))), (0, .ref ma)]) hx hb dX6_digest_272 rfl hl (by decide) rfl (fun ls hl => ?_)
                  have lp273 : ∀ (n5 : Nat) (j273 : Nat) (hv273 : Int64), j273 + n5 = len → hv273 = tq t (mixL (dig2 z nr k (y 1)) (t 0).toInt64) j273 → ∀ (H : Heap) (locs : List Loc) (ls : Array Slot), wd D A s.heap H locs ([oM ma za aa va ka ta (upd y 0 0), aI cI za 225 0 z, aI cI aa 225 0 (ntA z z 6), aI cI ta 60 0 tx]) → lv_has ls 5 [(3, .int (nI j273)), (1, .long hv273), (0, .ref ma)] → W p l e ({ frames := 5, cells := 0, slots := 0, locals := 114 }) s m [.ref ma].toArray below meth c H locs 0 0 Q (F0 m 273 ls []) := by
                    intro n5
                    induction n5 with
                    | zero =>
                      intro j273 hv273 hi273 hh273 H locs ls w hl
                      refine lv_iload_n hx hb dX6_digest_273 rfl (lv_at hl 0 rfl) ?_
                      refine lv_aload_n hx hb dX6_digest_274 rfl (lv_at hl 2 rfl) ?_
                      refine k_get X w 0 rfl rfl 8 (by decide) rfl iX6_digest_X6 (List.mem_of_getElem? (i := 5) rfl) (v := .int (nI len)) (congrArg (fun t => some (Value.int t)) hL) dX6_digest_275 ?_
                      refine lv_icmp_ge (tgt := 301) hx hb dX6_digest_278 (by decide) (fun c5 => ?_) (fun c5 => absurd (nI_le (a := len) (b := j273) (by omega) (by omega)) c5)
                      refine lv_lload_n hx hb dX6_digest_301 rfl (lv_at hl 1 rfl) ?_
                      exact fin _ _ _ _ _ w (by rw [hh273, show j273 = len by omega]; rfl) dX6_digest_302
                    | succ n5 ih5 =>
                      intro j273 hv273 hi273 hh273 H locs ls w hl
                      refine lv_iload_n hx hb dX6_digest_273 rfl (lv_at hl 0 rfl) ?_
                      refine lv_aload_n hx hb dX6_digest_274 rfl (lv_at hl 2 rfl) ?_
                      refine k_get X w 0 rfl rfl 8 (by decide) rfl iX6_digest_X6 (List.mem_of_getElem? (i := 5) rfl) (v := .int (nI len)) (congrArg (fun t => some (Value.int t)) hL) dX6_digest_275 ?_
                      refine lv_icmp_ge (tgt := 301) hx hb dX6_digest_278 (by decide) (fun c6 => absurd c6 (nI_ge (a := j273) (b := len) (by omega) (by omega))) (fun c6 => ?_)
                      refine lv_ldc2 (v := 31) hx hb hown (hts _ (List.mem_of_getElem? (i := 3) rfl)) dX6_digest_281 ?_
                      refine lv_lload_n hx hb dX6_digest_284 rfl (lv_at hl 1 rfl) ?_
                      refine lv_lmul hx hb dX6_digest_285 ?_
                      refine lv_aload_n hx hb dX6_digest_286 rfl (lv_at hl 2 rfl) ?_
                      refine k_get X w 0 rfl rfl 7 (by decide) rfl iX6_digest_X6 (List.mem_of_getElem? (i := 6) rfl) (v := .ref ta) rfl dX6_digest_287 ?_
                      refine lv_iload_n hx hb dX6_digest_290 rfl (lv_at hl 0 rfl) ?_
                      refine k_iald X w 3 0 rfl rfl j273 (kj := j273) (Nat.zero_add _) (by omega) (by decide) rfl (v := tx j273) rfl dX6_digest_291 ?_
                      rw [hT j273 (by omega)]
                      refine lv_i2l (v := (t (300 + j273)).toInt64) hx hb dX6_digest_292 rfl ?_
                      refine lv_ladd hx hb dX6_digest_293 ?_
                      refine lv_lstore_n (lv' := [(1, .long ((31 * hv273) + ((t (300 + j273)).toInt64))), (3, .int (nI j273)), (0, .ref ma)]) hx hb dX6_digest_294 rfl hl (by decide) rfl (fun ls hl => ?_)
                      refine lv_iinc (v := nI (j273 + 1)) (lv' := [(3, .int (nI (j273 + 1))), (1, .long ((31 * hv273) + ((t (300 + j273)).toInt64))), (0, .ref ma)]) hx hb dX6_digest_295 hl (k := 1) rfl (nI_1 _) (by decide) rfl (fun ls hl => ?_)
                      refine lv_goto (tgt := 273) hx hb dX6_digest_298 (by decide) ?_
                      exact ih5 (j273 + 1) ((31 * hv273) + ((t (300 + j273)).toInt64)) (by omega) (by rw [mix_f, hh273]; rfl) _ _ _ w (lv_sub hl [0, 1, 2] rfl)
                  exact lp273 len 0 ((31 * ((31 * ((31 * ((31 * ((31 * ((31 * ((31 * ((31 * hv135) + ((wornN z 0 2 4 0).toInt64))) + ((wornN z 0 2 4 1).toInt64))) + ((wornN z 1 1 5 0).toInt64))) + ((wornN z 1 1 5 1).toInt64))) + ((bestN z).toInt64))) + ((nightN z).toInt64))) + (bts (share z)))) + ((nI len).toInt64)) (Nat.zero_add _) (by simp only [mix_f]; rw [hh135, show j135 = 3 by omega, ← hT0]; rfl) _ _ _ w (lv_sub hl [0, 1, 2] rfl)
                | succ n4 ih4 =>
                  intro j135 hv135 hi135 hh135 H locs ls w hl
                  refine lv_iload_n hx hb dX6_digest_135 rfl (lv_at hl 0 rfl) ?_
                  refine lv_iconst (v := 3) hx hb dX6_digest_136 (by decide) ?_
                  refine lv_icmp_ge (tgt := 163) hx hb dX6_digest_137 (by decide) (fun c5 => absurd c5 (nI_ge (a := j135) (b := 3) (by omega) (by omega))) (fun c5 => ?_)
                  refine lv_ldc2 (v := 31) hx hb hown (hts _ (List.mem_of_getElem? (i := 3) rfl)) dX6_digest_140 ?_
                  refine lv_lload_n hx hb dX6_digest_143 rfl (lv_at hl 1 rfl) ?_
                  refine lv_lmul hx hb dX6_digest_144 ?_
                  refine lv_aload_n hx hb dX6_digest_145 rfl (lv_at hl 2 rfl) ?_
                  refine k_get X w 0 rfl rfl 1 (by decide) rfl iX6_digest_X6 (List.mem_of_getElem? (i := 4) rfl) (v := .ref za) rfl dX6_digest_146 ?_
                  refine lv_bipush (v := 16) hx hb dX6_digest_149 (by decide) ?_
                  refine lv_iload_n hx hb dX6_digest_151 rfl (lv_at hl 0 rfl) ?_
                  refine lv_iadd hx hb dX6_digest_152 ?_
                  refine k_iald X w 1 0 rfl rfl (16 + j135) (kj := 16 + j135) (Nat.zero_add _) (by omega) (by decide) (nI_addp rfl rfl) (v := z (16 + j135)) rfl dX6_digest_153 ?_
                  refine lv_i2l (v := (z (16 + j135)).toInt64) hx hb dX6_digest_154 rfl ?_
                  refine lv_ladd hx hb dX6_digest_155 ?_
                  refine lv_lstore_n (lv' := [(1, .long ((31 * hv135) + ((z (16 + j135)).toInt64))), (3, .int (nI j135)), (0, .ref ma)]) hx hb dX6_digest_156 rfl hl (by decide) rfl (fun ls hl => ?_)
                  refine lv_iinc (v := nI (j135 + 1)) (lv' := [(3, .int (nI (j135 + 1))), (1, .long ((31 * hv135) + ((z (16 + j135)).toInt64))), (0, .ref ma)]) hx hb dX6_digest_157 hl (k := 1) rfl (nI_1 _) (by decide) rfl (fun ls hl => ?_)
                  refine lv_goto (tgt := 135) hx hb dX6_digest_160 (by decide) ?_
                  exact ih4 (j135 + 1) ((31 * hv135) + ((z (16 + j135)).toInt64)) (by omega) (by rw [mix_f, hh135]; rfl) _ _ _ w (lv_sub hl [0, 1, 2] rfl)
              exact lp135 3 0 hv96 (Nat.zero_add _) (by rw [hh96, show j96 = 5 * nr by omega, mrf_a]; rfl) _ _ _ w (lv_sub hl [0, 1, 2] rfl)
            | succ n3 ih3 =>
              intro j96 hv96 hi96 hh96 H locs ls w hl
              refine lv_iload_n hx hb dX6_digest_96 rfl (lv_at hl 0 rfl) ?_
              refine lv_iconst (v := 5) hx hb dX6_digest_97 (by decide) ?_
              refine lv_aload_n hx hb dX6_digest_98 rfl (lv_at hl 2 rfl) ?_
              refine k_get X w 0 rfl rfl 1 (by decide) rfl iX6_digest_X6 (List.mem_of_getElem? (i := 4) rfl) (v := .ref za) rfl dX6_digest_99 ?_
              refine lv_bipush (v := 10) hx hb dX6_digest_102 (by decide) ?_
              refine k_iald X w 1 0 rfl rfl 10 (kj := 10) rfl (by decide) (by decide) rfl (v := nI nr) hn dX6_digest_104 ?_
              refine lv_imul hx hb dX6_digest_105 ?_
              refine lv_icmp_ge (tgt := 133) hx hb dX6_digest_106 (by decide) (fun c4 => absurd c4 (show ¬ 5 * nI nr ≤ nI j96 by rw [show 5 * nI nr = nI (5 * nr) from nI_mulp rfl rfl]; exact nI_ge (by omega) (by omega))) (fun c4 => ?_)
              refine lv_ldc2 (v := 31) hx hb hown (hts _ (List.mem_of_getElem? (i := 3) rfl)) dX6_digest_109 ?_
              refine lv_lload_n hx hb dX6_digest_112 rfl (lv_at hl 1 rfl) ?_
              refine lv_lmul hx hb dX6_digest_113 ?_
              refine lv_aload_n hx hb dX6_digest_114 rfl (lv_at hl 2 rfl) ?_
              refine lv_iload_n hx hb dX6_digest_115 rfl (lv_at hl 0 rfl) ?_
              refine lv_iconst (v := 5) hx hb dX6_digest_116 (by decide) ?_
              refine lv_idiv hx hb dX6_digest_117 (by decide) ?_
              rw [nI_div5 (by omega)]
              refine lv_iload_n hx hb dX6_digest_118 rfl (lv_at hl 0 rfl) ?_
              refine lv_iconst (v := 5) hx hb dX6_digest_119 (by decide) ?_
              refine lv_irem hx hb dX6_digest_120 (by decide) ?_
              rw [nI_mod5 (by omega)]
              refine k_ciR (k_runV X w (met_X6_readingNow l D cI cJ cO ma za aa va ka ta (upd y 0 0) z (j96 / 5) (j96 % 5) (by omega) (by omega) H.size) gX6_digest_X6_readingNow rfl rfl rfl 2 hdX6_readingNow ⟨Nat.le_of_ble_eq_true rfl, Nat.le_of_ble_eq_true rfl⟩ [0, 1] rfl rfl 0 6 rfl rfl rfl rfl hl.1 rfl (Nat.le_of_ble_eq_true rfl) dX6_digest_121 ⟨Nat.le_of_ble_eq_true rfl, Nat.le_of_ble_eq_true rfl⟩) w hA [0, 1] rfl (fun H locs w => ?_)
              rw [rnw_r (show j96 / 5 < nr by omega)]
              refine lv_i2l (v := (rnum z nr (j96 / 5) (j96 % 5)).toInt64) hx hb dX6_digest_124 rfl ?_
              refine lv_ladd hx hb dX6_digest_125 ?_
              refine lv_lstore_n (lv' := [(1, .long ((31 * hv96) + ((rnum z nr (j96 / 5) (j96 % 5)).toInt64))), (3, .int (nI j96)), (0, .ref ma)]) hx hb dX6_digest_126 rfl hl (by decide) rfl (fun ls hl => ?_)
              refine lv_iinc (v := nI (j96 + 1)) (lv' := [(3, .int (nI (j96 + 1))), (1, .long ((31 * hv96) + ((rnum z nr (j96 / 5) (j96 % 5)).toInt64))), (0, .ref ma)]) hx hb dX6_digest_127 hl (k := 1) rfl (nI_1 _) (by decide) rfl (fun ls hl => ?_)
              refine lv_goto (tgt := 96) hx hb dX6_digest_130 (by decide) ?_
              exact ih3 (j96 + 1) ((31 * hv96) + ((rnum z nr (j96 / 5) (j96 % 5)).toInt64)) (by omega) (by rw [mix_f, hh96]; rfl) _ _ _ w (lv_sub hl [0, 1, 2] rfl)
          exact lp96 (5 * nr) 0 hv38 (Nat.zero_add _) (by rw [hh38, show j38 = 6 by omega]; rfl) _ _ _ w (lv_sub hl [0, 1, 2] rfl)
        | succ n2 ih2 =>
          intro j38 hv38 hi38 hh38 H locs ls w hl
          refine lv_iload_n hx hb dX6_digest_38 rfl (lv_at hl 0 rfl) ?_
          refine lv_bipush (v := 6) hx hb dX6_digest_39 (by decide) ?_
          refine lv_icmp_ge (tgt := 94) hx hb dX6_digest_41 (by decide) (fun c3 => absurd c3 (nI_ge (a := j38) (b := 6) (by omega) (by omega))) (fun c3 => ?_)
          refine lv_iconst (v := 0) hx hb dX6_digest_44 (by decide) ?_
          refine lv_istore (lv' := [(4, .int 0), (3, .int (nI j38)), (1, .long hv38), (0, .ref ma)]) hx hb dX6_digest_45 hl (by decide) rfl (fun ls hl => ?_)
          have lp47 : ∀ (n3 : Nat) (j47 : Nat) (hv47 : Int64), j47 + n3 = 8 → hv47 = mp z nr j38 hv38 j47 → ∀ (H : Heap) (locs : List Loc) (ls : Array Slot), wd D A s.heap H locs ([oM ma za aa va ka ta (upd y 0 0), aI cI za 225 0 z, aI cI aa 225 0 (ntA z ad j38), aI cI ta 60 0 tx]) → lv_has ls 5 [(4, .int (nI j47)), (1, .long hv47), (0, .ref ma), (3, .int (nI j38))] → W p l e ({ frames := 5, cells := 0, slots := 0, locals := 114 }) s m [.ref ma].toArray below meth c H locs 0 0 Q (F0 m 47 ls []) := by
            intro n3
            induction n3 with
            | zero =>
              intro j47 hv47 hi47 hh47 H locs ls w hl
              refine lv_iload hx hb dX6_digest_47 (lv_at hl 0 rfl) ?_
              refine lv_bipush (v := 8) hx hb dX6_digest_49 (by decide) ?_
              refine lv_icmp_ge (tgt := 75) hx hb dX6_digest_51 (by decide) (fun c4 => ?_) (fun c4 => absurd (nI_le (a := 8) (b := j47) (by omega) (by omega)) c4)
              refine lv_ldc2 (v := 31) hx hb hown (hts _ (List.mem_of_getElem? (i := 3) rfl)) dX6_digest_75 ?_
              refine lv_lload_n hx hb dX6_digest_78 rfl (lv_at hl 1 rfl) ?_
              refine lv_lmul hx hb dX6_digest_79 ?_
              refine lv_aload_n hx hb dX6_digest_80 rfl (lv_at hl 2 rfl) ?_
              refine lv_iload_n hx hb dX6_digest_81 rfl (lv_at hl 3 rfl) ?_
              refine k_ci (wr := [aI cI ta 60 0 tx]) (ws2 := [oM ma za aa va ka ta (upd y 0 0), aI cI za 225 0 z, aI cI aa 225 0 z, aI cI ta 60 0 tx]) (k_runV X w (met_X6_stopsNow l D cI cJ cO ma za aa va ka ta (upd y 0 0) z (ntA z ad j38) j38 hob (by omega) H.size) gX6_digest_X6_stopsNow rfl rfl rfl 1 hdX6_stopsNow ⟨Nat.le_of_ble_eq_true rfl, Nat.le_of_ble_eq_true rfl⟩ [0, 1, 2] rfl rfl 0 6 rfl rfl rfl rfl hl.1 rfl (Nat.le_of_ble_eq_true rfl) dX6_digest_82 ⟨Nat.le_of_ble_eq_true rfl, Nat.le_of_ble_eq_true rfl⟩) w hA [0, 1, 2] [3] rfl rfl rfl (by decide) [1, 2, 3, 0] rfl rfl (fun H locs w => ?_)
              refine lv_i2l (v := (untilN z j38).toInt64) hx hb dX6_digest_85 rfl ?_
              refine lv_ladd hx hb dX6_digest_86 ?_
              refine lv_lstore_n (lv' := [(1, .long ((31 * hv47) + ((untilN z j38).toInt64))), (4, .int (nI j47)), (0, .ref ma), (3, .int (nI j38))]) hx hb dX6_digest_87 rfl hl (by decide) rfl (fun ls hl => ?_)
              refine lv_iinc (v := nI (j38 + 1)) (lv' := [(3, .int (nI (j38 + 1))), (1, .long ((31 * hv47) + ((untilN z j38).toInt64))), (4, .int (nI j47)), (0, .ref ma)]) hx hb dX6_digest_88 hl (k := 3) rfl (nI_1 _) (by decide) rfl (fun ls hl => ?_)
              refine lv_goto (tgt := 38) hx hb dX6_digest_91 (by decide) ?_
              have w := w.to (show [oM ma za aa va ka ta (upd y 0 0), aI cI za 225 0 z, aI cI aa 225 0 z, aI cI ta 60 0 tx] = [oM ma za aa va ka ta (upd y 0 0), aI cI za 225 0 z, aI cI aa 225 0 (ntA z ad (j38 + 1)), aI cI ta 60 0 tx] by rw [show aI cI aa 225 0 z = aI cI aa 225 0 (ntA z ad (j38 + 1)) from rfl])
              exact ih2 (j38 + 1) ((31 * hv47) + ((untilN z j38).toInt64)) (by omega) (by rw [mix_f, hh47, hh38, show j47 = 8 by omega]; rfl) _ _ _ w (lv_sub hl [0, 1, 3] rfl)
            | succ n3 ih3 =>
              intro j47 hv47 hi47 hh47 H locs ls w hl
              refine lv_iload hx hb dX6_digest_47 (lv_at hl 0 rfl) ?_
              refine lv_bipush (v := 8) hx hb dX6_digest_49 (by decide) ?_
              refine lv_icmp_ge (tgt := 75) hx hb dX6_digest_51 (by decide) (fun c5 => absurd c5 (nI_ge (a := j47) (b := 8) (by omega) (by omega))) (fun c5 => ?_)
              refine lv_ldc2 (v := 31) hx hb hown (hts _ (List.mem_of_getElem? (i := 3) rfl)) dX6_digest_54 ?_
              refine lv_lload_n hx hb dX6_digest_57 rfl (lv_at hl 1 rfl) ?_
              refine lv_lmul hx hb dX6_digest_58 ?_
              refine lv_aload_n hx hb dX6_digest_59 rfl (lv_at hl 2 rfl) ?_
              refine lv_iload_n hx hb dX6_digest_60 rfl (lv_at hl 3 rfl) ?_
              refine lv_iload hx hb dX6_digest_61 (lv_at hl 0 rfl) ?_
              refine k_ciR (k_runV X w (met_X6_poseNow l D cI cJ cO ma za aa va ka ta (upd y 0 0) z nr j38 j47 hob (by omega) hn hn4 (by omega) H.size) gX6_digest_X6_poseNow rfl rfl rfl 2 hdX6_poseNow ⟨Nat.le_of_ble_eq_true rfl, Nat.le_of_ble_eq_true rfl⟩ [0, 1] rfl rfl 0 6 rfl rfl rfl rfl hl.1 rfl (Nat.le_of_ble_eq_true rfl) dX6_digest_63 ⟨Nat.le_of_ble_eq_true rfl, Nat.le_of_ble_eq_true rfl⟩) w hA [0, 1] rfl (fun H locs w => ?_)
              refine lv_i2l (v := (pnum z nr j38 j47).toInt64) hx hb dX6_digest_66 rfl ?_
              refine lv_ladd hx hb dX6_digest_67 ?_
              refine lv_lstore_n (lv' := [(1, .long ((31 * hv47) + ((pnum z nr j38 j47).toInt64))), (4, .int (nI j47)), (0, .ref ma), (3, .int (nI j38))]) hx hb dX6_digest_68 rfl hl (by decide) rfl (fun ls hl => ?_)
              refine lv_iinc (v := nI (j47 + 1)) (lv' := [(4, .int (nI (j47 + 1))), (1, .long ((31 * hv47) + ((pnum z nr j38 j47).toInt64))), (0, .ref ma), (3, .int (nI j38))]) hx hb dX6_digest_69 hl (k := 1) rfl (nI_1 _) (by decide) rfl (fun ls hl => ?_)
              refine lv_goto (tgt := 47) hx hb dX6_digest_72 (by decide) ?_
              exact ih3 (j47 + 1) ((31 * hv47) + ((pnum z nr j38 j47).toInt64)) (by omega) (by rw [mix_f, hh47]; rfl) _ _ _ w (lv_sub hl [0, 1, 2, 3] rfl)
          exact lp47 8 0 hv38 (Nat.zero_add _) rfl _ _ _ w (lv_sub hl [0, 2, 3, 1] rfl)
      have w := w.to (show [oM ma za aa va ka ta (upd y 0 0), aI cI za 225 0 z, aI cI aa 225 0 ad, aI cI ta 60 0 tx] = [oM ma za aa va ka ta (upd y 0 0), aI cI za 225 0 z, aI cI aa 225 0 (ntA z ad 0), aI cI ta 60 0 tx] by rw [show aI cI aa 225 0 ad = aI cI aa 225 0 (ntA z ad 0) from rfl])
      exact lp38 6 0 hv11 (Nat.zero_add _) (by rw [hh11, show j11 = 21 by omega]; rfl) _ _ _ w (lv_sub hl [0, 1, 2] rfl)
    | succ n ih =>
      intro j11 hv11 hi11 hh11 H locs ls w hl
      refine lv_iload_n hx hb dX6_digest_11 rfl (lv_at hl 0 rfl) ?_
      refine lv_bipush (v := 21) hx hb dX6_digest_12 (by decide) ?_
      refine lv_icmp_ge (tgt := 36) hx hb dX6_digest_14 (by decide) (fun c2 => absurd c2 (nI_ge (a := j11) (b := 21) (by omega) (by omega))) (fun c2 => ?_)
      refine lv_ldc2 (v := 31) hx hb hown (hts _ (List.mem_of_getElem? (i := 3) rfl)) dX6_digest_17 ?_
      refine lv_lload_n hx hb dX6_digest_20 rfl (lv_at hl 1 rfl) ?_
      refine lv_lmul hx hb dX6_digest_21 ?_
      refine lv_aload_n hx hb dX6_digest_22 rfl (lv_at hl 2 rfl) ?_
      refine lv_iload_n hx hb dX6_digest_23 rfl (lv_at hl 0 rfl) ?_
      refine k_ciR (k_runV X w (met_X6_countNow l D cI cJ cO ma za aa va ka ta (upd y 0 0) z nr k j11 hz hkk hn hn4 hp hdr (by omega) H.size) gX6_digest_X6_countNow rfl rfl rfl 1 hdX6_countNow ⟨Nat.le_of_ble_eq_true rfl, Nat.le_of_ble_eq_true rfl⟩ [0, 1] rfl rfl 0 6 rfl rfl rfl rfl hl.1 rfl (Nat.le_of_ble_eq_true rfl) dX6_digest_24 ⟨Nat.le_of_ble_eq_true rfl, Nat.le_of_ble_eq_true rfl⟩) w hA [0, 1] rfl (fun H locs w => ?_)
      rw [show (upd y 0 0) 1 = y 1 from rfl]
      refine lv_i2l (v := (cnum z nr k (y 1) j11).toInt64) hx hb dX6_digest_27 rfl ?_
      refine lv_ladd hx hb dX6_digest_28 ?_
      refine lv_lstore_n (lv' := [(1, .long ((31 * hv11) + ((cnum z nr k (y 1) j11).toInt64))), (3, .int (nI j11)), (0, .ref ma)]) hx hb dX6_digest_29 rfl hl (by decide) rfl (fun ls hl => ?_)
      refine lv_iinc (v := nI (j11 + 1)) (lv' := [(3, .int (nI (j11 + 1))), (1, .long ((31 * hv11) + ((cnum z nr k (y 1) j11).toInt64))), (0, .ref ma)]) hx hb dX6_digest_30 hl (k := 1) rfl (nI_1 _) (by decide) rfl (fun ls hl => ?_)
      refine lv_goto (tgt := 11) hx hb dX6_digest_33 (by decide) ?_
      exact ih (j11 + 1) ((31 * hv11) + ((cnum z nr k (y 1) j11).toInt64)) (by omega) (by rw [mix_f, hh11]; rfl) _ _ _ w (lv_sub hl [0, 1, 2] rfl)
  exact lp11 21 0 3803 (Nat.zero_add _) rfl _ _ _ w (lv_sub hl [0, 1, 2] rfl)
