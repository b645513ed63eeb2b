theorem hdX6_obey : yX6_obey.cls = RX6 ∧ yX6_obey.cls ≠ "java/lang/invoke/MethodHandle" ∧ yX6_obey.cls ≠ "java/lang/invoke/VarHandle" ∧ (parseMethodDescriptor yX6_obey.desc).map (fun d => d.parameters.length) = some 0 := ⟨rfl, by decide, by decide, by decide +kernel⟩
theorem iX6_obey_X6 : ∀ w ∈ wsX60, w ∈ wsX6_obey := fun _ h => List.mem_cons_of_mem _ (List.mem_append_right _ h)
set_option maxHeartbeats 4000000 in
set_option maxRecDepth 100000 in
theorem met_X6_obey (l : Launch) (D : va_G) (cI cJ cO : ClassId) (ma : Nat) (za : Nat) (aa : Nat) (va : Nat) (ka : Nat) (ta : Nat) (y : Nat → Int32) (z : Nat → Int32) (sd : Nat → Int32) (q : Nat) (tx : Nat → Int32) (len : Nat) (hy : y 1 = nI q) (hq : q ≤ 6) (hL : y 3 = nI len) (hL6 : len ≤ 60) (hob : okb z) (hok : okz z) (hfe : ¬ 0 ≤ feR tx len (len + 1) 0) : CI l D (TY cI cJ cO) yX6_obey wsX6_obey ({ frames := 5, cells := 0, slots := 0, locals := 110 }) [.ref ma] [oM ma za aa va ka ta y, aI cI za 225 0 z, aI cI va 1350 0 sd, aI cI ta 60 0 tx] (nI (rbN tx len (len + 1) 0 (fst0 z) 0)) [oM ma za aa va ka ta (upd (rbY tx len (len + 1) 0 (fst0 z) 0 (upd (upd (feY tx len (len + 1) 0 y) 0 0) 1 (nI (recN q)))) 3 0), aI cI za 225 0 (rbF tx len (len + 1) 0 (fst0 z) 0), aI cI va 1350 0 (recS sd z q), aI cI ta 60 0 tx] := by
  refine CI.of (plainFor_of_name (by decide)) rfl (Nat.le_of_ble_eq_true rfl) (rfl) (fun p e s m below meth c A ls Q X hA w hl fin => ?_)
  obtain ⟨hx, hb, hml, hown, hts⟩ := id X.1
  have hl : lv_has ls 5 [(0, .ref ma)] := hl
  refine lv_aload_n hx hb dX6_obey_0 rfl (lv_at hl 0 rfl) ?_
  refine lv_aload_n hx hb dX6_obey_1 rfl (lv_at hl 0 rfl) ?_
  refine k_ci (wr := [aI cI za 225 0 z, aI cI va 1350 0 sd]) (ws2 := [oM ma za aa va ka ta (feY tx len (len + 1) 0 y), aI cI za 225 0 z, aI cI va 1350 0 sd, aI cI ta 60 0 tx]) (k_runV X w (met_X6_findError l D cI cJ cO ma za aa va ka ta y tx len hL hL6 s.heap.size) gX6_obey_X6_findError rfl rfl rfl 0 hdX6_findError ⟨Nat.le_of_ble_eq_true rfl, Nat.le_of_ble_eq_true rfl⟩ [0, 3] rfl rfl 0 6 rfl rfl rfl rfl hl.1 rfl (Nat.le_of_ble_eq_true rfl) dX6_obey_2 ⟨Nat.le_of_ble_eq_true rfl, Nat.le_of_ble_eq_true rfl⟩) w hA [0, 3] [1, 2] rfl rfl rfl (by decide) [2, 0, 1, 3] rfl rfl (fun H locs w => ?_)
  refine lv_if_ge (tgt := 12) hx hb dX6_obey_5 (by decide) (fun c1 => absurd c1 hfe) (fun c1 => ?_)
  refine lv_iconst (v := 0) hx hb dX6_obey_8 (by decide) ?_
  refine lv_goto (tgt := 13) hx hb dX6_obey_9 (by decide) ?_
  refine k_put X w 0 rfl rfl 0 (by decide) rfl iX6_obey_X6 (List.mem_of_getElem? (i := 1) rfl) tyX6_ok nmX6 rfl rfl (Nat.le_of_ble_eq_true rfl) (ws2 := [oM ma za aa va ka ta (upd (feY tx len (len + 1) 0 y) 0 0), aI cI za 225 0 z, aI cI va 1350 0 sd, aI cI ta 60 0 tx]) rfl dX6_obey_13 (fun H locs w => ?_)
  refine lv_aload_n hx hb dX6_obey_16 rfl (lv_at hl 0 rfl) ?_
  refine k_get X w 0 rfl rfl 0 (by decide) rfl iX6_obey_X6 (List.mem_of_getElem? (i := 1) rfl) (v := .int 0) (congrArg (fun t => some (Value.int t)) (upd_is _ _ _)) dX6_obey_17 ?_
  refine lv_if_le (tgt := 25) hx hb dX6_obey_20 (by decide) (fun c2 => ?_) (fun c2 => absurd c2 (by decide))
  refine lv_aload_n hx hb dX6_obey_25 rfl (lv_at hl 0 rfl) ?_
  refine k_cv (wr := [aI cI ta 60 0 tx]) (ws2 := [oM ma za aa va ka ta (upd (upd (feY tx len (len + 1) 0 y) 0 0) 1 (nI (recN q))), aI cI za 225 0 z, aI cI va 1350 0 (recS sd z q), aI cI ta 60 0 tx]) (k_runV X w (met_X6_record l D cI cJ cO ma za aa va ka ta (upd (feY tx len (len + 1) 0 y) 0 0) z sd q ((upd_no (by decide)).trans ((feY_q (by decide) (by decide) _ _ _).trans hy)) hq H.size) gX6_obey_X6_record rfl rfl rfl 0 hdX6_record ⟨Nat.le_of_ble_eq_true rfl, Nat.le_of_ble_eq_true rfl⟩ [0, 1, 2] rfl rfl 0 6 rfl rfl rfl rfl hl.1 rfl (Nat.le_of_ble_eq_true rfl) dX6_obey_26 ⟨Nat.le_of_ble_eq_true rfl, Nat.le_of_ble_eq_true rfl⟩) w hA [0, 1, 2] [3] rfl rfl rfl (by decide) [1, 2, 3, 0] rfl rfl (fun H locs w => ?_)
  refine lv_aload_n hx hb dX6_obey_29 rfl (lv_at hl 0 rfl) ?_
  refine k_cv (wr := [aI cI va 1350 0 (recS sd z q), aI cI ta 60 0 tx]) (ws2 := [oM ma za aa va ka ta (upd (upd (feY tx len (len + 1) 0 y) 0 0) 1 (nI (recN q))), aI cI za 225 0 (fst0 z), aI cI va 1350 0 (recS sd z q), aI cI ta 60 0 tx]) (k_runV X w (met_X6_noStop l D cI cJ cO ma za aa va ka ta (upd (upd (feY tx len (len + 1) 0 y) 0 0) 1 (nI (recN q))) z  H.size) gX6_obey_X6_noStop rfl rfl rfl 0 hdX6_noStop ⟨Nat.le_of_ble_eq_true rfl, Nat.le_of_ble_eq_true rfl⟩ [0, 1] rfl rfl 0 6 rfl rfl rfl rfl hl.1 rfl (Nat.le_of_ble_eq_true rfl) dX6_obey_30 ⟨Nat.le_of_ble_eq_true rfl, Nat.le_of_ble_eq_true rfl⟩) w hA [0, 1] [2, 3] rfl rfl rfl (by decide) [2, 3, 0, 1] rfl rfl (fun H locs w => ?_)
  refine lv_iconst (v := 0) hx hb dX6_obey_33 (by decide) ?_
  refine lv_istore_n (lv' := [(1, .int 0), (0, .ref ma)]) hx hb dX6_obey_34 rfl hl (by decide) rfl (fun ls hl => ?_)
  refine lv_iconst (v := 0) hx hb dX6_obey_35 (by decide) ?_
  refine lv_istore_n (lv' := [(2, .int 0), (1, .int 0), (0, .ref ma)]) hx hb dX6_obey_36 rfl hl (by decide) rfl (fun ls hl => ?_)
  refine lv_iconst (v := 1) hx hb dX6_obey_37 (by decide) ?_
  refine lv_istore_n (lv' := [(3, .int 1), (2, .int 0), (1, .int 0), (0, .ref ma)]) hx hb dX6_obey_38 rfl hl (by decide) rfl (fun ls hl => ?_)
  have lp39 : ∀ (n : Nat) (i : Nat) (qd : Nat) (zz : Nat → Int32) (yy : Nat → Int32), i ≤ len + 1 → len < i + n → (i ≤ len → ¬ 0 ≤ feR tx len n i) → okb zz → okz zz → yy 3 = nI len → rbF tx len n i zz qd = (rbF tx len (len + 1) 0 (fst0 z) 0) → rbN tx len n i zz qd = (rbN tx len (len + 1) 0 (fst0 z) 0) → rbY tx len n i zz qd yy = (rbY tx len (len + 1) 0 (fst0 z) 0 (upd (upd (feY tx len (len + 1) 0 y) 0 0) 1 (nI (recN q)))) → ∀ (H : Heap) (locs : List Loc) (ls : Array Slot), wd D A s.heap H locs ([oM ma za aa va ka ta yy, aI cI za 225 0 zz, aI cI va 1350 0 (recS sd z q), aI cI ta 60 0 tx]) → lv_has ls 5 [(3, .int 1), (2, .int (nI i)), (1, .int (nI qd)), (0, .ref ma)] → W p l e ({ frames := 5, cells := 0, slots := 0, locals := 110 }) s m [.ref ma].toArray below meth c H locs 0 0 Q (F0 m 39 ls []) := by
    intro n
    induction n with
    | zero =>
      intro i qd zz yy hi hf hfe2 hbb hok2 hyy he hN hY H locs ls w hl
      refine lv_iload_n hx hb dX6_obey_39 rfl (lv_at hl 0 rfl) ?_
      refine lv_if_eq (tgt := 138) hx hb dX6_obey_40 (by decide) (fun c3 => absurd c3 (by decide)) (fun c3 => ?_)
      refine lv_iload_n hx hb dX6_obey_43 rfl (lv_at hl 1 rfl) ?_
      refine lv_aload_n hx hb dX6_obey_44 rfl (lv_at hl 3 rfl) ?_
      refine k_get X w 0 rfl rfl 8 (by decide) rfl iX6_obey_X6 (List.mem_of_getElem? (i := 2) rfl) (v := .int (nI len)) (congrArg (fun t => some (Value.int t)) hyy) dX6_obey_45 ?_
      refine lv_icmp_ge (tgt := 138) hx hb dX6_obey_48 (by decide) (fun c4 => ?_) (fun c4 => absurd (nI_le (a := len) (b := i) (by omega) (by omega)) c4)
      have c4 : ¬ i < len := fun h => nI_ge h (by omega) c4
      refine lv_aload_n hx hb dX6_obey_138 rfl (lv_at hl 3 rfl) ?_
      refine lv_iconst (v := 0) hx hb dX6_obey_139 (by decide) ?_
      refine k_put X w 0 rfl rfl 8 (by decide) rfl iX6_obey_X6 (List.mem_of_getElem? (i := 2) rfl) tyX6_ok nmX6 rfl rfl (Nat.le_of_ble_eq_true rfl) (ws2 := [oM ma za aa va ka ta (upd yy 3 0), aI cI za 225 0 zz, aI cI va 1350 0 (recS sd z q), aI cI ta 60 0 tx]) rfl dX6_obey_140 (fun H locs w => ?_)
      refine lv_iload_n hx hb dX6_obey_143 rfl (lv_at hl 2 rfl) ?_
      have ey : yy = (rbY tx len (len + 1) 0 (fst0 z) 0 (upd (upd (feY tx len (len + 1) 0 y) 0 0) 1 (nI (recN q)))) := ((rbY_e c4 _).symm.trans hY)
      have ez : zz = (rbF tx len (len + 1) 0 (fst0 z) 0) := ((rbF_e c4 _).symm.trans he)
      have w := w.to (show [oM ma za aa va ka ta (upd yy 3 0), aI cI za 225 0 zz, aI cI va 1350 0 (recS sd z q), aI cI ta 60 0 tx] = [oM ma za aa va ka ta (upd (rbY tx len (len + 1) 0 (fst0 z) 0 (upd (upd (feY tx len (len + 1) 0 y) 0 0) 1 (nI (recN q)))) 3 0), aI cI za 225 0 (rbF tx len (len + 1) 0 (fst0 z) 0), aI cI va 1350 0 (recS sd z q), aI cI ta 60 0 tx] by rw [ey, ez])
      exact fin _ _ _ _ _ w (by exact congrArg nI ((rbN_e c4 _).symm.trans hN)) dX6_obey_144
    | succ n ih =>
      intro i qd zz yy hi hf hfe2 hbb hok2 hyy he hN hY H locs ls w hl
      refine lv_iload_n hx hb dX6_obey_39 rfl (lv_at hl 0 rfl) ?_
      refine lv_if_eq (tgt := 138) hx hb dX6_obey_40 (by decide) (fun c5 => absurd c5 (by decide)) (fun c5 => ?_)
      refine lv_iload_n hx hb dX6_obey_43 rfl (lv_at hl 1 rfl) ?_
      refine lv_aload_n hx hb dX6_obey_44 rfl (lv_at hl 3 rfl) ?_
      refine k_get X w 0 rfl rfl 8 (by decide) rfl iX6_obey_X6 (List.mem_of_getElem? (i := 2) rfl) (v := .int (nI len)) (congrArg (fun t => some (Value.int t)) hyy) dX6_obey_45 ?_
      refine lv_icmp_ge (tgt := 138) hx hb dX6_obey_48 (by decide) (fun c6 => ?_) (fun c6 => ?_)
      · have c6 : ¬ i < len := fun h => nI_ge h (by omega) c6
        refine lv_aload_n hx hb dX6_obey_138 rfl (lv_at hl 3 rfl) ?_
        refine lv_iconst (v := 0) hx hb dX6_obey_139 (by decide) ?_
        refine k_put X w 0 rfl rfl 8 (by decide) rfl iX6_obey_X6 (List.mem_of_getElem? (i := 2) rfl) tyX6_ok nmX6 rfl rfl (Nat.le_of_ble_eq_true rfl) (ws2 := [oM ma za aa va ka ta (upd yy 3 0), aI cI za 225 0 zz, aI cI va 1350 0 (recS sd z q), aI cI ta 60 0 tx]) rfl dX6_obey_140 (fun H locs w => ?_)
        refine lv_iload_n hx hb dX6_obey_143 rfl (lv_at hl 2 rfl) ?_
        have ey : yy = (rbY tx len (len + 1) 0 (fst0 z) 0 (upd (upd (feY tx len (len + 1) 0 y) 0 0) 1 (nI (recN q)))) := ((rbY_e c6 _).symm.trans hY)
        have ez : zz = (rbF tx len (len + 1) 0 (fst0 z) 0) := ((rbF_e c6 _).symm.trans he)
        have w := w.to (show [oM ma za aa va ka ta (upd yy 3 0), aI cI za 225 0 zz, aI cI va 1350 0 (recS sd z q), aI cI ta 60 0 tx] = [oM ma za aa va ka ta (upd (rbY tx len (len + 1) 0 (fst0 z) 0 (upd (upd (feY tx len (len + 1) 0 y) 0 0) 1 (nI (recN q)))) 3 0), aI cI za 225 0 (rbF tx len (len + 1) 0 (fst0 z) 0), aI cI va 1350 0 (recS sd z q), aI cI ta 60 0 tx] by rw [ey, ez])
        exact fin _ _ _ _ _ w (by exact congrArg nI ((rbN_e c6 _).symm.trans hN)) dX6_obey_144
      · have c6 : i < len := Nat.lt_of_not_le (fun h => c6 (nI_le h (by omega)))
        refine lv_aload_n hx hb dX6_obey_51 rfl (lv_at hl 3 rfl) ?_
        refine lv_iload_n hx hb dX6_obey_52 rfl (lv_at hl 1 rfl) ?_
        refine k_ci (wr := [aI cI za 225 0 zz, aI cI va 1350 0 (recS sd z q)]) (ws2 := [oM ma za aa va ka ta (rpY tx len i yy), aI cI za 225 0 zz, aI cI va 1350 0 (recS sd z q), aI cI ta 60 0 tx]) (k_runV X w (met_X6_readPart l D cI cJ cO ma za aa va ka ta yy tx len i hyy hL6 (by omega) H.size) gX6_obey_X6_readPart rfl rfl rfl 1 hdX6_readPart ⟨Nat.le_of_ble_eq_true rfl, Nat.le_of_ble_eq_true rfl⟩ [0, 3] rfl rfl 0 6 rfl rfl rfl rfl hl.1 rfl (Nat.le_of_ble_eq_true rfl) dX6_obey_53 ⟨Nat.le_of_ble_eq_true rfl, Nat.le_of_ble_eq_true rfl⟩) w hA [0, 3] [1, 2] rfl rfl rfl (by decide) [2, 0, 1, 3] rfl rfl (fun H locs w => ?_)
        obtain ⟨hJ1, hJ2⟩ := rpJ_b (tx := tx) (show i ≤ len by omega)
        have hO := rpO_of (by omega) (hfe2 (by omega))
        obtain ⟨hv, hv3, hv9⟩ := rpO_vt hO
        obtain ⟨⟨n0, hn, hn4⟩, kk, hz, hkk⟩ := id hok2
        rw [rj_y hO]
        refine lv_iconst (v := 1) hx hb dX6_obey_56 (by decide) ?_
        refine lv_iadd hx hb dX6_obey_57 ?_
        rw [show (nI (rpJ tx len i)) + 1 = nI (rpJ tx len i + 1) from nI_1 _]
        refine lv_istore_n (lv' := [(2, .int (nI (rpJ tx len i + 1))), (3, .int 1), (1, .int (nI qd)), (0, .ref ma)]) hx hb dX6_obey_58 rfl hl (by decide) rfl (fun ls hl => ?_)
        refine lv_aload_n hx hb dX6_obey_59 rfl (lv_at hl 3 rfl) ?_
        refine k_get X w 0 rfl rfl 9 (by decide) rfl iX6_obey_X6 (List.mem_of_getElem? (i := 3) rfl) (v := .int (atT tx len i)) (congrArg (fun t => some (Value.int t)) rpY_4) dX6_obey_60 ?_
        refine lv_bipush (v := 114) hx hb dX6_obey_63 (by decide) ?_
        refine lv_icmp_ne (tgt := 79) hx hb dX6_obey_65 (by decide) (fun c7 => ?_) (fun c7 => ?_)
        · refine lv_iconst (v := 0) hx hb dX6_obey_79 (by decide) ?_
          refine lv_istore (lv' := [(4, .int 0), (2, .int (nI (rpJ tx len i + 1))), (3, .int 1), (1, .int (nI qd)), (0, .ref ma)]) hx hb dX6_obey_80 hl (by decide) rfl (fun ls hl => ?_)
          refine lv_iload hx hb dX6_obey_82 (lv_at hl 0 rfl) ?_
          refine lv_if_ne (tgt := 91) hx hb dX6_obey_84 (by decide) (fun c8 => absurd c8 (by decide)) (fun c8 => ?_)
          refine lv_iconst (v := 1) hx hb dX6_obey_87 (by decide) ?_
          refine lv_goto (tgt := 92) hx hb dX6_obey_88 (by decide) ?_
          refine lv_istore_n (lv' := [(3, .int 1), (4, .int 0), (2, .int (nI (rpJ tx len i + 1))), (1, .int (nI qd)), (0, .ref ma)]) hx hb dX6_obey_92 rfl hl (by decide) rfl (fun ls hl => ?_)
          refine lv_iload_n hx hb dX6_obey_93 rfl (lv_at hl 0 rfl) ?_
          refine lv_if_eq (tgt := 107) hx hb dX6_obey_94 (by decide) (fun c9 => absurd c9 (by decide)) (fun c9 => ?_)
          refine lv_aload_n hx hb dX6_obey_97 rfl (lv_at hl 4 rfl) ?_
          refine k_cv (wr := [aI cI va 1350 0 (recS sd z q), aI cI ta 60 0 tx]) (ws2 := [oM ma za aa va ka ta (rpY tx len i yy), aI cI za 225 0 (doF zz n0 kk ((rpY tx len i yy) 4) ((rpY tx len i yy) 5) qd), aI cI va 1350 0 (recS sd z q), aI cI ta 60 0 tx]) (k_runV X w (met_X6_doPart l D cI cJ cO ma za aa va ka ta (rpY tx len i yy) zz n0 kk qd hbb hz hkk hn hn4 (rpY_vt hO) (fun h => absurd (rpY_4.symm.trans h) c7) H.size) gX6_obey_X6_doPart rfl rfl rfl 0 hdX6_doPart ⟨Nat.le_of_ble_eq_true rfl, Nat.le_of_ble_eq_true rfl⟩ [0, 1] rfl rfl 0 6 rfl rfl rfl rfl hl.1 rfl (Nat.le_of_ble_eq_true rfl) dX6_obey_98 ⟨Nat.le_of_ble_eq_true rfl, Nat.le_of_ble_eq_true rfl⟩) w hA [0, 1] [2, 3] rfl rfl rfl (by decide) [2, 3, 0, 1] rfl rfl (fun H locs w => ?_)
          have ep : doF zz n0 kk ((rpY tx len i yy) 4) ((rpY tx len i yy) 5) qd = doF zz (pn zz) (pk zz) (atT tx len i) (rpV tx len i) qd := by rw [rpY_do hO, pn_eq hn hn4, pkk_eq hz hkk]
          rw [ep] at w
          refine lv_iinc (v := nI (qd + 1)) (lv' := [(1, .int (nI (qd + 1))), (3, .int 1), (4, .int 0), (2, .int (nI (rpJ tx len i + 1))), (0, .ref ma)]) hx hb dX6_obey_101 hl (k := 3) rfl (nI_1 _) (by decide) rfl (fun ls hl => ?_)
          refine lv_goto (tgt := 135) hx hb dX6_obey_104 (by decide) ?_
          refine lv_goto (tgt := 39) hx hb dX6_obey_135 (by decide) ?_
          exact ih (rpJ tx len i + 1) (qd + 1) (doF zz (pn zz) (pk zz) (atT tx len i) (rpV tx len i) qd) (rpY tx len i yy) (by omega) (by omega) (fun h => fe_next hO (by omega) hL6 (hfe2 (by omega))) (doF_okb hbb hv3 hv9) (doF_okz hok2 hv) ((rpY_q (by decide) (by decide)).trans hyy) ((rbF_y c6 (doB_o c7)).symm.trans he) ((rbN_y c6 (doB_o c7)).symm.trans hN) ((rbY_y c6 (doB_o c7)).symm.trans hY) _ _ _ w (lv_sub hl [1, 3, 0, 4] rfl)
        · obtain ⟨v, hv1, hv2⟩ := hv.2.1 (Or.inr c7)
          have hv5 : rpY tx len i yy 5 = nI v := (rpY_5 hO (by rw [c7]; decide)).trans hv1
          refine lv_aload_n hx hb dX6_obey_68 rfl (lv_at hl 3 rfl) ?_
          refine lv_aload_n hx hb dX6_obey_69 rfl (lv_at hl 3 rfl) ?_
          refine k_get X w 0 rfl rfl 10 (by decide) rfl iX6_obey_X6 (List.mem_of_getElem? (i := 4) rfl) (v := .int ((rpY tx len i yy) 5)) rfl dX6_obey_70 ?_
          rw [hv5]
          refine k_ciR (k_runV X w (met_X6_whyNot l D cI cJ cO ma za aa va ka ta (rpY tx len i yy) zz n0 v hbb hn hn4 H.size) gX6_obey_X6_whyNot rfl rfl rfl 1 hdX6_whyNot ⟨Nat.le_of_ble_eq_true rfl, Nat.le_of_ble_eq_true rfl⟩ [0, 1] rfl rfl 0 6 rfl rfl rfl rfl hl.1 rfl (Nat.le_of_ble_eq_true rfl) dX6_obey_73 ⟨Nat.le_of_ble_eq_true rfl, Nat.le_of_ble_eq_true rfl⟩) w hA [0, 1] rfl (fun H locs w => ?_)
          refine lv_goto (tgt := 80) hx hb dX6_obey_76 (by decide) ?_
          refine lv_istore (lv' := [(4, .int (why zz v)), (2, .int (nI (rpJ tx len i + 1))), (3, .int 1), (1, .int (nI qd)), (0, .ref ma)]) hx hb dX6_obey_80 hl (by decide) rfl (fun ls hl => ?_)
          refine lv_iload hx hb dX6_obey_82 (lv_at hl 0 rfl) ?_
          refine lv_if_ne (tgt := 91) hx hb dX6_obey_84 (by decide) (fun c10 => ?_) (fun c10 => ?_)
          · refine lv_iconst (v := 0) hx hb dX6_obey_91 (by decide) ?_
            refine lv_istore_n (lv' := [(3, .int 0), (4, .int (why zz v)), (2, .int (nI (rpJ tx len i + 1))), (1, .int (nI qd)), (0, .ref ma)]) hx hb dX6_obey_92 rfl hl (by decide) rfl (fun ls hl => ?_)
            refine lv_iload_n hx hb dX6_obey_93 rfl (lv_at hl 0 rfl) ?_
            refine lv_if_eq (tgt := 107) hx hb dX6_obey_94 (by decide) (fun c11 => ?_) (fun c11 => absurd c11 (by decide))
            refine lv_aload_n hx hb dX6_obey_107 rfl (lv_at hl 4 rfl) ?_
            refine k_get X w 0 rfl rfl 1 (by decide) rfl iX6_obey_X6 (List.mem_of_getElem? (i := 5) rfl) (v := .ref za) rfl dX6_obey_108 ?_
            refine lv_bipush (v := 16) hx hb dX6_obey_111 (by decide) ?_
            refine lv_iload_n hx hb dX6_obey_113 rfl (lv_at hl 3 rfl) ?_
            refine k_iast X w 1 0 rfl rfl 16 (kj := 16) rfl (by decide) (by decide) rfl (ws2 := [oM ma za aa va ka ta (rpY tx len i yy), aI cI za 225 0 (upd zz 16 (nI qd)), aI cI va 1350 0 (recS sd z q), aI cI ta 60 0 tx]) rfl dX6_obey_114 (fun H locs w => ?_)
            refine lv_aload_n hx hb dX6_obey_115 rfl (lv_at hl 4 rfl) ?_
            refine k_get X w 0 rfl rfl 1 (by decide) rfl iX6_obey_X6 (List.mem_of_getElem? (i := 5) rfl) (v := .ref za) rfl dX6_obey_116 ?_
            refine lv_bipush (v := 17) hx hb dX6_obey_119 (by decide) ?_
            refine lv_iload hx hb dX6_obey_121 (lv_at hl 1 rfl) ?_
            refine k_iast X w 1 0 rfl rfl 17 (kj := 17) rfl (by decide) (by decide) rfl (ws2 := [oM ma za aa va ka ta (rpY tx len i yy), aI cI za 225 0 (upd (upd zz 16 (nI qd)) 17 (why zz v)), aI cI va 1350 0 (recS sd z q), aI cI ta 60 0 tx]) rfl dX6_obey_123 (fun H locs w => ?_)
            refine lv_aload_n hx hb dX6_obey_124 rfl (lv_at hl 4 rfl) ?_
            refine k_get X w 0 rfl rfl 1 (by decide) rfl iX6_obey_X6 (List.mem_of_getElem? (i := 5) rfl) (v := .ref za) rfl dX6_obey_125 ?_
            refine lv_bipush (v := 18) hx hb dX6_obey_128 (by decide) ?_
            refine lv_aload_n hx hb dX6_obey_130 rfl (lv_at hl 4 rfl) ?_
            refine k_get X w 0 rfl rfl 10 (by decide) rfl iX6_obey_X6 (List.mem_of_getElem? (i := 4) rfl) (v := .int ((rpY tx len i yy) 5)) rfl dX6_obey_131 ?_
            rw [hv5]
            refine k_iast X w 1 0 rfl rfl 18 (kj := 18) rfl (by decide) (by decide) rfl (ws2 := [oM ma za aa va ka ta (rpY tx len i yy), aI cI za 225 0 (upd (upd (upd zz 16 (nI qd)) 17 (why zz v)) 18 (nI v)), aI cI va 1350 0 (recS sd z q), aI cI ta 60 0 tx]) rfl dX6_obey_134 (fun H locs w => ?_)
            refine lv_goto (tgt := 39) hx hb dX6_obey_135 (by decide) ?_
            refine lv_iload_n hx hb dX6_obey_39 rfl (lv_at hl 0 rfl) ?_
            refine lv_if_eq (tgt := 138) hx hb dX6_obey_40 (by decide) (fun c12 => ?_) (fun c12 => absurd c12 (by decide))
            refine lv_aload_n hx hb dX6_obey_138 rfl (lv_at hl 4 rfl) ?_
            refine lv_iconst (v := 0) hx hb dX6_obey_139 (by decide) ?_
            refine k_put X w 0 rfl rfl 8 (by decide) rfl iX6_obey_X6 (List.mem_of_getElem? (i := 2) rfl) tyX6_ok nmX6 rfl rfl (Nat.le_of_ble_eq_true rfl) (ws2 := [oM ma za aa va ka ta (upd (rpY tx len i yy) 3 0), aI cI za 225 0 (upd (upd (upd zz 16 (nI qd)) 17 (why zz v)) 18 (nI v)), aI cI va 1350 0 (recS sd z q), aI cI ta 60 0 tx]) rfl dX6_obey_140 (fun H locs w => ?_)
            refine lv_iload_n hx hb dX6_obey_143 rfl (lv_at hl 3 rfl) ?_
            have ey : rpY tx len i yy = (rbY tx len (len + 1) 0 (fst0 z) 0 (upd (upd (feY tx len (len + 1) 0 y) 0 0) 1 (nI (recN q)))) := ((rbY_n c6 ((doB_114 c7 hv1 hv2).trans (decide_eq_false c10))).symm.trans hY)
            have ez : upd (upd (upd zz 16 (nI qd)) 17 (why zz v)) 18 (nI v) = (rbF tx len (len + 1) 0 (fst0 z) 0) := ((doF_stop c7 hv1 hv2 c10).symm.trans ((rbF_n c6 ((doB_114 c7 hv1 hv2).trans (decide_eq_false c10))).symm.trans he))
            have w := w.to (show [oM ma za aa va ka ta (upd (rpY tx len i yy) 3 0), aI cI za 225 0 (upd (upd (upd zz 16 (nI qd)) 17 (why zz v)) 18 (nI v)), aI cI va 1350 0 (recS sd z q), aI cI ta 60 0 tx] = [oM ma za aa va ka ta (upd (rbY tx len (len + 1) 0 (fst0 z) 0 (upd (upd (feY tx len (len + 1) 0 y) 0 0) 1 (nI (recN q)))) 3 0), aI cI za 225 0 (rbF tx len (len + 1) 0 (fst0 z) 0), aI cI va 1350 0 (recS sd z q), aI cI ta 60 0 tx] by rw [ey, ez])
            exact fin _ _ _ _ _ w (by exact congrArg nI ((rbN_n c6 ((doB_114 c7 hv1 hv2).trans (decide_eq_false c10))).symm.trans hN)) dX6_obey_144
          · refine lv_iconst (v := 1) hx hb dX6_obey_87 (by decide) ?_
            refine lv_goto (tgt := 92) hx hb dX6_obey_88 (by decide) ?_
            refine lv_istore_n (lv' := [(3, .int 1), (4, .int (why zz v)), (2, .int (nI (rpJ tx len i + 1))), (1, .int (nI qd)), (0, .ref ma)]) hx hb dX6_obey_92 rfl hl (by decide) rfl (fun ls hl => ?_)
            refine lv_iload_n hx hb dX6_obey_93 rfl (lv_at hl 0 rfl) ?_
            refine lv_if_eq (tgt := 107) hx hb dX6_obey_94 (by decide) (fun c13 => absurd c13 (by decide)) (fun c13 => ?_)
            refine lv_aload_n hx hb dX6_obey_97 rfl (lv_at hl 4 rfl) ?_
            refine k_cv (wr := [aI cI va 1350 0 (recS sd z q), aI cI ta 60 0 tx]) (ws2 := [oM ma za aa va ka ta (rpY tx len i yy), aI cI za 225 0 (doF zz n0 kk ((rpY tx len i yy) 4) ((rpY tx len i yy) 5) qd), aI cI va 1350 0 (recS sd z q), aI cI ta 60 0 tx]) (k_runV X w (met_X6_doPart l D cI cJ cO ma za aa va ka ta (rpY tx len i yy) zz n0 kk qd hbb hz hkk hn hn4 (rpY_vt hO) (fun _ => by rw [hv5, nI_clamp (by omega)]; exact c10) H.size) gX6_obey_X6_doPart rfl rfl rfl 0 hdX6_doPart ⟨Nat.le_of_ble_eq_true rfl, Nat.le_of_ble_eq_true rfl⟩ [0, 1] rfl rfl 0 6 rfl rfl rfl rfl hl.1 rfl (Nat.le_of_ble_eq_true rfl) dX6_obey_98 ⟨Nat.le_of_ble_eq_true rfl, Nat.le_of_ble_eq_true rfl⟩) w hA [0, 1] [2, 3] rfl rfl rfl (by decide) [2, 3, 0, 1] rfl rfl (fun H locs w => ?_)
            have ep : doF zz n0 kk ((rpY tx len i yy) 4) ((rpY tx len i yy) 5) qd = doF zz (pn zz) (pk zz) (atT tx len i) (rpV tx len i) qd := by rw [rpY_do hO, pn_eq hn hn4, pkk_eq hz hkk]
            rw [ep] at w
            refine lv_iinc (v := nI (qd + 1)) (lv' := [(1, .int (nI (qd + 1))), (3, .int 1), (4, .int (why zz v)), (2, .int (nI (rpJ tx len i + 1))), (0, .ref ma)]) hx hb dX6_obey_101 hl (k := 3) rfl (nI_1 _) (by decide) rfl (fun ls hl => ?_)
            refine lv_goto (tgt := 135) hx hb dX6_obey_104 (by decide) ?_
            refine lv_goto (tgt := 39) hx hb dX6_obey_135 (by decide) ?_
            exact ih (rpJ tx len i + 1) (qd + 1) (doF zz (pn zz) (pk zz) (atT tx len i) (rpV tx len i) qd) (rpY tx len i yy) (by omega) (by omega) (fun h => fe_next hO (by omega) hL6 (hfe2 (by omega))) (doF_okb hbb hv3 hv9) (doF_okz hok2 hv) ((rpY_q (by decide) (by decide)).trans hyy) ((rbF_y c6 ((doB_114 c7 hv1 hv2).trans (decide_eq_true c10))).symm.trans he) ((rbN_y c6 ((doB_114 c7 hv1 hv2).trans (decide_eq_true c10))).symm.trans hN) ((rbY_y c6 ((doB_114 c7 hv1 hv2).trans (decide_eq_true c10))).symm.trans hY) _ _ _ w (lv_sub hl [1, 3, 0, 4] rfl)
  exact lp39 (len + 1) 0 0 (fst0 z) (upd (upd (feY tx len (len + 1) 0 y) 0 0) 1 (nI (recN q))) (by omega) (by omega) (fun _ => hfe) (okb_u (by omega) (okb_u (by omega) (okb_u (by omega) hob))) (fst0_ok hok) ((upd_no (by decide)).trans ((upd_no (by decide)).trans ((feY_q (by decide) (by decide) _ _ _).trans hL))) rfl rfl rfl _ _ _ w (lv_sub hl [0, 1, 2, 3] rfl)
set_option maxHeartbeats 4000000 in
set_option maxRecDepth 100000 in
theorem met_X6_obey_t (l : Launch) (D : va_G) (cI cJ cO : ClassId) (ma : Nat) (za : Nat) (aa : Nat) (va : Nat) (ka : Nat) (ta : Nat) (y : Nat → Int32) (tx : Nat → Int32) (len : Nat) (hL : y 3 = nI len) (hL6 : len ≤ 60) (hfe : 0 ≤ feR tx len (len + 1) 0) : CI l D (TY cI cJ cO) yX6_obey wsX6_obey ({ frames := 5, cells := 0, slots := 0, locals := 110 }) [.ref ma] [oM ma za aa va ka ta y, aI cI ta 60 0 tx] 0 [oM ma za aa va ka ta (upd (feY tx len (len + 1) 0 y) 0 1), aI cI ta 60 0 tx] := by
  refine CI.of (plainFor_of_name (by decide)) rfl (Nat.le_of_ble_eq_true rfl) (rfl) (fun p e s m below meth c A ls Q X hA w hl fin => ?_)
  obtain ⟨hx, hb, hml, hown, hts⟩ := id X.1
  have hl : lv_has ls 5 [(0, .ref ma)] := hl
  refine lv_aload_n hx hb dX6_obey_0 rfl (lv_at hl 0 rfl) ?_
  refine lv_aload_n hx hb dX6_obey_1 rfl (lv_at hl 0 rfl) ?_
  refine k_ci (wr := []) (ws2 := [oM ma za aa va ka ta (feY tx len (len + 1) 0 y), aI cI ta 60 0 tx]) (k_runV X w (met_X6_findError l D cI cJ cO ma za aa va ka ta y tx len hL hL6 s.heap.size) gX6_obey_X6_findError rfl rfl rfl 0 hdX6_findError ⟨Nat.le_of_ble_eq_true rfl, Nat.le_of_ble_eq_true rfl⟩ [0, 1] rfl rfl 0 6 rfl rfl rfl rfl hl.1 rfl (Nat.le_of_ble_eq_true rfl) dX6_obey_2 ⟨Nat.le_of_ble_eq_true rfl, Nat.le_of_ble_eq_true rfl⟩) w hA [0, 1] [] rfl rfl rfl (by decide) [0, 1] rfl rfl (fun H locs w => ?_)
  refine lv_if_ge (tgt := 12) hx hb dX6_obey_5 (by decide) (fun c1 => ?_) (fun c1 => absurd hfe c1)
  refine lv_iconst (v := 1) hx hb dX6_obey_12 (by decide) ?_
  refine k_put X w 0 rfl rfl 0 (by decide) rfl iX6_obey_X6 (List.mem_of_getElem? (i := 1) rfl) tyX6_ok nmX6 rfl rfl (Nat.le_of_ble_eq_true rfl) (ws2 := [oM ma za aa va ka ta (upd (feY tx len (len + 1) 0 y) 0 1), aI cI ta 60 0 tx]) rfl dX6_obey_13 (fun H locs w => ?_)
  refine lv_aload_n hx hb dX6_obey_16 rfl (lv_at hl 0 rfl) ?_
  refine k_get X w 0 rfl rfl 0 (by decide) rfl iX6_obey_X6 (List.mem_of_getElem? (i := 1) rfl) (v := .int 1) (congrArg (fun t => some (Value.int t)) (upd_is _ _ _)) dX6_obey_17 ?_
  refine lv_if_le (tgt := 25) hx hb dX6_obey_20 (by decide) (fun c2 => absurd c2 (by decide)) (fun c2 => ?_)
  refine lv_iconst (v := 0) hx hb dX6_obey_23 (by decide) ?_
  exact fin _ _ _ _ _ w rfl dX6_obey_24
