theorem sub5 {L i : Nat} (hL : L ≤ 2560) (hi : i ≤ 2560) : nI L - 5 < nI i ↔ L < i + 5 := by
  rw [Int32.lt_iff_toInt_lt, Int32.toInt_sub, nI_toInt (by omega), nI_toInt (by omega), show (5 : Int32).toInt = 5 by decide, Int.bmod_eq_of_le (by omega) (by omega)]
  omega
section LOOP
variable {p : Program} {l : Launch} {e : Env} {s : State} {m : MethodId} {below : List Frame} {meth : Method} {c : Code} {Q : State → Prop} {A : Nat → Prop} {D : va_G} {cI cJ cO : ClassId} {o : Nat → Nat} {bs L : Nat} {xs : Nat → Int32}
  {xx ob an ak sv b tr w1n wan pan ran san w1k wak pak rak sak tc tk tn twa rr ma za aa va ka ta : Nat} {rg : Nat → Nat → Nat}
set_option maxHeartbeats 16000000 in
set_option maxRecDepth 100000 in
theorem law_loop (hst : l.stackTraces = false) (X : cx p m c cL_law 9 s #[.ref bs] wsL_law RL D (TY cI cJ cO)) (hA : ∀ q : Nat, s.heap.size ≤ q → A q) (ox : OX o cI A s s.heap) (hX : va_X bs L xs s s.heap) (hbl : bs < s.heap.size) (hbA : ¬ A bs) (hL : L ≤ 2560)
    (fin : ∀ (z : Nat → Int32) (zk : Nat → Int32) (t : Nat → Int32) (zt : Nat → Int32) (y : Nat → Int32) (zs : Nat → Nat → Int32) (hf : Int32) (ov : Int64) (yr : Nat → Int32) (sd : Nat → Int32) (kp : Nat → Int32) (tx : Nat → Int32) (ad : Nat → Int32) (H : Heap) (locs : List Loc) (ls : Array Slot) (cells slots : Nat), wd D A s.heap H locs ([aL cJ ob ov, oX xx an ak sv b tr hf, oS an w1n pan san z, aI cI san 4 12 z, oW w1n wan z, aI cI wan 6 19 z, oP pan ran z, aI cI ran 200 25 z, oS ak w1k pak sak zk, aI cI sak 4 12 zk, oW w1k wak zk, aI cI wak 6 19 zk, oP pak rak zk, aI cI rak 200 25 zk, oT b tc tk tn t, aI cI tc 60 300 t, aI cI tk 60 100 t, aI cI tn 60 200 t, oW tr twa zt, aI cI twa 6 19 zt, oV sv rr y, aO cO rr (rgA rg), oM ma za aa va ka ta yr, aI cI za 225 0 z, aI cI aa 225 0 ad, aI cI va 1350 0 sd, aI cI ka 225 0 kp, aI cI ta 60 0 tx] ++ rgS cI rg zs) → cells ≤ 601024 → slots ≤ 7293034 → W p l e room_1 s m #[.ref bs] below meth c H locs cells slots Q (F0 m 1397 ls [])) :
    ∀ (n iS cells slots : Nat) (M : Int) (z : Nat → Int32) (zk : Nat → Int32) (t : Nat → Int32) (zt : Nat → Int32) (y : Nat → Int32) (zs : Nat → Nat → Int32) (hf : Int32) (ov : Int64) (yr : Nat → Int32) (sd : Nat → Int32) (kp : Nat → Int32) (tx : Nat → Int32) (ad : Nat → Int32), L < iS + 5 * n + 5 → iS ≤ 2560 → cells + n ≤ 601024 → slots + 6 * n ≤ 7293034 → M + 6000 * n ≤ 10000000 → INV M z zk t y zs hf yr sd kp tx → ∀ (H : Heap) (locs : List Loc) (ls : Array Slot), wd D A s.heap H locs ([aL cJ ob ov, oX xx an ak sv b tr hf, oS an w1n pan san z, aI cI san 4 12 z, oW w1n wan z, aI cI wan 6 19 z, oP pan ran z, aI cI ran 200 25 z, oS ak w1k pak sak zk, aI cI sak 4 12 zk, oW w1k wak zk, aI cI wak 6 19 zk, oP pak rak zk, aI cI rak 200 25 zk, oT b tc tk tn t, aI cI tc 60 300 t, aI cI tk 60 100 t, aI cI tn 60 200 t, oW tr twa zt, aI cI twa 6 19 zt, oV sv rr y, aO cO rr (rgA rg), oM ma za aa va ka ta yr, aI cI za 225 0 z, aI cI aa 225 0 ad, aI cI va 1350 0 sd, aI cI ka 225 0 kp, aI cI ta 60 0 tx] ++ rgS cI rg zs) → lv_has ls 9 [(0, .ref bs), (1, .ref xx), (2, .ref ma), (3, .ref ob), (4, .int (nI iS))] → W p l e room_1 s m #[.ref bs] below meth c H locs cells slots Q (F0 m 23 ls []) := by
  obtain ⟨hx, hb, hml, hown, hts⟩ := id X.1
  intro n
  induction n with
  | zero =>
    intro iS cells slots M z zk t zt y zs hf ov yr sd kp tx ad hn hi hc hs hM iv H locs ls w hl
    refine lv_iload hx hb dL_law_23 (lv_at hl 4 rfl) ?_
    refine lv_aload_n hx hb dL_law_25 rfl (lv_at hl 0 rfl) ?_
    refine va_slen hx hb hX hbl hbA w.2.2 dL_law_26 ?_
    refine lv_iconst (v := 5) hx hb dL_law_27 (by decide) ?_
    refine lv_isub hx hb dL_law_28 ?_
    refine lv_icmp_gt (tgt := 1397) hx hb dL_law_29 (by decide) (fun c1 => ?_) (fun c1 => absurd ((sub5 hL hi).mpr (by omega)) c1)
    exact fin _ _ _ _ _ _ _ _ _ _ _ _ _ _ _ _ _ _ w (by omega) (by omega)
  | succ n ih =>
    intro iS cells slots M z zk t zt y zs hf ov yr sd kp tx ad hn hi hc hs hM iv H locs ls w hl
    refine lv_iload hx hb dL_law_23 (lv_at hl 4 rfl) ?_
    refine lv_aload_n hx hb dL_law_25 rfl (lv_at hl 0 rfl) ?_
    refine va_slen hx hb hX hbl hbA w.2.2 dL_law_26 ?_
    refine lv_iconst (v := 5) hx hb dL_law_27 (by decide) ?_
    refine lv_isub hx hb dL_law_28 ?_
    refine lv_icmp_gt (tgt := 1397) hx hb dL_law_29 (by decide) (fun c1 => ?_) (fun c1 => ?_)
    · exact fin _ _ _ _ _ _ _ _ _ _ _ _ _ _ _ _ _ _ w (by omega) (by omega)
    have hiS : iS + 4 < L := by
      have := mt (sub5 hL hi).mpr c1
      omega
    have K : ∀ (z' : Nat → Int32) (zk' : Nat → Int32) (t' : Nat → Int32) (zt' : Nat → Int32) (y' : Nat → Int32) (zs' : Nat → Nat → Int32) (hf' : Int32) (ov' : Int64) (yr' : Nat → Int32) (sd' : Nat → Int32) (kp' : Nat → Int32) (tx' : Nat → Int32) (ad' : Nat → Int32) (H : Heap) (locs : List Loc) (ls : Array Slot), INV (M + 6000) z' zk' t' y' zs' hf' yr' sd' kp' tx' → wd D A s.heap H locs ([aL cJ ob ov', oX xx an ak sv b tr hf', oS an w1n pan san z', aI cI san 4 12 z', oW w1n wan z', aI cI wan 6 19 z', oP pan ran z', aI cI ran 200 25 z', oS ak w1k pak sak zk', aI cI sak 4 12 zk', oW w1k wak zk', aI cI wak 6 19 zk', oP pak rak zk', aI cI rak 200 25 zk', oT b tc tk tn t', aI cI tc 60 300 t', aI cI tk 60 100 t', aI cI tn 60 200 t', oW tr twa zt', aI cI twa 6 19 zt', oV sv rr y', aO cO rr (rgA rg), oM ma za aa va ka ta yr', aI cI za 225 0 z', aI cI aa 225 0 ad', aI cI va 1350 0 sd', aI cI ka 225 0 kp', aI cI ta 60 0 tx'] ++ rgS cI rg zs') → lv_has ls 9 [(0, .ref bs), (1, .ref xx), (2, .ref ma), (3, .ref ob), (4, .int (nI iS))] → W p l e room_1 s m #[.ref bs] below meth c H locs (cells + 1) (slots + 6) Q (F0 m 1391 ls []) := by
      intro z' zk' t' zt' y' zs' hf' ov' yr' sd' kp' tx' ad' H locs ls iv w hl
      refine lv_iinc (v := nI (iS + 5)) (lv' := [(4, .int (nI (iS + 5))), (0, .ref bs), (1, .ref xx), (2, .ref ma), (3, .ref ob)]) hx hb dL_law_1391 hl (k := 4) rfl ((congrArg (fun t => nI iS + t) (show _ = nI 5 by decide)).trans (nI_add iS 5)) (by decide) rfl (fun ls hl => ?_)
      refine lv_goto (tgt := 23) hx hb dL_law_1394 (by decide) ?_
      exact ih (iS + 5) (cells + 1) (slots + 6) (M + 6000) z' zk' t' zt' y' zs' hf' ov' yr' sd' kp' tx' ad' (by omega) (by omega) (by omega) (by omega) (by omega) iv _ _ _ w (lv_sub hl [1, 2, 3, 4, 0] rfl)
    refine lv_aload_n hx hb dL_law_32 rfl (lv_at hl 0 rfl) ?_
    refine lv_iload hx hb dL_law_33 (lv_at hl 4 rfl) ?_
    refine k_sld X hX hbl hbA w (j := iS) (by omega) (by omega) rfl (v := xs iS) rfl dL_law_35 ?_
    refine lv_bipush (v := 31) hx hb dL_law_36 (by decide) ?_
    refine lv_iand hx hb dL_law_38 ?_
    by_cases c2 : xs iS &&& 31 = 0
    · refine lv_tableIn (off := 125) (tgt := 164) hx hb dL_law_39 (by rw [c2]; decide) (by rw [c2]; decide) (by rw [c2]; decide) (by decide) ?_
      exact case_0 hst X hA ox hX hbl hbA hL hiS ⟨by omega, by omega⟩ (by omega) iv w hl K
    by_cases c3 : xs iS &&& 31 = 1
    · refine lv_tableIn (off := 181) (tgt := 220) hx hb dL_law_39 (by rw [c3]; decide) (by rw [c3]; decide) (by rw [c3]; decide) (by decide) ?_
      exact case_1 hst X hA ox hX hbl hbA hL hiS ⟨by omega, by omega⟩ (by omega) iv w hl K
    by_cases c4 : xs iS &&& 31 = 2
    · refine lv_tableIn (off := 249) (tgt := 288) hx hb dL_law_39 (by rw [c4]; decide) (by rw [c4]; decide) (by rw [c4]; decide) (by decide) ?_
      exact case_2 hst X hA ox hX hbl hbA hL hiS ⟨by omega, by omega⟩ (by omega) iv w hl K
    by_cases c5 : xs iS &&& 31 = 3
    · refine lv_tableIn (off := 317) (tgt := 356) hx hb dL_law_39 (by rw [c5]; decide) (by rw [c5]; decide) (by rw [c5]; decide) (by decide) ?_
      exact case_3 hst X hA ox hX hbl hbA hL hiS ⟨by omega, by omega⟩ (by omega) iv w hl K
    by_cases c6 : xs iS &&& 31 = 4
    · refine lv_tableIn (off := 373) (tgt := 412) hx hb dL_law_39 (by rw [c6]; decide) (by rw [c6]; decide) (by rw [c6]; decide) (by decide) ?_
      exact case_4 hst X hA ox hX hbl hbA hL hiS ⟨by omega, by omega⟩ (by omega) iv w hl K
    by_cases c7 : xs iS &&& 31 = 5
    · refine lv_tableIn (off := 386) (tgt := 425) hx hb dL_law_39 (by rw [c7]; decide) (by rw [c7]; decide) (by rw [c7]; decide) (by decide) ?_
      exact case_5 hst X hA ox hX hbl hbA hL hiS ⟨by omega, by omega⟩ (by omega) iv w hl K
    by_cases c8 : xs iS &&& 31 = 6
    · refine lv_tableIn (off := 399) (tgt := 438) hx hb dL_law_39 (by rw [c8]; decide) (by rw [c8]; decide) (by rw [c8]; decide) (by decide) ?_
      exact case_6 hst X hA ox hX hbl hbA hL hiS ⟨by omega, by omega⟩ (by omega) iv w hl K
    by_cases c9 : xs iS &&& 31 = 7
    · refine lv_tableIn (off := 455) (tgt := 494) hx hb dL_law_39 (by rw [c9]; decide) (by rw [c9]; decide) (by rw [c9]; decide) (by decide) ?_
      exact case_7 hst X hA ox hX hbl hbA hL hiS ⟨by omega, by omega⟩ (by omega) iv w hl K
    by_cases c10 : xs iS &&& 31 = 8
    · refine lv_tableIn (off := 511) (tgt := 550) hx hb dL_law_39 (by rw [c10]; decide) (by rw [c10]; decide) (by rw [c10]; decide) (by decide) ?_
      exact case_8 hst X hA ox hX hbl hbA hL hiS ⟨by omega, by omega⟩ (by omega) iv w hl K
    by_cases c11 : xs iS &&& 31 = 9
    · refine lv_tableIn (off := 567) (tgt := 606) hx hb dL_law_39 (by rw [c11]; decide) (by rw [c11]; decide) (by rw [c11]; decide) (by decide) ?_
      exact case_9 hst X hA ox hX hbl hbA hL hiS ⟨by omega, by omega⟩ (by omega) iv w hl K
    by_cases c12 : xs iS &&& 31 = 10
    · refine lv_tableIn (off := 580) (tgt := 619) hx hb dL_law_39 (by rw [c12]; decide) (by rw [c12]; decide) (by rw [c12]; decide) (by decide) ?_
      exact case_10 hst X hA ox hX hbl hbA hL hiS ⟨by omega, by omega⟩ (by omega) iv w hl K
    by_cases c13 : xs iS &&& 31 = 11
    · refine lv_tableIn (off := 648) (tgt := 687) hx hb dL_law_39 (by rw [c13]; decide) (by rw [c13]; decide) (by rw [c13]; decide) (by decide) ?_
      exact case_11 hst X hA ox hX hbl hbA hL hiS ⟨by omega, by omega⟩ (by omega) iv w hl K
    by_cases c14 : xs iS &&& 31 = 12
    · refine lv_tableIn (off := 704) (tgt := 743) hx hb dL_law_39 (by rw [c14]; decide) (by rw [c14]; decide) (by rw [c14]; decide) (by decide) ?_
      exact case_12 hst X hA ox hX hbl hbA hL hiS ⟨by omega, by omega⟩ (by omega) iv w hl K
    by_cases c15 : xs iS &&& 31 = 13
    · refine lv_tableIn (off := 717) (tgt := 756) hx hb dL_law_39 (by rw [c15]; decide) (by rw [c15]; decide) (by rw [c15]; decide) (by decide) ?_
      exact case_13 hst X hA ox hX hbl hbA hL hiS ⟨by omega, by omega⟩ (by omega) iv w hl K
    by_cases c16 : xs iS &&& 31 = 14
    · refine lv_tableIn (off := 730) (tgt := 769) hx hb dL_law_39 (by rw [c16]; decide) (by rw [c16]; decide) (by rw [c16]; decide) (by decide) ?_
      exact case_14 hst X hA ox hX hbl hbA hL hiS ⟨by omega, by omega⟩ (by omega) iv w hl K
    by_cases c17 : xs iS &&& 31 = 15
    · refine lv_tableIn (off := 774) (tgt := 813) hx hb dL_law_39 (by rw [c17]; decide) (by rw [c17]; decide) (by rw [c17]; decide) (by decide) ?_
      exact case_15 hst X hA ox hX hbl hbA hL hiS ⟨by omega, by omega⟩ (by omega) iv w hl K
    by_cases c18 : xs iS &&& 31 = 16
    · refine lv_tableIn (off := 830) (tgt := 869) hx hb dL_law_39 (by rw [c18]; decide) (by rw [c18]; decide) (by rw [c18]; decide) (by decide) ?_
      exact case_16 hst X hA ox hX hbl hbA hL hiS ⟨by omega, by omega⟩ (by omega) iv w hl K
    by_cases c19 : xs iS &&& 31 = 17
    · refine lv_tableIn (off := 874) (tgt := 913) hx hb dL_law_39 (by rw [c19]; decide) (by rw [c19]; decide) (by rw [c19]; decide) (by decide) ?_
      exact case_17 hst X hA ox hX hbl hbA hL hiS ⟨by omega, by omega⟩ (by omega) iv w hl K
    by_cases c20 : xs iS &&& 31 = 18
    · refine lv_tableIn (off := 887) (tgt := 926) hx hb dL_law_39 (by rw [c20]; decide) (by rw [c20]; decide) (by rw [c20]; decide) (by decide) ?_
      exact case_18 hst X hA ox hX hbl hbA hL hiS ⟨by omega, by omega⟩ (by omega) iv w hl K
    by_cases c21 : xs iS &&& 31 = 19
    · refine lv_tableIn (off := 931) (tgt := 970) hx hb dL_law_39 (by rw [c21]; decide) (by rw [c21]; decide) (by rw [c21]; decide) (by decide) ?_
      exact case_19 hst X hA ox hX hbl hbA hL hiS ⟨by omega, by omega⟩ (by omega) iv w hl K
    by_cases c22 : xs iS &&& 31 = 20
    · refine lv_tableIn (off := 999) (tgt := 1038) hx hb dL_law_39 (by rw [c22]; decide) (by rw [c22]; decide) (by rw [c22]; decide) (by decide) ?_
      exact case_20 hst X hA ox hX hbl hbA hL hiS ⟨by omega, by omega⟩ (by omega) iv w hl K
    by_cases c23 : xs iS &&& 31 = 21
    · refine lv_tableIn (off := 1067) (tgt := 1106) hx hb dL_law_39 (by rw [c23]; decide) (by rw [c23]; decide) (by rw [c23]; decide) (by decide) ?_
      exact case_21 hst X hA ox hX hbl hbA hL hiS ⟨by omega, by omega⟩ (by omega) iv w hl K
    by_cases c24 : xs iS &&& 31 = 22
    · refine lv_tableIn (off := 1123) (tgt := 1162) hx hb dL_law_39 (by rw [c24]; decide) (by rw [c24]; decide) (by rw [c24]; decide) (by decide) ?_
      exact case_22 hst X hA ox hX hbl hbA hL hiS ⟨by omega, by omega⟩ (by omega) iv w hl K
    by_cases c25 : xs iS &&& 31 = 23
    · refine lv_tableIn (off := 1215) (tgt := 1254) hx hb dL_law_39 (by rw [c25]; decide) (by rw [c25]; decide) (by rw [c25]; decide) (by decide) ?_
      exact case_23 hst X hA ox hX hbl hbA hL hiS ⟨by omega, by omega⟩ (by omega) iv w hl K
    by_cases c26 : xs iS &&& 31 = 24
    · refine lv_tableIn (off := 1228) (tgt := 1267) hx hb dL_law_39 (by rw [c26]; decide) (by rw [c26]; decide) (by rw [c26]; decide) (by decide) ?_
      exact case_24 hst X hA ox hX hbl hbA hL hiS ⟨by omega, by omega⟩ (by omega) iv w hl K
    by_cases c27 : xs iS &&& 31 = 25
    · refine lv_tableIn (off := 1284) (tgt := 1323) hx hb dL_law_39 (by rw [c27]; decide) (by rw [c27]; decide) (by rw [c27]; decide) (by decide) ?_
      exact case_25 hst X hA ox hX hbl hbA hL hiS ⟨by omega, by omega⟩ (by omega) iv w hl K
    by_cases c28 : xs iS &&& 31 = 26
    · refine lv_tableIn (off := 1297) (tgt := 1336) hx hb dL_law_39 (by rw [c28]; decide) (by rw [c28]; decide) (by rw [c28]; decide) (by decide) ?_
      exact case_26 hst X hA ox hX hbl hbA hL hiS ⟨by omega, by omega⟩ (by omega) iv w hl K
    by_cases c29 : xs iS &&& 31 = 27
    · refine lv_tableIn (off := 1338) (tgt := 1377) hx hb dL_law_39 (by rw [c29]; decide) (by rw [c29]; decide) (by rw [c29]; decide) (by decide) ?_
      exact case_27 hst X hA ox hX hbl hbA hL hiS ⟨by omega, by omega⟩ (by omega) iv w hl K
    refine lv_tableOut (tgt := 1391) hx hb dL_law_39 (by have := lv_neT c2 (show (0 : Int32).toInt = 0 by decide); have := lv_neT c3 (show (1 : Int32).toInt = 1 by decide); have := lv_neT c4 (show (2 : Int32).toInt = 2 by decide); have := lv_neT c5 (show (3 : Int32).toInt = 3 by decide); have := lv_neT c6 (show (4 : Int32).toInt = 4 by decide); have := lv_neT c7 (show (5 : Int32).toInt = 5 by decide); have := lv_neT c8 (show (6 : Int32).toInt = 6 by decide); have := lv_neT c9 (show (7 : Int32).toInt = 7 by decide); have := lv_neT c10 (show (8 : Int32).toInt = 8 by decide); have := lv_neT c11 (show (9 : Int32).toInt = 9 by decide); have := lv_neT c12 (show (10 : Int32).toInt = 10 by decide); have := lv_neT c13 (show (11 : Int32).toInt = 11 by decide); have := lv_neT c14 (show (12 : Int32).toInt = 12 by decide); have := lv_neT c15 (show (13 : Int32).toInt = 13 by decide); have := lv_neT c16 (show (14 : Int32).toInt = 14 by decide); have := lv_neT c17 (show (15 : Int32).toInt = 15 by decide); have := lv_neT c18 (show (16 : Int32).toInt = 16 by decide); have := lv_neT c19 (show (17 : Int32).toInt = 17 by decide); have := lv_neT c20 (show (18 : Int32).toInt = 18 by decide); have := lv_neT c21 (show (19 : Int32).toInt = 19 by decide); have := lv_neT c22 (show (20 : Int32).toInt = 20 by decide); have := lv_neT c23 (show (21 : Int32).toInt = 21 by decide); have := lv_neT c24 (show (22 : Int32).toInt = 22 by decide); have := lv_neT c25 (show (23 : Int32).toInt = 23 by decide); have := lv_neT c26 (show (24 : Int32).toInt = 24 by decide); have := lv_neT c27 (show (25 : Int32).toInt = 25 by decide); have := lv_neT c28 (show (26 : Int32).toInt = 26 by decide); have := lv_neT c29 (show (27 : Int32).toInt = 27 by decide); omega) (by decide) ?_
    refine W.wide (Nat.le_succ _) (Nat.le_add_right _ 6) ?_
    exact K z zk t zt y zs hf ov yr sd kp tx ad _ _ _ (INV_same iv rfl rfl rfl) w hl
end LOOP
