/-! What the law's steps ask of numbers; the paper behind a reading. -/
theorem in_up {i b : Nat} (h : i < b) (hb : b < 100000) : inR (nI (1 + i)) 1 (nI b) :=
  ⟨nI_nlt (a := 1 + i) (b := 1) (by omega) (by omega), nI_le (by omega) (by omega)⟩
theorem sub_I {i b : Nat} (hi : i < 100000) (hb : b < 100000) : (nI i - nI b).toInt = (i : Int) - b := by
  rw [fb_subI (by rw [nI_toInt (by omega), nI_toInt (by omega)]; omega) (by rw [nI_toInt (by omega), nI_toInt (by omega)]; omega), nI_toInt (by omega), nI_toInt (by omega)]
theorem rng_in {v lo hi : Int32} {a b : Int} (h : rng v a b) (h1 : lo.toInt = a) (h2 : hi.toInt = b) : inR v lo hi := by
  obtain ⟨x, y⟩ := h
  refine ⟨fun c => ?_, ?_⟩
  · rw [fa_lt] at c
    omega
  · rw [fa_le]
    omega
theorem in_s60 {i : Nat} (h : i < 121) : inR (nI i - 60) (-60) 60 := rng_in (a := -60) (b := 60) (by have := sub_I (i := i) (b := 60) (by omega) (by omega); exact ⟨by show -60 ≤ (nI i - nI 60).toInt; omega, by show (nI i - nI 60).toInt ≤ 60; omega⟩) (by decide) (by decide)
theorem in_s99 {i : Nat} (h : i < 199) : inR (nI i - 99) (-99) 99 := rng_in (a := -99) (b := 99) (by have := sub_I (i := i) (b := 99) (by omega) (by omega); exact ⟨by show -99 ≤ (nI i - nI 99).toInt; omega, by show (nI i - nI 99).toInt ≤ 99; omega⟩) (by decide) (by decide)
theorem in_s50 {i : Nat} (h : i < 101) : inR (nI i - 50) (-50) 50 := rng_in (a := -50) (b := 50) (by have := sub_I (i := i) (b := 50) (by omega) (by omega); exact ⟨by show -50 ≤ (nI i - nI 50).toInt; omega, by show (nI i - nI 50).toInt ≤ 50; omega⟩) (by decide) (by decide)
theorem in_adj {i : Nat} (h : i < 20) : inR (nI i - 50 + 40) (-50) 50 := by
  have e := sub_I (i := i) (b := 50) (by omega) (by omega)
  have e2 : (nI i - nI 50).toInt = (i : Int) - 50 := e
  have e3 : (nI i - nI 50 + 40).toInt = (i : Int) - 10 := by
    rw [fb_addI (by rw [e2, show (40 : Int32).toInt = 40 by decide]; omega) (by rw [e2, show (40 : Int32).toInt = 40 by decide]; omega), e2, show (40 : Int32).toInt = 40 by decide]
    omega
  exact rng_in (a := -50) (b := 50) ⟨by show -50 ≤ (nI i - nI 50 + 40).toInt; omega, by show (nI i - nI 50 + 40).toInt ≤ 50; omega⟩ (by decide) (by decide)
theorem in_add {i a b : Nat} (hi : i + a ≤ b) (hb : b < 100000) : inR (nI a + nI i) (nI a) (nI b) := by
  rw [nI_add]
  exact ⟨nI_nlt (a := a + i) (b := a) (by omega) (by omega), nI_le (by omega) (by omega)⟩
theorem in_set0 {i : Nat} (h : i < 191) : inR (10 + nI i) (lsF 0) (msF 0) := in_add (a := 10) (b := 200) (by omega) (by decide)
theorem in_set1 {i : Nat} (h : i < 101) : inR (nI i) (lsF 1) (msF 1) := ⟨nI_pos (by omega), nI_le (a := i) (b := 100) (by omega) (by decide)⟩
theorem in_set2 {i : Nat} (h : i < 200) : inR (1 + nI i) (lsF 2) (msF 2) := in_add (a := 1) (b := 200) (by omega) (by decide)
theorem in_set3 {i : Nat} (h : i < 896) : inR (5 + nI i) (lsF 3) (msF 3) := in_add (a := 5) (b := 900) (by omega) (by decide)
theorem why_gt {z : Nat → Int32} {k : Nat} (h : ¬ why z k = 0) : ¬ why z k ≤ 0 := fun c => h (by
  unfold why at c ⊢
  repeat' split at c
  all_goals first | exact absurd c (by decide) | skip
  all_goals simp_all)
-- behind a reading
theorem readF_lo {z : Nat → Int32} {n k j : Nat} (hj : j < 25) : readF z n k j = upd (upd (upd z 6 (nI k)) 10 (nI n + 1)) 11 (z 11 + 1) j := by
  unfold readF
  by_cases c : j = 11
  · subst c; rw [upd_is, upd_is]
  · rw [upd_no c, upd_no c]
    by_cases c2 : j = 10
    · subst c2; rw [printF, upd_is, upd_is]
    · rw [printF_q _ _ _ _ hj c2, upd_no c2]
theorem readF_at {z : Nat → Int32} {n k i w : Nat} (hi : ¬ i = n) (hw : w < 5) : readF z n k (25 + (i * 5 + w)) = z (25 + (i * 5 + w)) := by
  have e : ∀ {f : Nat → Int32} {q : Nat} {v : Int32}, q < 5 → upd f (25 + (n * 5 + q)) v (25 + (i * 5 + w)) = f (25 + (i * 5 + w)) := fun hq => upd_no (by omega)
  rw [readF, upd_no (by omega), printF, upd_no (by omega), e (by decide), e (by decide), e (by decide), e (by decide), e (by decide), upd_no (by omega)]
theorem readF_n {z : Nat → Int32} {n k : Nat} : readF z n k (25 + (n * 5 + 0)) = z 0 ∧ readF z n k (25 + (n * 5 + 1)) = nI k ∧ readF z n k (25 + (n * 5 + 2)) = rate (upd z 6 (nI k)) k ∧ readF z n k (25 + (n * 5 + 3)) = beat (upd z 6 (nI k)) (nI k) ∧ readF z n k (25 + (n * 5 + 4)) = swing (upd z 6 (nI k)) (nI k) := by
  refine ⟨?_, ?_, ?_, ?_, ?_⟩
  · rw [readF, upd_no (by omega), printF, upd_no (by omega), upd_no (by omega), upd_no (by omega), upd_no (by omega), upd_no (by omega), upd_is]
    exact upd_no (by decide)
  · rw [readF, upd_no (by omega), printF, upd_no (by omega), upd_no (by omega), upd_no (by omega), upd_no (by omega), upd_is]
  · rw [readF, upd_no (by omega), printF, upd_no (by omega), upd_no (by omega), upd_no (by omega), upd_is]
  · rw [readF, upd_no (by omega), printF, upd_no (by omega), upd_no (by omega), upd_is]
  · rw [readF, upd_no (by omega), printF, upd_no (by omega), upd_is]
theorem gz_al {cI : ClassId} {a : Nat} {f g : Nat → Int32} (h : ∀ j, j < 25 → f j = g j) : aI cI a 22 0 (gz f) = aI cI a 22 0 (gz g) := aI_c (fun j h1 h2 => by
  unfold gz
  by_cases c : j < 16
  · rw [if_pos c, if_pos c, h j (by omega)]
  · rw [if_neg c, if_neg c, h (j + 3) (by omega)])
theorem gz_read {cI : ClassId} {a : Nat} {z : Nat → Int32} {n k : Nat} : aI cI a 22 0 (gz (upd (upd (upd z 6 (nI k)) 10 (nI n + 1)) 11 (z 11 + 1))) = aI cI a 22 0 (gz (readF z n k)) := gz_al (fun _ hj => (readF_lo hj).symm)
theorem pA_read {cI : ClassId} {a : Nat} {z : Nat → Int32} {n k : Nat} : aI cI a 40 0 (upd (pA z) n (100 * z 0 + nI k)) = aI cI a 40 0 (pA (readF z n k)) := aI_c (fun j h1 h2 => by
  by_cases c : j = n
  · subst c
    obtain ⟨e0, e1, -⟩ := readF_n (z := z) (n := j) (k := k)
    rw [upd_is, pA, e0, e1]
  · rw [upd_no c, pA, pA, readF_at c (by decide), readF_at c (by decide)])
theorem pB_read {cI : ClassId} {a : Nat} {z : Nat → Int32} {n k : Nat} : aI cI a 40 0 (upd (pB z) n (rate (upd z 6 (nI k)) k)) = aI cI a 40 0 (pB (readF z n k)) := aI_c (fun j h1 h2 => by
  by_cases c : j = n
  · subst c
    rw [upd_is]
    exact (readF_n (z := z) (n := j) (k := k)).2.2.1.symm
  · rw [upd_no c]
    exact (readF_at c (by decide)).symm)
theorem pD_read {cI : ClassId} {a : Nat} {z : Nat → Int32} {n k : Nat} : aI cI a 40 0 (upd (pD z) n (1000 * beat (upd z 6 (nI k)) (nI k) + swing (upd z 6 (nI k)) (nI k))) = aI cI a 40 0 (pD (readF z n k)) := aI_c (fun j h1 h2 => by
  by_cases c : j = n
  · subst c
    obtain ⟨-, -, -, e3, e4⟩ := readF_n (z := z) (n := j) (k := k)
    rw [upd_is, pD, e3, e4]
  · rw [upd_no c, pD, pD, readF_at c (by decide), readF_at c (by decide)])
-- goodQ behind each step
section STEPS
variable {z : Nat → Int32}
theorem goodQ_c {f g : Nat → Int32} (h : goodQ f) (h14 : g 14 = f 14) (h10 : g 10 = f 10) (h25 : ∀ k, 25 ≤ k → k < 225 → g k = f k) : goodQ g := by
  refine ⟨by rw [h14]; exact h.1, fun n hn hn4 i hi => ?_⟩
  rw [h25 _ (by omega) (by omega), h25 _ (by omega) (by omega)]
  exact h.2 n (h10 ▸ hn) hn4 i hi
theorem goodQ_u {f : Nat → Int32} {i : Nat} {v : Int32} (h : goodQ f) (h14 : ¬ i = 14) (h10 : ¬ i = 10) (h25 : i < 25) : goodQ (upd f i v) := goodQ_c h (upd_no (Ne.symm h14)) (upd_no (Ne.symm h10)) (fun k h1 _ => upd_no (by omega))
theorem goodQ_14 {f : Nat → Int32} {v : Int32} (h : goodQ f) (hv : rng v 0 1000) : goodQ (upd f 14 v) := by
  refine ⟨by rw [upd_is]; exact hv, fun n hn hn4 i hi => ?_⟩
  rw [upd_no (by omega), upd_no (by omega)]
  exact h.2 n ((upd_no (by decide)).symm.trans hn) hn4 i hi
theorem goodQ_renew (h : goodQ z) : goodQ (upd z 10 0) := by
  refine ⟨by rw [upd_no (by decide)]; exact h.1, fun n hn hn4 i hi => ?_⟩
  rw [upd_is] at hn
  have e := congrArg Int32.toInt hn
  rw [nI_toInt (by omega), show (0 : Int32).toInt = 0 by decide] at e
  omega
theorem goodQ_hours {N k : Nat} (h : goodQ z) : goodQ (hoursF N z k) := goodQ_c h (hoursF_o _ _ _ _ (by decide) (by decide)) (hoursF_o _ _ _ _ (by decide) (by decide)) (fun j h1 h2 => hoursF_o _ _ _ _ (by omega) h2)
theorem beat_rng {x : Int32} (h : okb z) : rng (beat z x) 0 100000 := by
  obtain ⟨-, -, ⟨s1, s2⟩, -, ⟨d1, d2⟩, -⟩ := h
  have c10 : (10 : Int32).toInt = 10 := by decide
  have e1 : (z 5 / 10).toInt = (z 5).toInt / 10 := by rw [div_I (by decide), c10, Int.tdiv_eq_ediv_of_nonneg d1]
  have e2 : 0 ≤ (am (z 3)).toInt ∧ (am (z 3)).toInt ≤ 50 := by
    unfold am
    split
    · rename_i c
      rw [toI_pos] at c
      exact ⟨c, s2⟩
    · rename_i c
      rw [toI_pos] at c
      rw [fb_negI (by omega)]
      omega
  have e3 : (am (z 3) + z 5 / 10).toInt = (am (z 3)).toInt + (z 5).toInt / 10 := by rw [fb_addI (by rw [e1]; omega) (by rw [e1]; omega), e1]
  unfold beat
  have e4 : 0 ≤ (if x ≤ 1 then (0 : Int32) else 2).toInt ∧ (if x ≤ 1 then (0 : Int32) else 2).toInt ≤ 2 := by split <;> decide
  have e5 : (am (z 3) + z 5 / 10 + (if x ≤ 1 then (0 : Int32) else 2)).toInt = (am (z 3)).toInt + (z 5).toInt / 10 + (if x ≤ 1 then (0 : Int32) else 2).toInt := by rw [fb_addI (by rw [e3]; omega) (by rw [e3]; omega), e3]
  rw [rng, e5]
  omega
theorem goodQ_read {n k : Nat} (h : goodQ z) (hb : okb z) (hn : z 10 = nI n) (hn5 : n < 40) : goodQ (readF z n k) := by
  refine ⟨by rw [readF_lo (by decide)]; exact h.1, fun m hm hm4 i hi => ?_⟩
  have e : readF z n k 10 = nI (n + 1) := by rw [readF_lo (by decide)]; exact nI_1 n
  have em : m = n + 1 := nI_ij (by omega) (by omega) (hm.symm.trans e)
  by_cases c : i = n
  · subst c
    obtain ⟨-, -, -, e3, e4⟩ := readF_n (z := z) (n := i) (k := k)
    rw [e3, e4]
    exact ⟨beat_rng (okb_u (by omega) hb), sw_rng (okb_u (by omega) hb) _⟩
  · rw [readF_at c (by decide), readF_at c (by decide)]
    exact h.2 n hn (by omega) i (by omega)
theorem goodQ_z0 : goodQ z0 := by
  refine ⟨⟨by decide, by decide⟩, fun n hn h4 i hi => ?_⟩
  have e2 := congrArg Int32.toInt hn
  rw [nI_toInt (by omega), show (z0 10).toInt = 0 by decide] at e2
  omega
end STEPS
theorem rate_3 {z : Nat → Int32} {n k : Nat} (hk : k < 6) (hn5 : n < 40) : rate (readF z n k) k + 10000 = rate (upd (upd (upd z 6 (nI k)) 10 (nI n + 1)) 11 (z 11 + 1)) k + 10000 := by
  have e : rate z k = rate (upd (upd (upd z 6 (nI k)) 10 (nI n + 1)) 11 (z 11 + 1)) k := by
    refine rate_c ?_ ?_ ?_ ?_ ?_
    all_goals rw [upd_no (by omega), upd_no (by omega), upd_no (by omega)]
  rw [rate_readF hk hn5, e]
theorem night_tu {z u : Nat → Int32} {n p : Nat} {b l N : Int32} (eu : wz1 z p = u) (hp : p = 0) (hE : ¬ 2000000000 ≤ am (wz1 z 0 7)) (he : ngl z (n + 1) p b (if p = 0 then 2000000000 else l) = N) : ngl z n (p + 1) (nI p) (if p + 1 = 0 then 2000000000 else am (u 7)) = N := by
  rw [← eu]
  exact night_t hp hE he
theorem night_su {z u : Nat → Int32} {n p : Nat} {b l N : Int32} (eu : wz1 z p = u) (hp : ¬ p = 0) (c : ¬ l ≤ am (u 7)) (he : ngl z (n + 1) p b (if p = 0 then 2000000000 else l) = N) : ngl z n (p + 1) (nI p) (if p + 1 = 0 then 2000000000 else am (u 7)) = N := by
  rw [← eu] at c ⊢
  exact night_s hp c he
theorem night_ku {z u : Nat → Int32} {n p : Nat} {b l N : Int32} (eu : wz1 z p = u) (hp : ¬ p = 0) (c : l ≤ am (u 7)) (he : ngl z (n + 1) p b (if p = 0 then 2000000000 else l) = N) : ngl z n (p + 1) b (if p + 1 = 0 then 2000000000 else l) = N := by
  rw [← eu] at c
  exact night_k hp c he
theorem in_r2 {i : Nat} (h : i < 200) : rng (1 + nI i) 0 1000 := by
  have e : (1 + nI i : Int32) = nI (1 + i) := nI_addp rfl rfl
  rw [e, rng, nI_toInt (by omega)]
  omega
