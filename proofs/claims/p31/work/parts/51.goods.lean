/-! Every call keeps what holds of a state. -/
theorem inR_I {v lo hi : Int32} (h : inR v lo hi) : lo.toInt ≤ v.toInt ∧ v.toInt ≤ hi.toInt := by
  obtain ⟨h1, h2⟩ := h
  rw [fa_lt] at h1
  rw [fa_le] at h2
  omega
theorem rng_of {v lo hi : Int32} {a b : Int} (h : inR v lo hi) (h1 : lo.toInt = a) (h2 : hi.toInt = b) : rng v a b := by
  have := inR_I h
  exact ⟨by omega, by omega⟩
theorem okb_s {f : Nat → Int32} (h : okb f) (i : Nat) (v : Int32) (c1 : i = 1 → rng v 0 48) (c2 : i = 2 → rng v (-99) 99) (c3 : i = 3 → rng v (-50) 50) (c4 : i = 4 → rng v 0 100) (c5 : i = 5 → rng v 0 100) (c9 : ∀ k, k < 6 → i = 19 + k → rng v (-60) 60) : okb (upd f i v) := by
  obtain ⟨a1, a2, a3, a4, a5, a9⟩ := h
  have key : ∀ (j : Nat) (a b : Int), rng (f j) a b → (i = j → rng v a b) → rng (upd f i v j) a b := by
    intro j a b h1 h2
    by_cases e : j = i
    · subst e; rw [upd_is]; exact h2 rfl
    · rw [upd_no e]; exact h1
  exact ⟨key 1 _ _ a1 c1, key 2 _ _ a2 c2, key 3 _ _ a3 c3, key 4 _ _ a4 c4, key 5 _ _ a5 c5, fun k hk => key (19 + k) _ _ (a9 k hk) (c9 k hk)⟩
theorem okz_s {f : Nat → Int32} (h : okz f) (i : Nat) (v : Int32) (h1 : ¬ i = 10) (h2 : ¬ i = 6) : okz (upd f i v) := by
  obtain ⟨⟨n, a, b⟩, k, c, d⟩ := h
  exact ⟨⟨n, (upd_no (fun e => h1 e.symm)).trans a, b⟩, k, (upd_no (fun e => h2 e.symm)).trans c, d⟩
theorem good_c {M : Int} {f g : Nat → Int32} (h : good M f) (h0 : g 0 = f 0) (h7 : g 7 = f 7) (h9 : g 9 = f 9) (h10 : g 10 = f 10) (h25 : ∀ k, 25 ≤ k → g k = f k) (hb : okb g) (hz : okz g) : good M g := by
  obtain ⟨-, -, a, b, c⟩ := h
  refine ⟨hb, hz, by rw [h0, h9]; exact a, by rw [h7, h0]; exact b, fun n hn h4 => ?_⟩
  rw [h10] at hn
  obtain ⟨c1, c2, c3⟩ := c n hn h4
  exact ⟨fun i hi => by rw [h25 _ (by omega), h0]; exact c1 i hi, fun i hi => by rw [h25 _ (by omega)]; exact c2 i hi, fun i hi => by rw [h25 _ (by omega)]; exact c3 i hi⟩
theorem good_s {M : Int} {f : Nat → Int32} {i : Nat} {v : Int32} (h : good M f) (h0 : ¬ i = 0) (h7 : ¬ i = 7) (h9 : ¬ i = 9) (h10 : ¬ i = 10) (h25 : i < 25) (hb : okb (upd f i v)) (hz : okz (upd f i v)) : good M (upd f i v) :=
  good_c h (upd_no (by omega)) (upd_no (by omega)) (upd_no (by omega)) (upd_no (by omega)) (fun k hk => upd_no (by omega)) hb hz
section GOODS
variable {M : Int} {z : Nat → Int32} {k n : Nat} {v w : Int32}
theorem in_k (h : k < 6) : inR (nI k) 0 5 := by
  refine ⟨?_, ?_⟩
  · rw [fa_lt, nI_toInt (by omega), show (0 : Int32).toInt = 0 by decide]; omega
  · rw [fa_le, nI_toInt (by omega), show (5 : Int32).toInt = 5 by decide]; omega
theorem pass_nat (h : inR v 1 99) : ∃ N, N < 100 ∧ v = nI N := by
  have h2 := inR_I h
  rw [show (1 : Int32).toInt = 1 by decide, show (99 : Int32).toInt = 99 by decide] at h2
  refine ⟨v.toInt.toNat, by omega, ?_⟩
  apply Int32.toInt_inj.mp
  rw [nI_toInt (by omega)]
  omega
theorem set_in (hk : k < 4) : inR v (lsF k) (msF k) ↔ inR v (lsS (nI k)) (msS (nI k)) := by
  rcases (show k = 0 ∨ k = 1 ∨ k = 2 ∨ k = 3 by omega) with rfl | rfl | rfl | rfl <;> exact Iff.rfl
theorem set_no (h : ¬ inR v 0 3) : ¬ (¬ v < 0 ∧ v < 4) := by
  rintro ⟨h1, h2⟩
  refine h ⟨h1, ?_⟩
  rw [fa_lt] at h2
  rw [fa_le]
  rw [show (4 : Int32).toInt = 4 by decide] at h2
  rw [show (3 : Int32).toInt = 3 by decide]
  omega
theorem good_wind (g : good M z) (h : inR v 1 48) : good (M + 6000) (upd z 1 (mn48 (z 1 + v))) := by
  have hv := rng_of (a := 1) (b := 48) h (by decide) (by decide)
  have h1 := g.1.1
  have e := fb_addI (x := z 1) (y := v) (by have := hv.1; have := h1.1; omega) (by have := hv.2; have := h1.2; omega)
  exact good_mono (M := M) (by omega) (good_s g (by decide) (by decide) (by decide) (by decide) (by decide) (okb_s g.1 1 _ (fun _ => mn48_rng (by rw [e]; have := hv.1; have := h1.1; omega)) (by omega) (by omega) (by omega) (by omega) (by omega)) (okz_s g.2.1 _ _ (by decide) (by decide)))
theorem good_weigh (g : good M z) (hk : k < 6) (h : inR v (-60) 60) : good (M + 6000) (upd z (19 + k) v) :=
  good_mono (M := M) (by omega) (good_s g (by omega) (by omega) (by omega) (by omega) (by omega) (okb_s g.1 _ _ (by omega) (by omega) (by omega) (by omega) (by omega) (fun _ _ _ => rng_of h (by decide) (by decide))) (okz_s g.2.1 _ _ (by omega) (by omega)))
theorem good_adjust (g : good M z) (h : inR v (-99) 99) (h2 : inR w (-50) 50) : good (M + 6000) (upd (upd z 2 v) 3 w) := by
  have g1 : good M (upd z 2 v) := good_s g (by decide) (by decide) (by decide) (by decide) (by decide) (okb_s g.1 2 _ (by omega) (fun _ => rng_of h (by decide) (by decide)) (by omega) (by omega) (by omega) (by omega)) (okz_s g.2.1 _ _ (by decide) (by decide))
  exact good_mono (M := M) (by omega) (good_s g1 (by decide) (by decide) (by decide) (by decide) (by decide) (okb_s g1.1 3 _ (by omega) (by omega) (fun _ => rng_of h2 (by decide) (by decide)) (by omega) (by omega) (by omega)) (okz_s g1.2.1 _ _ (by decide) (by decide)))
theorem good_magnetise (g : good M z) (h : inR v 1 100) : good (M + 6000) (upd z 4 (mn100 (z 4 + v))) := by
  have hv := rng_of (a := 1) (b := 100) h (by decide) (by decide)
  have h1 := g.1.2.2.2.1
  have e := fb_addI (x := z 4) (y := v) (by have := hv.1; have := h1.1; omega) (by have := hv.2; have := h1.2; omega)
  refine good_mono (M := M) (by omega) (good_s g (by decide) (by decide) (by decide) (by decide) (by decide) (okb_s g.1 4 _ (by omega) (by omega) (by omega) (fun _ => ?_) (by omega) (by omega)) (okz_s g.2.1 _ _ (by decide) (by decide)))
  unfold mn100
  split
  · rename_i c
    rw [fa_le, show (100 : Int32).toInt = 100 by decide] at c
    exact ⟨by rw [e]; have := hv.1; have := h1.1; omega, c⟩
  · exact ⟨by decide, by decide⟩
theorem good_demagnetise (g : good M z) : good (M + 6000) (upd z 4 0) :=
  good_mono (M := M) (by omega) (good_s g (by decide) (by decide) (by decide) (by decide) (by decide) (okb_s g.1 4 _ (by omega) (by omega) (by omega) (fun _ => ⟨by decide, by decide⟩) (by omega) (by omega)) (okz_s g.2.1 _ _ (by decide) (by decide)))
theorem good_clean (g : good M z) : good (M + 6000) (upd z 5 0) :=
  good_mono (M := M) (by omega) (good_s g (by decide) (by decide) (by decide) (by decide) (by decide) (okb_s g.1 5 _ (by omega) (by omega) (by omega) (by omega) (fun _ => ⟨by decide, by decide⟩) (by omega)) (okz_s g.2.1 _ _ (by decide) (by decide)))
theorem okz_6 {f : Nat → Int32} (h : okz f) (hk : k < 6) : okz (upd f 6 (nI k)) := ⟨by obtain ⟨n, a, b⟩ := h.1; exact ⟨n, (upd_no (by decide)).trans a, b⟩, k, upd_is _ _ _, hk⟩
theorem good_6 (g : good M z) (hk : k < 6) : good M (upd z 6 (nI k)) :=
  good_s g (by decide) (by decide) (by decide) (by decide) (by decide) (okb_s g.1 6 _ (by omega) (by omega) (by omega) (by omega) (by omega) (by omega)) (okz_6 g.2.1 hk)
theorem good_lay (g : good M z) (hk : k < 6) : good (M + 6000) (upd z 6 (nI k)) := good_mono (M := M) (by omega) (good_6 g hk)
theorem good_renew (g : good M z) : good (M + 6000) (upd z 10 0) := by
  obtain ⟨a, ⟨-, k, c, d⟩, e, f, -⟩ := g
  refine good_mono (M := M) (by omega) ⟨okb_s a 10 _ (by omega) (by omega) (by omega) (by omega) (by omega) (by omega), ⟨⟨0, upd_is _ _ _, by omega⟩, k, (upd_no (by decide)).trans c, d⟩, e, f, fun n hn h4 => ?_⟩
  rw [upd_is] at hn
  have e2 := congrArg Int32.toInt hn
  rw [nI_toInt (by omega), show (0 : Int32).toInt = 0 by decide] at e2
  have : n = 0 := by omega
  subst this
  exact ⟨fun i hi => absurd hi (Nat.not_lt_zero i), fun i hi => absurd hi (Nat.not_lt_zero i), fun i hi => absurd hi (Nat.not_lt_zero i)⟩
theorem good_set (g : good M z) (hk : k < 4) : good (M + 6000) (upd z (12 + k) v) :=
  good_mono (M := M) (by omega) (good_s g (by omega) (by omega) (by omega) (by omega) (by omega) (okb_s g.1 _ _ (by omega) (by omega) (by omega) (by omega) (by omega) (by omega)) (okz_s g.2.1 _ _ (by omega) (by omega)))
theorem rate_readF (hk : k < 6) (hn : n < 40) : rate (readF z n k) k = rate z k := by
  have e : ∀ j, j < 25 → ¬ j = 6 → ¬ j = 10 → ¬ j = 11 → readF z n k j = z j := by
    intro j h1 h2 h3 h4
    rw [readF, upd_no h4, printF, upd_no h3, upd_no (by omega), upd_no (by omega), upd_no (by omega), upd_no (by omega), upd_no (by omega), upd_no h2]
  exact rate_c (e 1 (by omega) (by omega) (by omega) (by omega)) (e 2 (by omega) (by omega) (by omega) (by omega)) (e 4 (by omega) (by omega) (by omega) (by omega)) (e 5 (by omega) (by omega) (by omega) (by omega)) (e (19 + k) (by omega) (by omega) (by omega) (by omega))
theorem good_read0 (g : good M z) (hk : k < 6) (hn : z 10 = nI n) (hn4 : n < 40) : good M (readF z n k) := by
  have e : ∀ j, j < 25 → ¬ j = 6 → ¬ j = 10 → ¬ j = 11 → readF z n k j = z j := by
    intro j h1 h2 h3 h4
    rw [readF, upd_no h4, printF, upd_no h3, upd_no (by omega), upd_no (by omega), upd_no (by omega), upd_no (by omega), upd_no (by omega), upd_no h2]
  have e6 : readF z n k 6 = nI k := by
    rw [readF, upd_no (by omega), printF, upd_no (by omega), upd_no (by omega), upd_no (by omega), upd_no (by omega), upd_no (by omega), upd_no (by omega), upd_is]
  have e10 : readF z n k 10 = nI (n + 1) := by
    rw [readF, upd_no (by omega), printF, upd_is]
    exact nI_1 n
  have r0 : readF z n k (25 + (n * 5 + 0)) = z 0 := by
    rw [readF, upd_no (by omega), printF, upd_no (by omega), upd_no (by omega), upd_no (by omega), upd_no (by omega), upd_no (by omega), upd_is, upd_no (by omega)]
  have r2 : readF z n k (25 + (n * 5 + 2)) = rate (upd z 6 (nI k)) k := by
    rw [readF, upd_no (by omega), printF, upd_no (by omega), upd_no (by omega), upd_no (by omega), upd_is]
  have r1 : readF z n k (25 + (n * 5 + 1)) = nI k := by
    rw [readF, upd_no (by omega), printF, upd_no (by omega), upd_no (by omega), upd_no (by omega), upd_no (by omega), upd_is]
  have ro : ∀ i w, i < n → w < 5 → readF z n k (25 + (i * 5 + w)) = z (25 + (i * 5 + w)) := by
    intro i w hi hw
    rw [readF, upd_no (by omega), printF, upd_no (by omega), upd_no (by omega), upd_no (by omega), upd_no (by omega), upd_no (by omega), upd_no (by omega), upd_no (by omega)]
  obtain ⟨gb, gz, ga, g7, gr⟩ := g
  obtain ⟨c1, c2, c3⟩ := gr n hn (by omega)
  have hb : okb (readF z n k) := okb_c gb (e 1 (by omega) (by omega) (by omega) (by omega)) (e 2 (by omega) (by omega) (by omega) (by omega)) (e 3 (by omega) (by omega) (by omega) (by omega)) (e 4 (by omega) (by omega) (by omega) (by omega)) (e 5 (by omega) (by omega) (by omega) (by omega)) (fun k hk => e (19 + k) (by omega) (by omega) (by omega) (by omega))
  refine ⟨hb, ⟨⟨n + 1, e10, by omega⟩, k, e6, hk⟩, ?_, ?_, fun r hr hr4 => ?_⟩
  · rw [e 0 (by omega) (by omega) (by omega) (by omega), e 9 (by omega) (by omega) (by omega) (by omega)]; exact ga
  · rw [e 0 (by omega) (by omega) (by omega) (by omega), e 7 (by omega) (by omega) (by omega) (by omega)]; exact g7
  · rw [e10] at hr
    have e2 := congrArg Int32.toInt hr
    rw [nI_toInt (by omega), nI_toInt (by omega)] at e2
    have hrn : r = n + 1 := by omega
    subst hrn
    refine ⟨fun i hi => ?_, fun i hi => ?_, fun i hi => ?_⟩
    · rw [e 0 (by omega) (by omega) (by omega) (by omega)]
      by_cases h : i = n
      · subst h; rw [r0]; exact ⟨by omega, Int.le_refl _⟩
      · rw [ro i 0 (by omega) (by omega)]; exact c1 i (by omega)
    · by_cases h : i = n
      · subst h
        rw [r2]
        have hq := rate_rng (z := upd z 6 (nI k)) (okb_s gb 6 _ (by omega) (by omega) (by omega) (by omega) (by omega) (by omega)) hk
        exact ⟨by have := hq.1; omega, by have := hq.2; omega⟩
      · rw [ro i 2 (by omega) (by omega)]; exact c2 i (by omega)
    · by_cases h : i = n
      · subst h; exact ⟨k, hk, r1⟩
      · rw [ro i 1 (by omega) (by omega)]; exact c3 i (by omega)
theorem good_read (g : good M z) (hk : k < 6) (hn : z 10 = nI n) (hn4 : n < 40) : good (M + 6000) (readF z n k) := good_mono (M := M) (by omega) (good_read0 g hk hn hn4)
theorem hourF_hb (hb : okb z) (h0 : 0 ≤ (z 0).toInt) (hM0 : (z 0).toInt ≤ 20000000) (h9 : 0 ≤ (z 9).toInt ∧ (z 9).toInt ≤ (z 0).toInt) (h7 : rng (z 7) (-100 * (z 0).toInt) (100 * (z 0).toInt)) (hk : k < 6) : (hourF z k 0).toInt = (z 0).toInt + 1 ∧ (0 ≤ (hourF z k 9).toInt ∧ (hourF z k 9).toInt ≤ (z 0).toInt + 1) ∧ rng (hourF z k 7) (-100 * ((z 0).toInt + 1)) (100 * ((z 0).toInt + 1)) := by
  have c1 : (1 : Int32).toInt = 1 := by decide
  have e0 := fb_addI (x := z 0) (y := 1) (by rw [c1]; omega) (by rw [c1]; omega)
  have e9 := fb_addI (x := z 9) (y := 1) (by rw [c1]; omega) (by rw [c1]; omega)
  rw [c1] at e0 e9
  have er : rate (tick z) k = rate z k := rate_c rfl rfl rfl rfl (upd_no (by omega))
  have hr : rng (fdv (rate (tick z) k) 24) (-14) 59 := by
    rw [er]
    refine fdv_rng (by decide) ?_
    have := rate_rng hb hk
    rw [show (24 : Int32).toInt = 24 by decide]
    exact ⟨by have := this.1; omega, by have := this.2; omega⟩
  obtain ⟨r1, r2⟩ := hr
  obtain ⟨h71, h72⟩ := h7
  have e7 := fb_addI (x := z 7) (y := fdv (rate (tick z) k) 24) (by omega) (by omega)
  have g0 : hourF z k 0 = z 0 + 1 := by
    unfold hourF goneF tick
    split
    · split <;> rfl
    · rfl
  have g9 : hourF z k 9 = z 9 + 1 ∨ hourF z k 9 = z 9 := by
    unfold hourF goneF tick
    split
    · left; split <;> rfl
    · right; rfl
  have g7 : hourF z k 7 = z 7 + fdv (rate (tick z) k) 24 ∨ hourF z k 7 = z 7 := by
    unfold hourF goneF
    split
    · left; split <;> rfl
    · right; rfl
  refine ⟨by rw [g0, e0], ?_, ?_⟩
  · rcases g9 with h | h <;> rw [h]
    · rw [e9]; omega
    · omega
  · rcases g7 with h | h <;> rw [h]
    · exact ⟨by rw [e7]; omega, by rw [e7]; omega⟩
    · exact ⟨by omega, by omega⟩
theorem good_hour (g : good M z) (hz : z 6 = nI k) (hk : k < 6) (hM : M ≤ 20000000) : good (M + 1) (hourF z k) := by
  obtain ⟨gb, gz, ⟨a1, a2, a3⟩, g7, gr⟩ := g
  obtain ⟨b0, b9, b7⟩ := hourF_hb (k := k) gb (by omega) (by omega) ⟨a1, a2⟩ g7 hk
  have q : ∀ j, 10 ≤ j → hourF z k j = z j := fun j h => hourF_q z k j (by omega) (by omega) (by omega) (by omega) (by omega) (by omega)
  refine ⟨hourF_okb gb, ?_, ⟨b9.1, by rw [b0]; exact b9.2, by rw [b0]; omega⟩, by rw [b0]; exact b7, fun n hn h4 => ?_⟩
  · obtain ⟨⟨n, x, y⟩, r, x2, y2⟩ := gz
    exact ⟨⟨n, (q 10 (by omega)).trans x, y⟩, r, (hourF_6 z k).trans x2, y2⟩
  · rw [q 10 (by omega)] at hn
    obtain ⟨c1, c2, c3⟩ := gr n hn h4
    exact ⟨fun i hi => by rw [q _ (by omega), b0]; exact ⟨(c1 i hi).1, by have := (c1 i hi).2; omega⟩, fun i hi => by rw [q _ (by omega)]; exact c2 i hi, fun i hi => by rw [q _ (by omega)]; exact c3 i hi⟩
theorem good_hours (hk : k < 6) : ∀ (N : Nat) {M : Int} {z : Nat → Int32}, good M z → z 6 = nI k → M + N ≤ 20000000 → good (M + N) (hoursF N z k)
  | 0, M, z, g, _, _ => good_mono (M := M) (by omega) g
  | N + 1, M, z, g, hz, hM => by
    have h := good_hours hk N (M := M + 1) (good_hour g hz hk (by omega)) ((hourF_6 z k).trans hz) (by omega)
    exact good_mono (M := M + 1 + N) (by omega) h
theorem good_pass {N : Nat} (g : good M z) (hz : z 6 = nI k) (hk : k < 6) (hN : N < 100) (hM : M ≤ 10000000) : good (M + 6000) (hoursF N z k) := good_mono (M := M + N) (by omega) (good_hours hk N g hz (by omega))
theorem good_0 (g : good M z) : 0 ≤ (z 0).toInt := by have := g.2.2.1; omega
theorem good_okp (g : good M z) (hM : M ≤ 10000000) (hn : z 10 = nI n) (hn4 : n ≤ 40) : okp z n := by
  obtain ⟨-, -, ⟨a1, a2, a3⟩, -, gr⟩ := g
  exact ⟨⟨by omega, by omega⟩, (gr n hn hn4).1, (gr n hn hn4).2.1⟩
theorem good_E (g : good M z) (hM : M ≤ 10000000) : ¬ 2000000000 ≤ am (wz1 z 0 7) := by
  have h := good_hours (k := 0) (by decide) 8 (good_6 (k := 0) g (by decide)) (upd_is _ _ _) (by omega)
  have h7 := h.2.2.2.1
  have h0 := h.2.2.1
  show ¬ 2000000000 ≤ am (hoursF 8 (upd z 6 (nI 0)) 0 7)
  generalize hoursF 8 (upd z 6 (nI 0)) 0 = zz at h7 h0
  obtain ⟨a, b⟩ := h7
  unfold am
  split
  · rw [fa_le, show (2000000000 : Int32).toInt = 2000000000 by decide]; omega
  · rw [fa_le, show (2000000000 : Int32).toInt = 2000000000 by decide, Int32.toInt_neg, Int.bmod_eq_of_le (by omega) (by omega)]; omega
theorem good_z0 : good 0 z0 := by
  refine ⟨⟨⟨by decide, by decide⟩, ⟨by decide, by decide⟩, ⟨by decide, by decide⟩, ⟨by decide, by decide⟩, ⟨by decide, by decide⟩, fun k hk => ?_⟩, ⟨⟨0, rfl, by omega⟩, 0, rfl, by omega⟩, ⟨by decide, by decide, by decide⟩, ⟨by decide, by decide⟩, fun n hn h4 => ?_⟩
  · rcases (show k = 0 ∨ k = 1 ∨ k = 2 ∨ k = 3 ∨ k = 4 ∨ k = 5 by omega) with rfl | rfl | rfl | rfl | rfl | rfl <;> exact ⟨by decide, by decide⟩
  · have e2 := congrArg Int32.toInt hn
    rw [nI_toInt (by omega), show (z0 10).toInt = 0 by decide] at e2
    have : n = 0 := by omega
    subst this
    exact ⟨fun i hi => absurd hi (Nat.not_lt_zero i), fun i hi => absurd hi (Nat.not_lt_zero i), fun i hi => absurd hi (Nat.not_lt_zero i)⟩
end GOODS
