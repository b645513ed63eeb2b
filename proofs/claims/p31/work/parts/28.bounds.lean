/-! What the numbers of a state may be; floorDiv and the reference's division say the same there. -/
theorem toI_pos {x : Int32} : 0 ≤ x ↔ 0 ≤ x.toInt := by
  rw [fa_le, show (0 : Int32).toInt = 0 by decide]
theorem msb_I (x : Int32) : x.toBitVec.msb = decide (x.toInt < 0) := by
  rw [BitVec.msb_eq_toInt]
  rfl
theorem xor_pos {x y : Int32} (hy : 0 ≤ y.toInt) : (0 ≤ (x ^^^ y)) ↔ 0 ≤ x.toInt := by
  rw [toI_pos]
  have h1 := msb_I (x ^^^ y)
  have h2 := msb_I x
  have h3 := msb_I y
  rw [Int32.toBitVec_xor, BitVec.msb_xor, h2, h3] at h1
  rw [show decide (y.toInt < 0) = false from decide_eq_false (by omega)] at h1
  by_cases c : x.toInt < 0
  · rw [decide_eq_true c] at h1
    have h4 : (x ^^^ y).toInt < 0 := of_decide_eq_true (by rw [← h1]; rfl)
    omega
  · rw [decide_eq_false c] at h1
    have h4 : ¬ (x ^^^ y).toInt < 0 := of_decide_eq_false (by rw [← h1]; rfl)
    omega
theorem div_I {x y : Int32} (hy : 0 < y.toInt) : (x / y).toInt = x.toInt.tdiv y.toInt := Int32.toInt_div_of_ne_right x y (fun e => by rw [e, show (-1 : Int32).toInt = -1 by decide] at hy; omega)
theorem tdiv_neg' {a b : Int} (hb : 0 < b) (ha : a < 0) : a.tdiv b = if b ∣ a then a / b else a / b + 1 := by
  rw [Int.tdiv_eq_ediv, Int.sign_eq_one_of_pos hb]
  by_cases c : b ∣ a
  · rw [if_pos (Or.inr c), if_pos c, Int.add_zero]
  · rw [if_neg (fun h => h.elim (fun h => by omega) c), if_neg c]
/-- the floor of a division, of either side -/
theorem fdv_I {x y : Int32} (hy : 0 < y.toInt) : (fdv x y).toInt = x.toInt / y.toInt := by
  have hb := fb_rng x
  have hy2 := fb_rng y
  unfold fdv
  by_cases c : 0 ≤ x.toInt
  · rw [if_pos ((xor_pos (by omega)).mpr c), div_I hy, Int.tdiv_eq_ediv_of_nonneg c]
  · rw [if_neg (fun h => c ((xor_pos (by omega)).mp h))]
    have hd := div_I (x := x) hy
    rw [tdiv_neg' hy (by omega)] at hd
    have hq : -2147483648 ≤ x.toInt / y.toInt := by
      refine Int.le_trans hb.1 ((Int.le_ediv_iff_mul_le hy).mpr ?_)
      have := Int.mul_le_mul_of_nonpos_left (show x.toInt ≤ 0 by omega) (show (1 : Int) ≤ y.toInt by omega)
      omega
    have hq0 : x.toInt / y.toInt < 0 := Int.ediv_neg_of_neg_of_pos (by omega) hy
    by_cases c2 : y.toInt ∣ x.toInt
    · rw [if_pos c2] at hd
      have e : x / y * y = x := by
        rw [fa_eq, Int32.toInt_mul, hd, Int.ediv_mul_cancel c2, fb_bmod hb.1 hb.2]
      rw [if_pos e, hd]
    · rw [if_neg c2] at hd
      have ne : ¬ x / y * y = x := fun e => by
        rw [fa_eq, Int32.toInt_mul, hd] at e
        have h1 := Int.mul_ediv_add_emod x.toInt y.toInt
        have h2 := Int.emod_nonneg x.toInt (show ¬ y.toInt = 0 by omega)
        have h3 := Int.emod_lt_of_pos x.toInt hy
        have h5 : (x.toInt / y.toInt + 1) * y.toInt = x.toInt - x.toInt % y.toInt + y.toInt := by
          rw [Int.add_mul, Int.mul_comm (x.toInt / y.toInt)]
          omega
        have h6 : ¬ x.toInt % y.toInt = 0 := fun h => c2 (Int.dvd_of_emod_eq_zero h)
        rw [h5] at e
        by_cases c3 : x.toInt - x.toInt % y.toInt + y.toInt < 2147483648
        · rw [fb_bmod (by omega) c3] at e
          omega
        · omega
      rw [if_neg ne, fb_subI (by rw [hd, show (1 : Int32).toInt = 1 by decide]; omega) (by rw [hd, show (1 : Int32).toInt = 1 by decide]; omega), hd, show (1 : Int32).toInt = 1 by decide]
      exact Int.add_sub_cancel _ _
theorem dvd_I {x y : Int32} (hy : 0 < y.toInt) (hs : y.toInt ≤ 1000) (hx : -2000000000 ≤ x.toInt) : (dvd x y).toInt = x.toInt / y.toInt := by
  have hb := fb_rng x
  unfold dvd
  by_cases c : 0 ≤ x.toInt
  · rw [if_pos (toI_pos.mpr c), div_I hy, Int.tdiv_eq_ediv_of_nonneg c]
  · rw [if_neg (fun h => c (toI_pos.mp h))]
    have c1 : (1 : Int32).toInt = 1 := by decide
    have e1 : (y - 1).toInt = y.toInt - 1 := by rw [fb_subI (by rw [c1]; omega) (by rw [c1]; omega), c1]
    have e2 : (y - 1 - x).toInt = y.toInt - 1 - x.toInt := by rw [fb_subI (by rw [e1]; omega) (by rw [e1]; omega), e1]
    have e3 : ((y - 1 - x) / y).toInt = (y.toInt - 1 - x.toInt) / y.toInt := by rw [div_I hy, e2, Int.tdiv_eq_ediv_of_nonneg (by omega)]
    have h0 : 0 ≤ (y.toInt - 1 - x.toInt) / y.toInt := Int.ediv_nonneg (by omega) (by omega)
    rw [fb_negI (by rw [e3]; omega), e3]
    have h1 := Int.mul_ediv_add_emod x.toInt y.toInt
    have h2 := Int.emod_nonneg x.toInt (show ¬ y.toInt = 0 by omega)
    have h3 := Int.emod_lt_of_pos x.toInt hy
    have h4 : (y.toInt - 1 - x.toInt) / y.toInt = -(x.toInt / y.toInt) := by
      have e5 : y.toInt - 1 - x.toInt = (y.toInt - 1 - x.toInt % y.toInt) + y.toInt * -(x.toInt / y.toInt) := by
        rw [Int.mul_neg]
        omega
      rw [e5, Int.add_mul_ediv_left _ _ (by omega), Int.ediv_eq_zero_of_lt (by omega) (by omega), Int.zero_add]
    rw [h4]
    omega
theorem dvd_f {x y : Int32} (hy : 0 < y.toInt) (hs : y.toInt ≤ 1000) (hx : -2000000000 ≤ x.toInt) : dvd x y = fdv x y := by
  rw [fa_eq, dvd_I hy hs hx, fdv_I hy]
def rng (v : Int32) (a b : Int) : Prop := a ≤ v.toInt ∧ v.toInt ≤ b
/-- the numbers of a watch -/
def okb (z : Nat → Int32) : Prop := rng (z 1) 0 48 ∧ rng (z 2) (-99) 99 ∧ rng (z 3) (-50) 50 ∧ rng (z 4) 0 100 ∧ rng (z 5) 0 100 ∧ ∀ k, k < 6 → rng (z (19 + k)) (-60) 60
theorem okb_c {f g : Nat → Int32} (h : okb f) (h1 : g 1 = f 1) (h2 : g 2 = f 2) (h3 : g 3 = f 3) (h4 : g 4 = f 4) (h5 : g 5 = f 5) (h9 : ∀ k, k < 6 → g (19 + k) = f (19 + k)) : okb g := by
  obtain ⟨a1, a2, a3, a4, a5, a9⟩ := h
  exact ⟨by rw [h1]; exact a1, by rw [h2]; exact a2, by rw [h3]; exact a3, by rw [h4]; exact a4, by rw [h5]; exact a5, fun k hk => by rw [h9 k hk]; exact a9 k hk⟩
theorem okb_u {f : Nat → Int32} {i : Nat} {v : Int32} (hi : i = 0 ∨ 6 ≤ i ∧ i < 19 ∨ 25 ≤ i) (h : okb f) : okb (upd f i v) := okb_c h (upd_no (by omega)) (upd_no (by omega)) (upd_no (by omega)) (upd_no (by omega)) (upd_no (by omega)) (fun k hk => upd_no (by omega))
theorem ite_I (p : Prop) [Decidable p] (a b : Int32) : (if p then a else b).toInt = if p then a.toInt else b.toInt := by split <;> rfl
theorem sw0_I {z : Nat → Int32} (h : okb z) (x : Int32) : (sw0 z x).toInt = 320 - 3 * (48 - (z 1).toInt) - (z 5).toInt - (if x ≤ 1 then 0 else 20) := by
  obtain ⟨⟨a1, a2⟩, -, -, -, ⟨e1, e2⟩, -⟩ := h
  have c48 : (48 : Int32).toInt = 48 := by decide
  have c3 : (3 : Int32).toInt = 3 := by decide
  have c320 : (320 : Int32).toInt = 320 := by decide
  have h1 : (48 - z 1).toInt = 48 - (z 1).toInt := by rw [fb_subI (by rw [c48]; omega) (by rw [c48]; omega), c48]
  have h2 : (3 * (48 - z 1)).toInt = 3 * (48 - (z 1).toInt) := by rw [fb_mulI (by rw [h1, c3]; omega) (by rw [h1, c3]; omega), h1, c3]
  have h3 : (320 - 3 * (48 - z 1)).toInt = 320 - 3 * (48 - (z 1).toInt) := by rw [fb_subI (by rw [h2, c320]; omega) (by rw [h2, c320]; omega), h2, c320]
  have h4 : (320 - 3 * (48 - z 1) - z 5).toInt = 320 - 3 * (48 - (z 1).toInt) - (z 5).toInt := by rw [fb_subI (by rw [h3]; omega) (by rw [h3]; omega), h3]
  have h5 : (if x ≤ 1 then (0 : Int32) else 20).toInt = if x ≤ 1 then 0 else 20 := by split <;> decide
  have h6 : 0 ≤ (if x ≤ 1 then (0 : Int) else 20) ∧ (if x ≤ 1 then (0 : Int) else 20) ≤ 20 := by split <;> omega
  unfold sw0
  rw [fb_subI (by rw [h4, h5]; omega) (by rw [h4, h5]; omega), h4, h5]
theorem sw_rng {z : Nat → Int32} (h : okb z) (x : Int32) : rng (swing z x) 0 320 := by
  have e := sw0_I h x
  obtain ⟨⟨a1, a2⟩, -, -, -, ⟨e1, e2⟩, -⟩ := h
  have h6 : 0 ≤ (if x ≤ 1 then (0 : Int) else 20) ∧ (if x ≤ 1 then (0 : Int) else 20) ≤ 20 := by split <;> omega
  unfold swing
  split
  · rename_i c
    rw [toI_pos] at c
    exact ⟨c, by omega⟩
  · exact ⟨by decide, by decide⟩
theorem wsw_I {z : Nat → Int32} (h : okb z) {k : Nat} (hk : k < 6) : rng (z (19 + k) * (360 - swing z (nI k))) (-21600) 21600 := by
  obtain ⟨s1, s2⟩ := sw_rng h (nI k)
  obtain ⟨w1, w2⟩ := h.2.2.2.2.2 k hk
  have c360 : (360 : Int32).toInt = 360 := by decide
  have h1 : (360 - swing z (nI k)).toInt = 360 - (swing z (nI k)).toInt := by rw [fb_subI (by rw [c360]; omega) (by rw [c360]; omega), c360]
  have b1 : -21600 ≤ (z (19 + k)).toInt * (360 - (swing z (nI k)).toInt) ∧ (z (19 + k)).toInt * (360 - (swing z (nI k)).toInt) ≤ 21600 := by
    have m1 := Int.mul_le_mul_of_nonneg_right w2 (show 0 ≤ 360 - (swing z (nI k)).toInt by omega)
    have m2 := Int.mul_le_mul_of_nonneg_right w1 (show 0 ≤ 360 - (swing z (nI k)).toInt by omega)
    exact ⟨by omega, by omega⟩
  have e := fb_mulI (x := z (19 + k)) (y := 360 - swing z (nI k)) (by rw [h1]; omega) (by rw [h1]; omega)
  rw [h1] at e
  exact ⟨by rw [e]; exact b1.1, by rw [e]; exact b1.2⟩
theorem dvd_w {z : Nat → Int32} (h : okb z) {k : Nat} (hk : k < 6) : dvd (z (19 + k) * (360 - swing z (nI k))) 100 = fdv (z (19 + k) * (360 - swing z (nI k))) 100 := dvd_f (by decide) (by decide) (by have := (wsw_I h hk).1; omega)
theorem fdv_rng {x y : Int32} {a b : Int} (hy : 0 < y.toInt) (h : rng x (a * y.toInt) (b * y.toInt)) : rng (fdv x y) a b := by
  rw [rng, fdv_I hy]
  exact ⟨(Int.le_ediv_iff_mul_le hy).mpr h.1, Int.ediv_le_of_le_mul hy h.2⟩
theorem rate_rng {z : Nat → Int32} (h : okb z) {k : Nat} (hk : k < 6) : rng (rate z k) (-315) 1415 := by
  have hf : rng (fdv (z (19 + k) * (360 - swing z (nI k))) 100) (-216) 216 := fdv_rng (by decide) ⟨by rw [show (100 : Int32).toInt = 100 by decide]; have := (wsw_I h hk).1; omega, by rw [show (100 : Int32).toInt = 100 by decide]; have := (wsw_I h hk).2; omega⟩
  obtain ⟨-, ⟨r1, r2⟩, -, ⟨m1, m2⟩, -⟩ := h
  have c2 : (2 : Int32).toInt = 2 := by decide
  have e1 : (2 * z 4).toInt = 2 * (z 4).toInt := by rw [fb_mulI (by rw [c2]; omega) (by rw [c2]; omega), c2]
  obtain ⟨f1, f2⟩ := hf
  have e2 := fb_addI (x := z 2) (y := fdv (z (19 + k) * (360 - swing z (nI k))) 100) (by omega) (by omega)
  have e3 : (rt0 z k).toInt = (z 2).toInt + (fdv (z (19 + k) * (360 - swing z (nI k))) 100).toInt + 2 * (z 4).toInt := by
    unfold rt0
    rw [fb_addI (by rw [e1, e2]; omega) (by rw [e1, e2]; omega), e1, e2]
  have c300 : (300 : Int32).toInt = 300 := by decide
  have c600 : (600 : Int32).toInt = 600 := by decide
  have c50 : (50 : Int32).toInt = 50 := by decide
  unfold rate
  split
  · split
    · exact ⟨by omega, by omega⟩
    · have e4 := fb_addI (x := rt0 z k) (y := 600) (by rw [c600]; omega) (by rw [c600]; omega)
      rw [c600] at e4
      exact ⟨by omega, by omega⟩
  · have e4 := fb_addI (x := rt0 z k) (y := 300) (by rw [c300]; omega) (by rw [c300]; omega)
    rw [c300] at e4
    exact ⟨by omega, by omega⟩
theorem dvd_24 {v : Int32} (h : rng v (-315) 1415) : dvd v 24 = fdv v 24 := dvd_f (by decide) (by decide) (by have := h.1; omega)
theorem upd_same {f : Nat → Int32} {i : Nat} {v : Int32} (h : f i = v) : upd f i v = f := by
  funext k
  by_cases c : k = i
  · rw [c, upd_is, h]
  · exact upd_no c
theorem upd_upd {f : Nat → Int32} {i : Nat} {u v : Int32} : upd (upd f i u) i v = upd f i v := by
  funext k
  by_cases c : k = i
  · rw [c, upd_is, upd_is]
  · rw [upd_no c, upd_no c, upd_no c]
theorem rate_c {f g : Nat → Int32} {k : Nat} (h1 : f 1 = g 1) (h2 : f 2 = g 2) (h4 : f 4 = g 4) (h5 : f 5 = g 5) (h9 : f (19 + k) = g (19 + k)) : rate f k = rate g k := by
  have e0 : sw0 f (nI k) = sw0 g (nI k) := by rw [sw0, sw0, h1, h5]
  have e1 : swing f (nI k) = swing g (nI k) := by rw [swing, swing, e0]
  have e2 : rt0 f k = rt0 g k := by rw [rt0, rt0, h2, h4, h9, e1]
  rw [rate, rate, h4, e1, e2]
theorem swing_c {f g : Nat → Int32} {x : Int32} (h1 : f 1 = g 1) (h5 : f 5 = g 5) : swing f x = swing g x := by
  have e0 : sw0 f x = sw0 g x := by rw [sw0, sw0, h1, h5]
  rw [swing, swing, e0]
theorem beat_c {f g : Nat → Int32} {x : Int32} (h3 : f 3 = g 3) (h5 : f 5 = g 5) : beat f x = beat g x := by rw [beat, beat, h3, h5]
theorem goes_tick (z : Nat → Int32) (x : Int32) : goes (tick z) x = goes z x := rfl
theorem sw120_pos {z : Nat → Int32} {x : Int32} (h : goes z x = true) : 0 < (z 1).toInt := by
  refine Classical.byContradiction fun hc => ?_
  have h2 : z 1 ≤ 0 := by rw [fa_le, show (0 : Int32).toInt = 0 by decide]; omega
  rw [goes, decide_eq_true h2] at h
  exact absurd h (by simp)
theorem goneF_okb {z : Nat → Int32} {k : Nat} (h : okb z) (hp : 0 < (z 1).toInt) : okb (goneF z k) := by
  have e1 : goneF z k 1 = z 1 - 1 := rfl
  have c1 : (1 : Int32).toInt = 1 := by decide
  obtain ⟨⟨a1, a2⟩, r⟩ := h
  have e2 : (z 1 - 1).toInt = (z 1).toInt - 1 := by rw [fb_subI (by rw [c1]; omega) (by rw [c1]; omega), c1]
  refine ⟨?_, r.1, r.2.1, r.2.2.1, r.2.2.2.1, fun j hj => ?_⟩
  · rw [e1]
    exact ⟨by omega, by omega⟩
  · rw [goneF_o z k (19 + j) (by omega) (by omega) (by omega) (by omega)]
    exact r.2.2.2.2 j hj
theorem hourF_okb {z : Nat → Int32} {k : Nat} (h : okb z) : okb (hourF z k) := by
  unfold hourF
  split
  · rename_i hg
    have hp := sw120_pos hg
    have h2 := goneF_okb (k := k) h (show 0 < (z 1).toInt from hp)
    split
    · obtain ⟨a1, a2, a3, a4, a5, a9⟩ := h2
      refine ⟨a1, a2, a3, a4, ?_, fun j hj => ?_⟩
      · rw [upd_is]
        obtain ⟨-, -, -, -, ⟨d1, d2⟩, -⟩ := h
        have c1 : (1 : Int32).toInt = 1 := by decide
        have e2 : (z 5 + 1).toInt = (z 5).toInt + 1 := by rw [fb_addI (by rw [c1]; omega) (by rw [c1]; omega), c1]
        split
        · rename_i hc
          rw [fa_le, show (100 : Int32).toInt = 100 by decide] at hc
          exact ⟨by omega, hc⟩
        · exact ⟨by decide, by decide⟩
      · rw [upd_no (by omega)]
        exact a9 j hj
    · exact h2
  · exact okb_u (by omega) (okb_u (by omega) h)
theorem hoursF_okb {k : Nat} : ∀ (n : Nat) {z : Nat → Int32}, okb z → okb (hoursF n z k)
  | 0, _, h => h
  | n + 1, _, h => hoursF_okb n (hourF_okb h)
theorem mn48_rng {v : Int32} (h : 0 ≤ v.toInt) : rng (mn48 v) 0 48 := by
  unfold mn48
  split
  · rename_i c
    rw [fa_le, show (48 : Int32).toInt = 48 by decide] at c
    exact ⟨h, c⟩
  · exact ⟨by decide, by decide⟩
/-- hours while the watch goes: an hour that it doesn't go is the last -/
theorem hourF_9y {z : Nat → Int32} {k : Nat} (h : goes z (nI k) = true) : hourF z k 9 = z 9 + 1 := by
  rw [hourF, if_pos (show goes (tick z) (nI k) = true from h)]
  split <;> rfl
theorem hourF_1y {z : Nat → Int32} {k : Nat} (h : goes z (nI k) = true) : hourF z k 1 = z 1 - 1 := by
  rw [hourF, if_pos (show goes (tick z) (nI k) = true from h)]
  split <;> rfl
theorem hourF_n {z : Nat → Int32} {k : Nat} (h : goes z (nI k) = false) : hourF z k = upd (tick z) 8 (z 8 + 1) := by
  rw [hourF, if_neg (show ¬ goes (tick z) (nI k) = true from by rw [goes_tick, h]; decide)]
theorem hoursF_n9 {k : Nat} : ∀ (n : Nat) {z : Nat → Int32}, goes z (nI k) = false → hoursF n z k 9 = z 9
  | 0, _, _ => rfl
  | n + 1, z, h => by
    have e : hoursF (n + 1) z k = hoursF n (hourF z k) k := rfl
    rw [e, hourF_n h, hoursF_n9 n (show goes (upd (tick z) 8 (z 8 + 1)) (nI k) = false from h)]
    rfl
theorem goes_0 {z : Nat → Int32} {x : Int32} (h : (z 1).toInt ≤ 0) : goes z x = false := by
  cases c : goes z x with
  | false => rfl
  | true => have := sw120_pos c; omega
theorem untilN_e {z zz : Nat → Int32} {k n j : Nat} (hg : goes zz (nI k) = false) (h9 : zz 9 = z 9 + nI j) (he : hoursF n zz k 9 = utr z k 9) : nI j = untilN z k := by
  rw [untilN, ← he, hoursF_n9 n hg, h9, Int32.add_comm, Int32.add_sub_cancel]
theorem until_s {zz : Nat → Int32} {k j : Nat} (hg : goes zz (nI k) = true) (hb : okb zz) (h1 : (zz 1).toInt + (j : Int) ≤ 48) : (hourF zz k 1).toInt + ((j + 1 : Nat) : Int) ≤ 48 := by
  have hp := sw120_pos hg
  have c1 : (1 : Int32).toInt = 1 := by decide
  have hb1 := hb.1
  rw [hourF_1y hg, fb_subI (by rw [c1]; have := hb1.2; omega) (by rw [c1]; have := hb1.2; omega), c1]
  omega
theorem until_9 {z zz : Nat → Int32} {k j : Nat} (hg : goes zz (nI k) = true) (h9 : zz 9 = z 9 + nI j) : hourF zz k 9 = z 9 + nI (j + 1) := by
  rw [hourF_9y hg, h9, ← nI_1, Int32.add_assoc]
-- ranges
def inB (v lo hi : Int32) : Bool := !decide (v < lo) && !decide (hi < v)
theorem nlt_le {a b : Int32} : ¬ a < b ↔ b ≤ a := by rw [fa_lt, fa_le]; omega
theorem inB_y {v lo hi : Int32} (h : inR v lo hi) : ¬ bI (inB v lo hi) = 0 := by
  have h2 : ¬ hi < v := by have := h.2; rw [fa_le] at this; rw [fa_lt]; omega
  simp [inB, h.1, h2, bI]
theorem inB_n {v lo hi : Int32} (h : ¬ inR v lo hi) : bI (inB v lo hi) = 0 := by
  by_cases c : v < lo
  · simp [inB, c, bI]
  · have h2 : hi < v := by
      refine Classical.byContradiction fun hc => h ⟨c, ?_⟩
      rw [fa_lt] at hc
      rw [fa_le]
      omega
    simp [inB, c, h2, bI]
theorem in5 {k : Nat} (h : k < 6) : ¬ bI (inB (nI k) 0 5) = 0 := by
  rcases (show k = 0 ∨ k = 1 ∨ k = 2 ∨ k = 3 ∨ k = 4 ∨ k = 5 by omega) with rfl | rfl | rfl | rfl | rfl | rfl <;> decide
def mnv (a b : Int32) : Int32 := if a ≤ b then a else b
theorem left_pos {z : Nat → Int32} (h : okb z) (c : ¬ z 1 = 0) : 0 < z 1 := by
  have h1 := h.1.1
  rw [fa_lt, show (0 : Int32).toInt = 0 by decide]
  refine Classical.byContradiction fun hc => c ?_
  rw [fa_eq, show (0 : Int32).toInt = 0 by decide]
  omega
theorem full_n {z : Nat → Int32} {n : Nat} (hn : z 10 = nI n) (h : n ≤ 40) (c : ¬ z 10 = 40) : full z = false := by
  have h2 : z 10 < 40 := by
    rw [hn] at c ⊢
    refine nI_lt (b := 40) ?_ (by decide)
    refine Nat.lt_of_le_of_ne h (fun e => c ?_)
    rw [e]
    rfl
  simp [full, h2]
theorem full_y {z : Nat → Int32} (c : z 10 = 40) : full z = true := by
  rw [full, c]
  decide
-- copies of rows
def cpy (f g : Nat → Int32) (b i : Nat) : Nat → Int32 := fun k => if b ≤ k ∧ k < b + i then g (k - b) else f k
theorem cpy_0 {f g : Nat → Int32} {b : Nat} : cpy f g b 0 = f := by
  funext k
  exact if_neg (by omega)
theorem cpy_s {f g : Nat → Int32} {b i : Nat} : upd (cpy f g b i) (b + i) (g i) = cpy f g b (i + 1) := by
  funext k
  by_cases c : k = b + i
  · subst c
    rw [upd_is, cpy, if_pos (by omega), Nat.add_sub_cancel_left]
  · rw [upd_no c, cpy, cpy]
    by_cases c2 : b ≤ k ∧ k < b + i
    · rw [if_pos c2, if_pos (by omega)]
    · rw [if_neg c2, if_neg (by omega)]
theorem cpy_s0 {f g : Nat → Int32} {i : Nat} : upd (cpy f g 0 i) i (g i) = cpy f g 0 (i + 1) := by
  have h := cpy_s (f := f) (g := g) (b := 0) (i := i)
  rw [Nat.zero_add] at h
  exact h
theorem cpy_al {cI : ClassId} {a n i : Nat} {f g : Nat → Int32} (h : i = n) : aI cI a n 0 (cpy f g 0 i) = aI cI a n 0 g := aI_c (fun k h1 h2 => by
  rw [cpy, if_pos (by omega), Nat.sub_zero])
def shn (f : Nat → Int32) (i : Nat) : Nat → Int32 := fun k => if k < i then f (225 + k) else f k
theorem shn_0 {f : Nat → Int32} : shn f 0 = f := by
  funext k
  exact if_neg (by omega)
theorem shn_g {f : Nat → Int32} {i : Nat} : shn f i (225 + i) = f (225 + i) := if_neg (by omega)
theorem shn_s {f : Nat → Int32} {i : Nat} : upd (shn f i) i (f (225 + i)) = shn f (i + 1) := by
  funext k
  by_cases c : k = i
  · subst c
    rw [upd_is, shn, if_pos (by omega)]
  · rw [upd_no c, shn, shn]
    by_cases c2 : k < i
    · rw [if_pos c2, if_pos (by omega)]
    · rw [if_neg c2, if_neg (by omega)]
/-- the saved rows behind one more -/
def recS (sd z : Nat → Int32) (q : Nat) : Nat → Int32 := if q = 6 then cpy (shn sd 1125) z (225 * 5) 225 else cpy sd z (225 * q) 225
def recN (q : Nat) : Nat := if q = 6 then 6 else q + 1
def undS (sd : Nat → Int32) (q : Nat) : Nat → Int32 := fun k => sd (225 * q + k)
theorem nq_lt {q : Nat} (c : ¬ nI q = 6) (h : q ≤ 6) : q < 6 := Nat.lt_of_le_of_ne h (fun e => c (by rw [e]; rfl))
theorem nq_eq {q : Nat} (c : nI q = 6) (h : q ≤ 6) : q = 6 := by
  refine Classical.byContradiction fun hc => ?_
  have h1 := nI_toInt (show q < 2 ^ 31 by omega)
  rw [c, show (6 : Int32).toInt = 6 by decide] at h1
  omega
theorem nq_s {q : Nat} (h : q + 1 < 2 ^ 31) : ¬ nI (q + 1) = 0 := fun c => by
  have h1 := nI_toInt h
  rw [c, show (0 : Int32).toInt = 0 by decide] at h1
  omega
theorem nI_m60 {n : Nat} (h : n < 60) : ¬ nI n = 60 := fun c => by
  have h1 := nI_toInt (show n < 2 ^ 31 by omega)
  rw [c, show (60 : Int32).toInt = 60 by decide] at h1
  omega
theorem in3 {k : Nat} (h : k < 4) : ¬ bI (inB (nI k) 0 3) = 0 := by
  rcases (show k = 0 ∨ k = 1 ∨ k = 2 ∨ k = 3 by omega) with rfl | rfl | rfl | rfl <;> decide
theorem in2 {k : Nat} (h : k < 3) : ¬ bI (inB (nI k) 0 2) = 0 := by
  rcases (show k = 0 ∨ k = 1 ∨ k = 2 by omega) with rfl | rfl | rfl <;> decide
def lsS (j : Int32) : Int32 := if j = 0 then 10 else if j = 1 then 0 else if j = 2 then 1 else 5
def msS (j : Int32) : Int32 := if j = 1 then 100 else if j = 3 then 900 else 200
theorem of_ix (i w : Nat) : 25 + 5 * nI i + nI w = nI (25 + (i * 5 + w)) := by
  have e : 25 + (i * 5 + w) = 25 + 5 * i + w := by omega
  rw [e, show (25 : Int32) = nI 25 from rfl, show (5 : Int32) = nI 5 from rfl, pk_mul, nI_add, nI_add]
