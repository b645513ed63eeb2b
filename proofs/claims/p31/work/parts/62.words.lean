/-! The law's own rows and numbers, in words of the class's row. -/
def gz (z : Nat → Int32) : Nat → Int32 := fun j => if j < 16 then z j else z (j + 3)
theorem gz_o (z : Nat → Int32) (i : Nat) (h : i < 16) : gz z i = z i := if_pos h
theorem gz_w (z : Nat → Int32) (k : Nat) : gz z (16 + k) = z (19 + k) := by
  show (if 16 + k < 16 then z (16 + k) else z (16 + k + 3)) = _
  rw [if_neg (by omega), show 16 + k + 3 = 19 + k by omega]
theorem gz_u {z : Nat → Int32} {i : Nat} {v : Int32} (h : i < 16) : upd (gz z) i v = gz (upd z i v) := by
  funext j
  by_cases c : j = i
  · subst c
    rw [upd_is, gz_o _ _ h, upd_is]
  · rw [upd_no c]
    unfold gz
    by_cases d : j < 16
    · rw [if_pos d, if_pos d, upd_no c]
    · rw [if_neg d, if_neg d, upd_no (by omega)]
theorem gz_uw {z : Nat → Int32} {k : Nat} {v : Int32} : upd (gz z) (16 + k) v = gz (upd z (19 + k) v) := by
  funext j
  by_cases c : j = 16 + k
  · subst c
    rw [upd_is, gz_w, upd_is]
  · rw [upd_no c]
    unfold gz
    by_cases d : j < 16
    · rw [if_pos d, if_pos d, upd_no (by omega)]
    · rw [if_neg d, if_neg d, upd_no (by omega)]
def pA (z : Nat → Int32) : Nat → Int32 := fun i => 100 * z (25 + (i * 5 + 0)) + z (25 + (i * 5 + 1))
def pB (z : Nat → Int32) : Nat → Int32 := fun i => z (25 + (i * 5 + 2))
def pD (z : Nat → Int32) : Nat → Int32 := fun i => 1000 * z (25 + (i * 5 + 3)) + z (25 + (i * 5 + 4))
theorem pA_at {f g : Nat → Int32} {i : Nat} (hi : i < 40) (h : ∀ k, 25 ≤ k → k < 225 → f k = g k) : pA f i = pA g i := by
  show 100 * f (25 + (i * 5 + 0)) + f (25 + (i * 5 + 1)) = 100 * g (25 + (i * 5 + 0)) + g (25 + (i * 5 + 1))
  rw [h _ (by omega) (by omega), h _ (by omega) (by omega)]
theorem pB_at {f g : Nat → Int32} {i : Nat} (hi : i < 40) (h : ∀ k, 25 ≤ k → k < 225 → f k = g k) : pB f i = pB g i := h _ (by omega) (by omega)
theorem pD_at {f g : Nat → Int32} {i : Nat} (hi : i < 40) (h : ∀ k, 25 ≤ k → k < 225 → f k = g k) : pD f i = pD g i := by
  show 1000 * f (25 + (i * 5 + 3)) + f (25 + (i * 5 + 4)) = 1000 * g (25 + (i * 5 + 3)) + g (25 + (i * 5 + 4))
  rw [h _ (by omega) (by omega), h _ (by omega) (by omega)]
theorem copy_al {cI : ClassId} {a i : Nat} {f g : Nat → Int32} (h : 22 ≤ i) : aI cI a 22 0 (cpy f g 0 i) = aI cI a 22 0 g := aI_c (fun k h1 h2 => by
  rw [cpy, if_pos (by omega), Nat.sub_zero])
-- the swing
theorem le_1 {x : Int32} (c : ¬ 2 ≤ x) : x ≤ 1 := by
  rw [fa_le, show (2 : Int32).toInt = 2 by decide] at c
  rw [fa_le, show (1 : Int32).toInt = 1 by decide]
  omega
theorem nle_1 {x : Int32} (c : 2 ≤ x) : ¬ x ≤ 1 := by
  rw [fa_le, show (2 : Int32).toInt = 2 by decide] at c
  rw [fa_le, show (1 : Int32).toInt = 1 by decide]
  omega
theorem lsw_0 (z : Nat → Int32) : 176 + 3 * z 1 - z 5 = 320 - 3 * (48 - z 1) - z 5 := by grind
theorem lsw_a {z : Nat → Int32} {x : Int32} (c : ¬ 2 ≤ x) : 176 + 3 * z 1 - z 5 - 0 = sw0 z x := by
  rw [sw0, if_pos (le_1 c), lsw_0]
theorem lsw_b {z : Nat → Int32} {x : Int32} (c : 2 ≤ x) : 176 + 3 * z 1 - z 5 - 20 = sw0 z x := by
  rw [sw0, if_neg (nle_1 c), lsw_0]
theorem lsw_p {z : Nat → Int32} {x v : Int32} (e : v = sw0 z x) (c : 0 ≤ v) : v = swing z x := by
  rw [swing, ← e, if_pos c]
theorem lsw_n {z : Nat → Int32} {x v : Int32} (e : v = sw0 z x) (c : ¬ 0 ≤ v) : 0 = swing z x := by
  rw [swing, ← e, if_neg c]
theorem le119 {v : Int32} : v ≤ 119 ↔ v < 120 := by
  rw [fa_le, fa_lt, show (119 : Int32).toInt = 119 by decide, show (120 : Int32).toInt = 120 by decide]
  omega
-- divided, rounded down
def dwn (v u : Int32) : Int32 := (v + (100000 / u + 1) * u) / u - (100000 / u + 1)
theorem dwn_f {v u : Int32} {K : Int} (hu : 0 < u.toInt) (hu2 : u.toInt ≤ 1000) (hK : (100000 / u + 1 : Int32).toInt = K) (h1 : 100000 ≤ K * u.toInt) (h2 : K * u.toInt ≤ 200000) (h3 : K ≤ 100001) (hv : rng v (-100000) 1000000) : dwn v u = fdv v u := by
  obtain ⟨v1, v2⟩ := hv
  have hK0 : 0 < K := by
    refine Classical.byContradiction fun h => ?_
    have := Int.mul_le_mul_of_nonneg_right (show K ≤ 0 by omega) (show 0 ≤ u.toInt by omega)
    omega
  have e1 : ((100000 / u + 1) * u).toInt = K * u.toInt := by rw [fb_mulI (by rw [hK]; omega) (by rw [hK]; omega), hK]
  have e2 : (v + (100000 / u + 1) * u).toInt = v.toInt + K * u.toInt := by rw [fb_addI (by rw [e1]; omega) (by rw [e1]; omega), e1]
  have e3 : ((v + (100000 / u + 1) * u) / u).toInt = v.toInt / u.toInt + K := by
    rw [div_I hu, e2, Int.tdiv_eq_ediv_of_nonneg (by omega), Int.add_mul_ediv_right _ _ (by omega)]
  have q1 : -100000 ≤ v.toInt / u.toInt := by
    refine (Int.le_ediv_iff_mul_le hu).mpr ?_
    have := Int.mul_le_mul_of_nonpos_left (show (-100000 : Int) ≤ 0 by omega) (show (1 : Int) ≤ u.toInt by omega)
    omega
  have q2 : v.toInt / u.toInt ≤ 1000000 := by
    refine Int.ediv_le_of_le_mul hu ?_
    have := Int.mul_le_mul_of_nonneg_left (show (1 : Int) ≤ u.toInt by omega) (show (0 : Int) ≤ 1000000 by omega)
    omega
  rw [fa_eq, fdv_I hu]
  unfold dwn
  rw [fb_subI (by rw [e3, hK]; omega) (by rw [e3, hK]; omega), e3, hK]
  omega
theorem dwn_100 {v : Int32} (hv : rng v (-100000) 1000000) : dwn v 100 = fdv v 100 := dwn_f (K := 1001) (by decide) (by decide) (by decide) (by decide) (by decide) (by decide) hv
theorem dwn_24 {v : Int32} (hv : rng v (-100000) 1000000) : dwn v 24 = fdv v 24 := dwn_f (K := 4167) (by decide) (by decide) (by decide) (by decide) (by decide) (by decide) hv
theorem dwn_6 {v : Int32} (hv : rng v (-100000) 1000000) : dwn v 6 = fdv v 6 := dwn_f (K := 16667) (by decide) (by decide) (by decide) (by decide) (by decide) (by decide) hv
theorem rng_w {v : Int32} {a b c d : Int} (h : rng v a b) (h1 : c ≤ a) (h2 : b ≤ d) : rng v c d := ⟨Int.le_trans h1 h.1, Int.le_trans h.2 h2⟩
-- the rate
theorem lrt_0 {z : Nat → Int32} {k : Nat} (h : okb z) (hk : k < 6) : z 2 + 2 * z 4 + dwn (z (19 + k) * (360 - swing z (nI k))) 100 = rt0 z k := by
  rw [dwn_100 (rng_w (wsw_I h hk) (by decide) (by decide)), rt0]
  grind
theorem lrt_a {z : Nat → Int32} {k : Nat} {v : Int32} (e : v = rt0 z k) (c : ¬ z 4 ≤ 50) : v + 300 = rate z k := by rw [rate, if_neg c, e]
theorem lrt_b {z : Nat → Int32} {k : Nat} {v : Int32} (e : v = rt0 z k) (c : z 4 ≤ 50) (c2 : ¬ swing z (nI k) ≤ 300) : v + 600 = rate z k := by rw [rate, if_pos c, if_neg c2, e]
theorem lrt_c {z : Nat → Int32} {k : Nat} {v : Int32} (e : v = rt0 z k) (c : z 4 ≤ 50) (c2 : swing z (nI k) ≤ 300) : v = rate z k := by rw [rate, if_pos c, if_pos c2, e]
-- the beat
theorem lam_p {v : Int32} (c : 0 ≤ v) : v = am v := by rw [am, if_pos c]
theorem lam_n {v : Int32} (c : ¬ 0 ≤ v) : -v = am v := by rw [am, if_neg c]
theorem lbt_a {z : Nat → Int32} {x v : Int32} (e : v = am (z 3)) (c : ¬ 2 ≤ x) : v + z 5 / 10 + 0 = beat z x := by rw [beat, if_pos (le_1 c), e]
theorem lbt_b {z : Nat → Int32} {x v : Int32} (e : v = am (z 3)) (c : 2 ≤ x) : v + z 5 / 10 + 2 = beat z x := by rw [beat, if_neg (nle_1 c), e]
-- why not
theorem left_0 {z : Nat → Int32} (h : okb z) : (z 1 = 0 ↔ ¬ 0 < z 1) := by
  constructor
  · intro e
    rw [e]
    decide
  · intro c
    exact Classical.byContradiction fun h2 => c (left_pos h h2)
theorem full_40 {z : Nat → Int32} {n : Nat} (hn : z 10 = nI n) (h : n ≤ 40) : full z = false ↔ ¬ z 10 = 40 := by
  constructor
  · intro h1 h2
    rw [full_y h2] at h1
    exact absurd h1 (by decide)
  · exact full_n hn h
-- an hour
theorem dirt_top {z f : Nat → Int32} (h : okb z) (hf : f 5 = z 5) (c : ¬ z 5 < 100) : upd f 5 (if z 5 + 1 ≤ 100 then z 5 + 1 else 100) = f := by
  obtain ⟨-, -, -, -, ⟨d1, d2⟩, -⟩ := h
  have e : z 5 = 100 := by
    rw [fa_eq, show (100 : Int32).toInt = 100 by decide]
    rw [fa_lt, show (100 : Int32).toInt = 100 by decide] at c
    omega
  rw [e, if_neg (by decide)]
  exact upd_same (hf.trans e)
theorem dirt_up {z : Nat → Int32} (h : okb z) (c : z 5 < 100) : (if z 5 + 1 ≤ 100 then z 5 + 1 else 100) = z 5 + 1 := by
  obtain ⟨-, -, -, -, ⟨d1, d2⟩, -⟩ := h
  rw [fa_lt, show (100 : Int32).toInt = 100 by decide] at c
  have c1 : (1 : Int32).toInt = 1 := by decide
  have e2 : (z 5 + 1).toInt = (z 5).toInt + 1 := by rw [fb_addI (by rw [c1]; omega) (by rw [c1]; omega), c1]
  rw [if_pos]
  rw [fa_le, e2, show (100 : Int32).toInt = 100 by decide]
  omega
theorem lhr_n {z : Nat → Int32} {k : Nat} (c : goes (tick z) (nI k) = false) : upd (tick z) 8 (z 8 + 1) = hourF z k := by
  rw [hourF, if_neg (fun h => absurd c (by rw [h]; decide))]
theorem goneF_is {z : Nat → Int32} {k : Nat} (h : okb z) (hk : k < 6) : upd (upd (upd (tick z) 7 (z 7 + dwn (rate (tick z) k) 24)) 1 (z 1 - 1)) 9 (z 9 + 1) = goneF z k := by
  rw [dwn_24 (rng_w (rate_rng (z := tick z) (okb_u (by omega) h) hk) (by decide) (by decide)), goneF]
theorem lhr_a {z : Nat → Int32} {k : Nat} (h : okb z) (hk : k < 6) (c : goes (tick z) (nI k) = true) (c2 : ¬ rem (z 9 + 1) 24 = 0) : goneF z k = hourF z k := by
  rw [hourF, if_pos c, if_neg c2]
theorem lhr_b {z : Nat → Int32} {k : Nat} (h : okb z) (hk : k < 6) (c : goes (tick z) (nI k) = true) (c2 : rem (z 9 + 1) 24 = 0) (c3 : ¬ z 5 < 100) : goneF z k = hourF z k := by
  rw [hourF, if_pos c, if_pos c2, dirt_top (f := goneF z k) h rfl c3]
theorem lhr_c {z : Nat → Int32} {k : Nat} (h : okb z) (hk : k < 6) (c : goes (tick z) (nI k) = true) (c2 : rem (z 9 + 1) 24 = 0) (c3 : z 5 < 100) : upd (goneF z k) 5 (z 5 + 1) = hourF z k := by
  rw [hourF, if_pos c, if_pos c2, dirt_up h c3]
-- the script's numbers, cut to a range
theorem low_pos (v : Int32) : 0 ≤ (v &&& 2147483647).toInt := by
  have h := msb_I (v &&& 2147483647)
  rw [Int32.toBitVec_and, BitVec.msb_and, show (2147483647 : Int32).toBitVec.msb = false by decide, Bool.and_false] at h
  have := of_decide_eq_false h.symm
  omega
theorem low_nat (v : Int32) {b : Nat} (h0 : 0 < b) (hb : b < 100000) : ∃ i, i < b ∧ rem (v &&& 2147483647) (nI b) = nI i := by
  have h1 := low_pos v
  have h2 := fb_rng (v &&& 2147483647)
  have hbI := nI_toInt (show b < 2 ^ 31 by omega)
  generalize v &&& 2147483647 = u at h1 h2 ⊢
  have d1 : (u / nI b).toInt = u.toInt / b := by
    rw [div_I (by rw [hbI]; omega), hbI, Int.tdiv_eq_ediv_of_nonneg h1]
  have q0 : 0 ≤ u.toInt / (b : Int) := Int.ediv_nonneg h1 (by omega)
  have q1 := Int.mul_ediv_add_emod u.toInt b
  have q2 := Int.emod_nonneg u.toInt (show ¬ (b : Int) = 0 by omega)
  have q3 := Int.emod_lt_of_pos u.toInt (show (0 : Int) < b by omega)
  have q4 : u.toInt / (b : Int) ≤ u.toInt := by
    refine Int.ediv_le_of_le_mul (by omega) ?_
    have := Int.mul_le_mul_of_nonneg_left (show (1 : Int) ≤ b by omega) h1
    omega
  have q5 : (u.toInt / (b : Int)) * b = u.toInt - u.toInt % b := by
    rw [Int.mul_comm]
    omega
  have m1 : (u / nI b * nI b).toInt = u.toInt - u.toInt % b := by
    rw [fb_mulI (by rw [d1, hbI, q5]; omega) (by rw [d1, hbI, q5]; omega), d1, hbI, q5]
  refine ⟨(u.toInt % b).toNat, by omega, ?_⟩
  rw [fa_eq, nI_toInt (by omega), rem, fb_subI (by rw [m1]; omega) (by rw [m1]; omega), m1]
  omega
