/-! The law's look at the paper, pose by pose, and at the day's rate. -/
def goodQ (z : Nat → Int32) : Prop := rng (z 14) 0 1000 ∧ ∀ n, z 10 = nI n → n ≤ 40 → ∀ i, i < n → rng (z (25 + (i * 5 + 3))) 0 100000 ∧ rng (z (25 + (i * 5 + 4))) 0 320
theorem pA_num {h k : Int32} (hh : rng h 0 10000000) {p : Nat} (hp : p < 6) (e : k = nI p) : (100 * h + k) / 100 = h ∧ (100 * h + k) - (100 * h + k) / 100 * 100 = k := by
  obtain ⟨h1, h2⟩ := hh
  have c100 : (100 : Int32).toInt = 100 := by decide
  have ek : k.toInt = p := by rw [e, nI_toInt (by omega)]
  have e1 : (100 * h).toInt = 100 * h.toInt := by rw [fb_mulI (by rw [c100]; omega) (by rw [c100]; omega), c100]
  have e2 : (100 * h + k).toInt = 100 * h.toInt + p := by rw [fb_addI (by rw [e1]; omega) (by rw [e1]; omega), e1, ek]
  have e3 : ((100 * h + k) / 100).toInt = h.toInt := by
    rw [div_I (by decide), e2, c100, Int.tdiv_eq_ediv_of_nonneg (by omega)]
    omega
  have e4 : (100 * h + k) / 100 = h := by rw [fa_eq, e3]
  refine ⟨e4, ?_⟩
  rw [e4]
  have e5 : (h * 100).toInt = h.toInt * 100 := by rw [fb_mulI (by rw [c100]; omega) (by rw [c100]; omega), c100]
  rw [fa_eq, fb_subI (by rw [e2, e5]; omega) (by rw [e2, e5]; omega), e2, e5, ek]
  omega
theorem pD_num {b s : Int32} (hb : rng b 0 100000) (hs : rng s 0 320) : (1000 * b + s) / 1000 = b ∧ (1000 * b + s) - (1000 * b + s) / 1000 * 1000 = s := by
  obtain ⟨h1, h2⟩ := hb
  obtain ⟨s1, s2⟩ := hs
  have c1 : (1000 : Int32).toInt = 1000 := by decide
  have e1 : (1000 * b).toInt = 1000 * b.toInt := by rw [fb_mulI (by rw [c1]; omega) (by rw [c1]; omega), c1]
  have e2 : (1000 * b + s).toInt = 1000 * b.toInt + s.toInt := by rw [fb_addI (by rw [e1]; omega) (by rw [e1]; omega), e1]
  have e3 : ((1000 * b + s) / 1000).toInt = b.toInt := by
    rw [div_I (by decide), e2, c1, Int.tdiv_eq_ediv_of_nonneg (by omega)]
    omega
  have e4 : (1000 * b + s) / 1000 = b := by rw [fa_eq, e3]
  refine ⟨e4, ?_⟩
  rw [e4]
  have e5 : (b * 1000).toInt = b.toInt * 1000 := by rw [fb_mulI (by rw [c1]; omega) (by rw [c1]; omega), c1]
  rw [fa_eq, fb_subI (by rw [e2, e5]; omega) (by rw [e2, e5]; omega), e2, e5]
  omega
section LOOK
variable {M : Int} {z : Nat → Int32} {n p aN : Nat} {l6 m7 o8 s5 : Int32}
theorem pA_ok (g : good M z) (hM : M ≤ 10000000) (hn : z 10 = nI n) (hn4 : n ≤ 40) (i : Nat) (hi : i < n) : pA z i / 100 = z (25 + (i * 5 + 0)) ∧ pA z i - pA z i / 100 * 100 = z (25 + (i * 5 + 1)) := by
  obtain ⟨-, -, ⟨-, -, h0⟩, -, hp⟩ := g
  obtain ⟨p1, -, p3⟩ := hp n hn hn4
  obtain ⟨k, hk, e⟩ := p3 i hi
  have h1 := p1 i hi
  exact pA_num (rng_w h1 (Int.le_refl _) (by omega)) hk e
def apN (z : Nat → Int32) (n : Nat) : Nat → Nat
  | 0 => 0
  | p + 1 => if lat z (nI p) n = -1 then apN z n p else apN z n p + 1
def apS (z : Nat → Int32) (n : Nat) : Nat → Int32
  | 0 => 0
  | p + 1 => if lat z (nI p) n = -1 then apS z n p else apS z n p + rtj z n p
def apL (z : Nat → Int32) (n : Nat) : Nat → Int32
  | 0 => 0
  | p + 1 => if lat z (nI p) n = -1 then apL z n p else if apN z n p = 0 then rtj z n p else if apL z n p ≤ rtj z n p then apL z n p else rtj z n p
def apM (z : Nat → Int32) (n : Nat) : Nat → Int32
  | 0 => 0
  | p + 1 => if lat z (nI p) n = -1 then apM z n p else if apN z n p = 0 then rtj z n p else if rtj z n p ≤ apM z n p then apM z n p else rtj z n p
def apO (z : Nat → Int32) (n : Nat) : Nat → Int32
  | 0 => 0
  | p + 1 => if lat z (nI p) n = -1 then apO z n p else if ¬ apO z n p = 0 then 1 else if z 0 ≤ hrj z n p + z 14 then 0 else 1
theorem apN_le : ∀ p, apN z n p ≤ p
  | 0 => Nat.le_refl _
  | p + 1 => by
    have := apN_le p
    rw [apN]
    split <;> omega
theorem apN_z (hp : p ≤ 6) (c : nI (apN z n p) = 0) : apN z n p = 0 := nI_z (by have := apN_le (z := z) (n := n) p; omega) c
theorem ap_no (cl : lat z (nI p) n = -1) : apN z n (p + 1) = apN z n p ∧ apS z n (p + 1) = apS z n p ∧ apL z n (p + 1) = apL z n p ∧ apM z n (p + 1) = apM z n p ∧ apO z n (p + 1) = apO z n p := ⟨if_pos cl, if_pos cl, if_pos cl, if_pos cl, if_pos cl⟩
theorem apN_y (cl : ¬ lat z (nI p) n = -1) (ha : aN = apN z n p) : aN + 1 = apN z n (p + 1) := by rw [apN, if_neg cl, ha]
theorem apS_y (cl : ¬ lat z (nI p) n = -1) (hs : s5 = apS z n p) : s5 + pB z (latj z (nI p) n) = apS z n (p + 1) := by rw [apS, if_neg cl, hs]; rfl
theorem apL_0 (hp : p ≤ 6) (cl : ¬ lat z (nI p) n = -1) (ha : aN = apN z n p) (c : nI aN = 0) : pB z (latj z (nI p) n) = apL z n (p + 1) := by
  subst ha
  rw [apL, if_neg cl, if_pos (apN_z hp c)]
  rfl
theorem apL_k (cl : ¬ lat z (nI p) n = -1) (ha : aN = apN z n p) (hl : l6 = apL z n p) (c : ¬ nI aN = 0) (c2 : l6 ≤ pB z (latj z (nI p) n)) : l6 = apL z n (p + 1) := by
  subst ha hl
  rw [apL, if_neg cl, if_neg (fun h => c (by rw [h]; rfl)), if_pos (show apL z n p ≤ rtj z n p from c2)]
theorem apL_t (cl : ¬ lat z (nI p) n = -1) (ha : aN = apN z n p) (hl : l6 = apL z n p) (c : ¬ nI aN = 0) (c2 : ¬ l6 ≤ pB z (latj z (nI p) n)) : pB z (latj z (nI p) n) = apL z n (p + 1) := by
  subst ha hl
  rw [apL, if_neg cl, if_neg (fun h => c (by rw [h]; rfl)), if_neg (show ¬ apL z n p ≤ rtj z n p from c2)]
  rfl
theorem apM_0 (hp : p ≤ 6) (cl : ¬ lat z (nI p) n = -1) (ha : aN = apN z n p) (c : nI aN = 0) : pB z (latj z (nI p) n) = apM z n (p + 1) := by
  subst ha
  rw [apM, if_neg cl, if_pos (apN_z hp c)]
  rfl
theorem apM_k (cl : ¬ lat z (nI p) n = -1) (ha : aN = apN z n p) (hl : m7 = apM z n p) (c : ¬ nI aN = 0) (c2 : pB z (latj z (nI p) n) ≤ m7) : m7 = apM z n (p + 1) := by
  subst ha hl
  rw [apM, if_neg cl, if_neg (fun h => c (by rw [h]; rfl)), if_pos (show rtj z n p ≤ apM z n p from c2)]
theorem apM_t (cl : ¬ lat z (nI p) n = -1) (ha : aN = apN z n p) (hl : m7 = apM z n p) (c : ¬ nI aN = 0) (c2 : ¬ pB z (latj z (nI p) n) ≤ m7) : pB z (latj z (nI p) n) = apM z n (p + 1) := by
  subst ha hl
  rw [apM, if_neg cl, if_neg (fun h => c (by rw [h]; rfl)), if_neg (show ¬ rtj z n p ≤ apM z n p from c2)]
  rfl
theorem apO_1 (cl : ¬ lat z (nI p) n = -1) (ho : o8 = apO z n p) (c : ¬ o8 = 0) : 1 = apO z n (p + 1) := by
  subst ho
  rw [apO, if_neg cl, if_pos c]
theorem apO_0 (cl : ¬ lat z (nI p) n = -1) (ho : o8 = apO z n p) (c : o8 = 0) (hd : pA z (latj z (nI p) n) / 100 = z (25 + (latj z (nI p) n * 5 + 0))) (c2 : z 0 ≤ pA z (latj z (nI p) n) / 100 + z 14) : 0 = apO z n (p + 1) := by
  subst ho
  rw [hd] at c2
  rw [apO, if_neg cl, if_neg (fun h => h c), if_pos (show z 0 ≤ hrj z n p + z 14 from c2)]
theorem apO_2 (cl : ¬ lat z (nI p) n = -1) (ho : o8 = apO z n p) (c : o8 = 0) (hd : pA z (latj z (nI p) n) / 100 = z (25 + (latj z (nI p) n * 5 + 0))) (c2 : ¬ z 0 ≤ pA z (latj z (nI p) n) / 100 + z 14) : 1 = apO z n (p + 1) := by
  subst ho
  rw [hd] at c2
  rw [apO, if_neg cl, if_neg (fun h => h c), if_neg (show ¬ z 0 ≤ hrj z n p + z 14 from c2)]
theorem apN_all : ∀ p, (∀ q, q < p → ¬ lat z (nI q) n = -1) → apN z n p = p
  | 0, _ => rfl
  | p + 1, h => by rw [apN, if_neg (h p (by omega)), apN_all p (fun q hq => h q (by omega))]
theorem apN_lt {q : Nat} (c : lat z (nI q) n = -1) : ∀ p, q < p → apN z n p < p
  | 0, h => by omega
  | p + 1, h => by
    have h1 := apN_le (z := z) (n := n) p
    rw [apN]
    by_cases e : q = p
    · subst e
      rw [if_pos c]
      omega
    · have h2 := apN_lt c p (by omega)
      split <;> omega
theorem apS_all : ∀ p, (∀ q, q < p → ¬ lat z (nI q) n = -1) → apS z n p = sm z n p
  | 0, _ => rfl
  | p + 1, h => by rw [apS, if_neg (h p (by omega)), apS_all p (fun q hq => h q (by omega))]; rfl
theorem apL_all : ∀ p, (∀ q, q < p → ¬ lat z (nI q) n = -1) → apL z n p = lowR z n p
  | 0, _ => rfl
  | p + 1, h => by
    have e : lowR z n (p + 1) = lwN p (rtj z n p) (lowR z n p) := rfl
    rw [e, apL, if_neg (h p (by omega)), apL_all p (fun q hq => h q (by omega)), apN_all p (fun q hq => h q (by omega)), lwN]
theorem apM_all : ∀ p, (∀ q, q < p → ¬ lat z (nI q) n = -1) → apM z n p = higR z n p
  | 0, _ => rfl
  | p + 1, h => by
    have e : higR z n (p + 1) = hgN p (rtj z n p) (higR z n p) := rfl
    rw [e, apM, if_neg (h p (by omega)), apM_all p (fun q hq => h q (by omega)), apN_all p (fun q hq => h q (by omega)), hgN]
theorem apO_all (hp : okp z n) (hz : (z 0).toInt ≤ 10000000) (hQ : rng (z 14) 0 1000) : ∀ p, (∀ q, q < p → ¬ lat z (nI q) n = -1) → apO z n p = bI (staR z n p)
  | 0, _ => rfl
  | p + 1, h => by
    obtain ⟨r1, r2⟩ := hrj_rng hp (h p (by omega))
    obtain ⟨q1, q2⟩ := id hQ
    have e2 : (z 0 - hrj z n p).toInt = (z 0).toInt - (hrj z n p).toInt := fb_subI (by omega) (by omega)
    have e3 : (hrj z n p + z 14).toInt = (hrj z n p).toInt + (z 14).toInt := fb_addI (by omega) (by omega)
    have e4 : staR z n (p + 1) = (staR z n p || !decide (z 0 - hrj z n p ≤ z 14)) := rfl
    have e5 : (z 0 - hrj z n p ≤ z 14) ↔ z 0 ≤ hrj z n p + z 14 := by rw [fa_le, fa_le, e2, e3]; omega
    rw [apO, if_neg (h p (by omega)), apO_all hp hz hQ p (fun q hq => h q (by omega)), e4]
    cases hs : staR z n p with
    | true => rw [if_pos (by decide)]; rfl
    | false =>
      rw [if_neg (by decide)]
      by_cases c : z 0 ≤ hrj z n p + z 14
      · rw [if_pos c, decide_eq_true (e5.mpr c)]; rfl
      · rw [if_neg c, decide_eq_false (fun h => c (e5.mp h))]; rfl
theorem all_there (ha : aN = apN z n 6) (c : 6 ≤ nI aN) : ∀ q, q < 6 → ¬ lat z (nI q) n = -1 := fun q hq h => by
  have h1 := apN_lt h 6 hq
  subst ha
  exact nI_ge (a := apN z n 6) (b := 6) h1 (by decide) c
theorem lw_6 (ha : aN = apN z n 6) (c : ¬ 6 ≤ nI aN) : 6 = whyDay z n := by
  subst ha
  have h : ∃ q, q < 6 ∧ lat z (nI q) n = -1 := by
    refine Classical.byContradiction fun h => c ?_
    have := apN_all (z := z) (n := n) 6 (fun q hq h2 => h ⟨q, hq, h2⟩)
    rw [this]
    decide
  obtain ⟨q, hq, hl⟩ := h
  have h2 : ¬ whyDay z n = 0 := fun h0 => day_ok h0 q hq hl
  refine Classical.byContradiction fun hc => ?_
  exact wdl_ok 6 0 _ _ _ (show ¬ whyDay z n = 6 from fun e => hc e.symm) q (Nat.zero_le _) (by omega) hl
theorem lw_7 (hp : okp z n) (hz : (z 0).toInt ≤ 10000000) (hQ : rng (z 14) 0 1000) (ha : aN = apN z n 6) (ho : o8 = apO z n 6) (c : 6 ≤ nI aN) (c2 : ¬ o8 = 0) : 7 = whyDay z n := by
  have hq := all_there ha c
  rw [ho, apO_all hp hz hQ 6 hq] at c2
  rw [ref_end hp hq, if_pos (bI_t c2)]
theorem lw_e (hp : okp z n) (hz : (z 0).toInt ≤ 10000000) (hQ : rng (z 14) 0 1000) (ha : aN = apN z n 6) (ho : o8 = apO z n 6) (hl : l6 = apL z n 6) (hm : m7 = apM z n 6) (c : 6 ≤ nI aN) (c2 : o8 = 0) : whyDay z n = if m7 - l6 ≤ z 15 then 0 else 8 := by
  have hq := all_there ha c
  rw [ho, apO_all hp hz hQ 6 hq] at c2
  have c3 := bI_f c2
  rw [ref_end hp hq, if_neg (by rw [c3]; decide), hl, hm, apL_all 6 hq, apM_all 6 hq]
theorem lw_0 (hp : okp z n) (hz : (z 0).toInt ≤ 10000000) (hQ : rng (z 14) 0 1000) (ha : aN = apN z n 6) (ho : o8 = apO z n 6) (hl : l6 = apL z n 6) (hm : m7 = apM z n 6) (c : 6 ≤ nI aN) (c2 : o8 = 0) (c3 : m7 - l6 ≤ z 15) : 0 = whyDay z n := by rw [lw_e hp hz hQ ha ho hl hm c c2, if_pos c3]
theorem lw_8 (hp : okp z n) (hz : (z 0).toInt ≤ 10000000) (hQ : rng (z 14) 0 1000) (ha : aN = apN z n 6) (ho : o8 = apO z n 6) (hl : l6 = apL z n 6) (hm : m7 = apM z n 6) (c : 6 ≤ nI aN) (c2 : o8 = 0) (c3 : ¬ m7 - l6 ≤ z 15) : 8 = whyDay z n := by rw [lw_e hp hz hQ ha ho hl hm c c2, if_neg c3]
theorem ld_y (hp : okp z n) (hs : s5 = apS z n 6) {y : Int32} (ey : y = whyDay z n) (c : y ≤ 0) : dwn s5 6 + 10000 = dr1 z n := by
  have c0 := why_0 (ey ▸ c)
  have hq : ∀ q, q < 6 → ¬ lat z (nI q) n = -1 := day_ok c0
  rw [hs, apS_all 6 hq, dwn_6 (rng_w (sm_rng hp c0 6 (by omega)) (by decide) (by decide)), dr1, if_pos c0]
theorem ld_n {y : Int32} (ey : y = whyDay z n) (c : ¬ y ≤ 0) : -1 = dr1 z n := by
  rw [dr1, if_neg (why_n0 (ey ▸ c))]
end LOOK
