/-! Pure words for the reference's looks: the day's rate in its way, the night, the paper's bounds. -/
/-- the printed readings: hours and rates in bounds -/
def okp (z : Nat → Int32) (n : Nat) : Prop := rng (z 0) 0 1000000000 ∧ (∀ i, i < n → rng (z (25 + (i * 5 + 0))) 0 (z 0).toInt) ∧ ∀ i, i < n → rng (z (25 + (i * 5 + 2))) (-2000) 2000
theorem lat_lt' {z : Nat → Int32} {x : Int32} : ∀ (n : Nat), n < 2 ^ 31 → (lat z x n = -1 ∨ 0 ≤ lat z x n)
  | 0, _ => Or.inl rfl
  | n + 1, h => by
    by_cases c : z (25 + (n * 5 + 1)) = x
    · rw [lat_yes c]
      refine Or.inr ?_
      rw [toI_pos, nI_toInt (by omega)]
      omega
    · rw [lat_no c]
      exact lat_lt' n (by omega)
theorem lat_ge {z : Nat → Int32} {x : Int32} {n : Nat} (c : 0 ≤ lat z x n) : ¬ lat z x n = -1 := fun e => by
  rw [e] at c
  exact absurd c (by decide)
theorem lat_lt {z : Nat → Int32} {x : Int32} {n : Nat} (h : n ≤ 40) (c : ¬ 0 ≤ lat z x n) : lat z x n = -1 := (lat_lt' n (by omega)).resolve_right c
def lwN (p : Nat) (v l : Int32) : Int32 := if p = 0 then v else if l ≤ v then l else v
def hgN (p : Nat) (v g : Int32) : Int32 := if p = 0 then v else if v ≤ g then g else v
def staR (z : Nat → Int32) (n : Nat) : Nat → Bool
  | 0 => false
  | p + 1 => staR z n p || !decide (z 0 - hrj z n p ≤ z 14)
def lowR (z : Nat → Int32) (n : Nat) : Nat → Int32
  | 0 => 0
  | p + 1 => lwN p (rtj z n p) (lowR z n p)
def higR (z : Nat → Int32) (n : Nat) : Nat → Int32
  | 0 => 0
  | p + 1 => hgN p (rtj z n p) (higR z n p)
-- the class's way, step by step
def oR (z : Nat → Int32) (n : Nat) : Nat → Int32
  | 0 => 2000000000
  | p + 1 => mn (oR z n p) (hrj z n p)
def lR (z : Nat → Int32) (n : Nat) : Nat → Int32
  | 0 => 2000000000
  | p + 1 => mn (lR z n p) (rtj z n p)
def gR (z : Nat → Int32) (n : Nat) : Nat → Int32
  | 0 => -2000000000
  | p + 1 => mx (gR z n p) (rtj z n p)
theorem wdl_at {z : Nat → Int32} {n : Nat} : ∀ (p : Nat), p ≤ 6 → (∀ q, q < p → ¬ lat z (nI q) n = -1) → wdl z n (6 - p) p (oR z n p) (lR z n p) (gR z n p) = whyDay z n
  | 0, _, _ => rfl
  | p + 1, h, hq => by
    have ih := wdl_at p (by omega) (fun q h => hq q (by omega))
    rw [show 6 - p = (6 - (p + 1)) + 1 by omega, wdl_s (hq p (by omega))] at ih
    exact ih
theorem ref_6 {z : Nat → Int32} {n p : Nat} (h : p < 6) (hq : ∀ q, q < p → ¬ lat z (nI q) n = -1) (c : lat z (nI p) n = -1) : whyDay z n = 6 := by
  have h1 := wdl_at p (by omega) hq
  rw [show 6 - p = (6 - (p + 1)) + 1 by omega, wdl_6 c] at h1
  exact h1.symm
theorem hrj_rng {z : Nat → Int32} {n p : Nat} (hp : okp z n) (c : ¬ lat z (nI p) n = -1) : rng (hrj z n p) 0 (z 0).toInt := hp.2.1 _ (lat_j c).2.1
theorem rtj_rng {z : Nat → Int32} {n p : Nat} (hp : okp z n) (c : ¬ lat z (nI p) n = -1) : rng (rtj z n p) (-2000) 2000 := hp.2.2 _ (lat_j c).2.1
theorem lat_ext {z : Nat → Int32} {n p : Nat} (h : ∀ q, q < p → ¬ lat z (nI q) n = -1) (c : ¬ lat z (nI p) n = -1) : ∀ q, q < p + 1 → ¬ lat z (nI q) n = -1 := fun q hq => by
  rcases Nat.eq_or_lt_of_le (Nat.le_of_lt_succ hq) with e | e
  · rw [e]; exact c
  · exact h q e
theorem mn_I (a b : Int32) : (mn a b).toInt = if b.toInt < a.toInt then b.toInt else a.toInt := by
  unfold mn
  by_cases c : b < a
  · rw [if_pos c, if_pos ((fa_lt _ _).mp c)]
  · rw [if_neg c, if_neg (fun h => c ((fa_lt _ _).mpr h))]
theorem mx_I (a b : Int32) : (mx a b).toInt = if a.toInt < b.toInt then b.toInt else a.toInt := by
  unfold mx
  by_cases c : a < b
  · rw [if_pos c, if_pos ((fa_lt _ _).mp c)]
  · rw [if_neg c, if_neg (fun h => c ((fa_lt _ _).mpr h))]
theorem sta_o {z : Nat → Int32} {n : Nat} (hp : okp z n) : ∀ (p : Nat), (∀ q, q < p → ¬ lat z (nI q) n = -1) → 0 ≤ (oR z n p).toInt ∧ (oR z n p).toInt ≤ 2000000000 ∧ (0 < p → (oR z n p).toInt ≤ (z 0).toInt ∧ (staR z n p = true ↔ (z 14).toInt < (z 0).toInt - (oR z n p).toInt))
  | 0, _ => ⟨show 0 ≤ (2000000000 : Int32).toInt by decide, show (2000000000 : Int32).toInt ≤ 2000000000 by decide, fun h => by omega⟩
  | p + 1, hq => by
    obtain ⟨h1, h2, h3⟩ := sta_o hp p (fun q h => hq q (by omega))
    obtain ⟨r1, r2⟩ := hrj_rng hp (hq p (by omega))
    obtain ⟨z1, z2⟩ := hp.1
    have e1 := mn_I (oR z n p) (hrj z n p)
    have e2 : (z 0 - hrj z n p).toInt = (z 0).toInt - (hrj z n p).toInt := fb_subI (by omega) (by omega)
    have e3 : oR z n (p + 1) = mn (oR z n p) (hrj z n p) := rfl
    have e4 : staR z n (p + 1) = (staR z n p || !decide (z 0 - hrj z n p ≤ z 14)) := rfl
    have e5 : (z 0 - hrj z n p ≤ z 14) ↔ (z 0).toInt - (hrj z n p).toInt ≤ (z 14).toInt := by rw [fa_le, e2]
    have e6 : staR z n (p + 1) = true ↔ (staR z n p = true ∨ (z 14).toInt < (z 0).toInt - (hrj z n p).toInt) := by
      rw [e4, Bool.or_eq_true, Bool.not_eq_true', decide_eq_false_iff_not, e5, Int.not_le]
    rw [e3, e1, e6]
    rcases Nat.eq_zero_or_pos p with e | e
    · subst e
      have s0 : ¬ staR z n 0 = true := show ¬ false = true by decide
      have o0 : (oR z n 0).toInt = 2000000000 := show (2000000000 : Int32).toInt = 2000000000 by decide
      rw [o0]
      split
      · exact ⟨by omega, by omega, fun _ => ⟨by omega, by constructor <;> intro h <;> first | exact h.resolve_left s0 | exact Or.inr h⟩⟩
      · omega
    · obtain ⟨h4, h5⟩ := h3 e
      rw [h5]
      split <;> exact ⟨by omega, by omega, fun _ => ⟨by omega, by omega⟩⟩
theorem low_l {z : Nat → Int32} {n : Nat} (hp : okp z n) : ∀ (p : Nat), (∀ q, q < p → ¬ lat z (nI q) n = -1) → 0 < p → lowR z n p = lR z n p ∧ higR z n p = gR z n p
  | 0, _, h => by omega
  | p + 1, hq, _ => by
    obtain ⟨r1, r2⟩ := rtj_rng hp (hq p (by omega))
    have e1 : lowR z n (p + 1) = lwN p (rtj z n p) (lowR z n p) := rfl
    have e2 : lR z n (p + 1) = mn (lR z n p) (rtj z n p) := rfl
    have e3 : higR z n (p + 1) = hgN p (rtj z n p) (higR z n p) := rfl
    have e4 : gR z n (p + 1) = mx (gR z n p) (rtj z n p) := rfl
    rw [e1, e2, e3, e4]
    rcases Nat.eq_zero_or_pos p with e | e
    · subst e
      have o0 : (lR z n 0).toInt = 2000000000 := show (2000000000 : Int32).toInt = 2000000000 by decide
      have g0 : (gR z n 0).toInt = -2000000000 := show (-2000000000 : Int32).toInt = -2000000000 by decide
      constructor
      · rw [lwN, if_pos rfl, fa_eq, mn_I, o0, if_pos (by omega)]
      · rw [hgN, if_pos rfl, fa_eq, mx_I, g0, if_pos (by omega)]
    · obtain ⟨i1, i2⟩ := low_l hp p (fun q h => hq q (by omega)) e
      rw [i1, i2]
      constructor
      · rw [lwN, if_neg (by omega), mn]
        by_cases c : lR z n p ≤ rtj z n p
        · rw [if_pos c, if_neg (by rw [fa_lt]; rw [fa_le] at c; omega)]
        · rw [if_neg c, if_pos (by rw [fa_lt]; rw [fa_le] at c; omega)]
      · rw [hgN, if_neg (by omega), mx]
        by_cases c : rtj z n p ≤ gR z n p
        · rw [if_pos c, if_neg (by rw [fa_lt]; rw [fa_le] at c; omega)]
        · rw [if_neg c, if_pos (by rw [fa_lt]; rw [fa_le] at c; omega)]
theorem ref_end {z : Nat → Int32} {n : Nat} (hp : okp z n) (hq : ∀ q, q < 6 → ¬ lat z (nI q) n = -1) : whyDay z n = if staR z n 6 = true then 7 else if higR z n 6 - lowR z n 6 ≤ z 15 then 0 else 8 := by
  have h1 := wdl_at 6 (by omega) hq
  obtain ⟨s1, s2, s3⟩ := sta_o hp 6 hq
  obtain ⟨s4, s5⟩ := s3 (by omega)
  obtain ⟨l1, g1⟩ := low_l hp 6 hq (by omega)
  obtain ⟨z1, z2⟩ := hp.1
  have e2 : (z 0 - oR z n 6).toInt = (z 0).toInt - (oR z n 6).toInt := fb_subI (by omega) (by omega)
  rw [← h1, l1, g1]
  show (if z 0 - oR z n 6 ≤ z 14 then (if gR z n 6 - lR z n 6 ≤ z 15 then 0 else 8) else 7) = _
  by_cases c : z 0 - oR z n 6 ≤ z 14
  · have c2 : ¬ staR z n 6 = true := by rw [s5]; rw [fa_le, e2] at c; omega
    rw [if_pos c, if_neg c2]
  · have c2 : staR z n 6 = true := by rw [s5]; rw [fa_le, e2] at c; omega
    rw [if_neg c, if_pos c2]
theorem wdl_0 {z : Nat → Int32} {n : Nat} : ∀ (m p : Nat) (o l g : Int32), wdl z n m p o l g = 0 ∨ 0 < wdl z n m p o l g
  | 0, p, o, l, g => by
    rw [wdl]
    split
    · split
      · exact Or.inl rfl
      · exact Or.inr (by decide)
    · exact Or.inr (by decide)
  | m + 1, p, o, l, g => by
    by_cases c : lat z (nI p) n = -1
    · rw [wdl_6 c]; exact Or.inr (by decide)
    · rw [wdl_s c]; exact wdl_0 m _ _ _ _
theorem why_0 {z : Nat → Int32} {n : Nat} (c : whyDay z n ≤ 0) : whyDay z n = 0 := by
  rcases wdl_0 6 0 2000000000 2000000000 (-2000000000) (z := z) (n := n) with h | h
  · exact h
  · have h2 : 0 < whyDay z n := h
    rw [fa_lt] at h2
    rw [fa_le] at c
    omega
theorem why_n0 {z : Nat → Int32} {n : Nat} (c : ¬ whyDay z n ≤ 0) : ¬ whyDay z n = 0 := fun h => c (by rw [h]; decide)
theorem sm_rng {z : Nat → Int32} {n : Nat} (hp : okp z n) (c : whyDay z n = 0) : ∀ (p : Nat), p ≤ 6 → rng (sm z n p) (-2000 * p) (2000 * p)
  | 0, _ => ⟨show -2000 * ((0 : Nat) : Int) ≤ (0 : Int32).toInt by decide, show (0 : Int32).toInt ≤ 2000 * ((0 : Nat) : Int) by decide⟩
  | p + 1, h => by
    obtain ⟨i1, i2⟩ := sm_rng hp c p (by omega)
    obtain ⟨r1, r2⟩ := rtj_rng hp (day_ok c p (by omega))
    have e : (sm z n (p + 1)).toInt = (sm z n p).toInt + (rtj z n p).toInt := fb_addI (by omega) (by omega)
    exact ⟨by rw [e]; omega, by rw [e]; omega⟩
theorem dvd_s {z : Nat → Int32} {n : Nat} {s : Int32} (hp : okp z n) (c : whyDay z n = 0) (hs : s = sm z n 6) : dvd s 6 = fdv s 6 := dvd_f (by decide) (by decide) (by
  have h := (sm_rng hp c 6 (by omega)).1
  rw [hs]
  omega)
-- the night
def ntA (z ad : Nat → Int32) : Nat → Nat → Int32
  | 0 => ad
  | _ + 1 => z
theorem nI_z {p : Nat} (h : p < 2 ^ 31) (c : nI p = 0) : p = 0 := by
  have h1 := nI_toInt h
  rw [c, show (0 : Int32).toInt = 0 by decide] at h1
  omega
theorem night_t {z : Nat → Int32} {n p : Nat} {b l N : Int32} (hp : p = 0) (hE : ¬ 2000000000 ≤ am (wz1 z 0 7)) (he : ngl z (n + 1) p b (if p = 0 then 2000000000 else l) = N) : ngl z n (p + 1) (nI p) (if p + 1 = 0 then 2000000000 else am (wz1 z p 7)) = N := by
  subst hp
  rw [if_pos rfl, ngl_s hE] at he
  rw [if_neg (by omega)]
  exact he
theorem night_s {z : Nat → Int32} {n p : Nat} {b l N : Int32} (hp : ¬ p = 0) (c : ¬ l ≤ am (wz1 z p 7)) (he : ngl z (n + 1) p b (if p = 0 then 2000000000 else l) = N) : ngl z n (p + 1) (nI p) (if p + 1 = 0 then 2000000000 else am (wz1 z p 7)) = N := by
  rw [if_neg hp, ngl_s c] at he
  rw [if_neg (by omega)]
  exact he
theorem night_k {z : Nat → Int32} {n p : Nat} {b l N : Int32} (hp : ¬ p = 0) (c : l ≤ am (wz1 z p 7)) (he : ngl z (n + 1) p b (if p = 0 then 2000000000 else l) = N) : ngl z n (p + 1) b (if p + 1 = 0 then 2000000000 else l) = N := by
  rw [if_neg hp, ngl_k c] at he
  rw [if_neg (by omega)]
  exact he
theorem bestN_1 (z : Nat → Int32) : brl (oth z 6) 198 1 (-99) + 100 = bestN z := by
  rw [bestN, show brl (oth z 6) 199 0 (-99) = brl (oth z 6) 198 1 (-99) from brl_k (by
    rw [show nI 0 - 99 = (-99 : Int32) by decide, fa_le]
    exact Int.le_refl _)]
-- the paper's numbers
def rnw (z : Nat → Int32) (i wh : Nat) : Int32 := if wh = 2 then z (25 + (i * 5 + wh)) + 10000 else z (25 + (i * 5 + wh))
theorem rnw_r {z : Nat → Int32} {n i wh : Nat} (h : i < n) : rnw z i wh = rnum z n i wh := by
  rw [rnum, if_pos h]
  rfl
theorem nI_div5 {i : Nat} (h : i < 1000) : nI i / 5 = nI (i / 5) := by
  rw [fa_eq, div_I (by decide), nI_toInt (by omega), nI_toInt (by omega), show (5 : Int32).toInt = 5 by decide, Int.tdiv_eq_ediv_of_nonneg (by omega)]
  omega
theorem nI_mod5 {i : Nat} (h : i < 1000) : nI i - nI i / 5 * 5 = nI (i % 5) := by
  rw [nI_div5 h]
  have e5 : (5 : Int32) = nI 5 := by decide
  have e1 : (nI (i / 5) * 5).toInt = ((i / 5 : Nat) : Int) * 5 := by
    rw [fb_mulI (by rw [nI_toInt (by omega), show (5 : Int32).toInt = 5 by decide]; omega) (by rw [nI_toInt (by omega), show (5 : Int32).toInt = 5 by decide]; omega), nI_toInt (by omega), show (5 : Int32).toInt = 5 by decide]
  rw [fa_eq, fb_subI (by rw [e1, nI_toInt (by omega)]; omega) (by rw [e1, nI_toInt (by omega)]; omega), e1, nI_toInt (by omega), nI_toInt (by omega)]
  omega
/-- the readings' hash, number by number -/
def mrf (z : Nat → Int32) (n : Nat) (h : Int64) : Nat → Int64
  | 0 => h
  | i + 1 => mixL (mrf z n h i) (rnum z n (i / 5) (i % 5)).toInt64
theorem mrf_r {z : Nat → Int32} {n : Nat} {h : Int64} {i : Nat} : ∀ (j : Nat), j ≤ 5 → mrf z n h (5 * i + j) = mr z n i (mrf z n h (5 * i)) j
  | 0, _ => rfl
  | j + 1, hj => by
    have ih := mrf_r (z := z) (n := n) (h := h) (i := i) j (by omega)
    have e : mrf z n h (5 * i + (j + 1)) = mixL (mrf z n h (5 * i + j)) (rnum z n ((5 * i + j) / 5) ((5 * i + j) % 5)).toInt64 := rfl
    rw [e, ih, show (5 * i + j) / 5 = i by omega, show (5 * i + j) % 5 = j by omega]
    rfl
theorem mrf_a {z : Nat → Int32} {n : Nat} {h : Int64} : ∀ (i : Nat), mrf z n h (5 * i) = mra z n h i
  | 0 => rfl
  | i + 1 => by
    have e := mrf_r (z := z) (n := n) (h := h) (i := i) 5 (Nat.le_refl _)
    rw [show 5 * (i + 1) = 5 * i + 5 by omega, e, mrf_a i]
    rfl
theorem share_nz {z : Nat → Int32} (h : 0 ≤ (z 0).toInt) (c : ¬ z 0 = 0) : ¬ z 0 ≤ 0 := fun h2 => c (by
  rw [fa_le, show (0 : Int32).toInt = 0 by decide] at h2
  rw [fa_eq, show (0 : Int32).toInt = 0 by decide]
  omega)
theorem tq_c {t tx : Nat → Int32} {h : Int64} : ∀ (n : Nat), (∀ i, i < n → tx i = t (300 + i)) → tq t h n = tq (fun k => tx (k - 300)) h n
  | 0, _ => rfl
  | n + 1, hh => by
    rw [tq, tq, tq_c n (fun i hi => hh i (by omega)), Nat.add_sub_cancel_left, hh n (by omega)]
