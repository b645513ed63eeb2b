/-! The first error: pure words. -/
theorem nI_inj {a b : Nat} (ha : a < 2 ^ 31) (hb : b < 2 ^ 31) (h : nI a = nI b) : a = b := by
  have h1 := nI_toInt ha
  have h2 := nI_toInt hb
  rw [h] at h1
  omega
theorem inB_z {lo : Int32} (h : lo = 49 ∨ lo = 48) : inB 0 lo 57 = false := by rcases h with rfl | rfl <;> decide
theorem rnS_lt {tx : Nat → Int32} {len j : Nat} {mo v : Int32} (c : rnS tx len mo j v = true) : j < len := by
  refine Classical.byContradiction fun h => ?_
  rw [rnS, at_0 (by omega), inB_z (by split <;> simp)] at c
  exact absurd c (by simp)
theorem rnJ_b {tx : Nat → Int32} {len : Nat} {mo : Int32} : ∀ (m j : Nat) (v : Int32), j ≤ len → j ≤ rnJ tx len mo m j v ∧ rnJ tx len mo m j v ≤ len
  | 0, j, _, h => ⟨Nat.le_refl _, h⟩
  | m + 1, j, v, h => by
    cases c : rnS tx len mo j v with
    | true =>
      rw [rnJ_y c]
      have h1 := rnJ_b (tx := tx) (mo := mo) m (j + 1) (10 * v + atT tx len j - 48) (rnS_lt c)
      exact ⟨by omega, h1.2⟩
    | false =>
      rw [rnJ_n c]
      exact ⟨Nat.le_refl _, h⟩
theorem nuJ_b {tx : Nat → Int32} {len i : Nat} {mo : Int32} (h : i ≤ len) : i ≤ nuJ tx len mo i ∧ nuJ tx len mo i ≤ len := rnJ_b _ _ _ h
theorem poJ_b {tx : Nat → Int32} {len i : Nat} (h : i ≤ len) : i ≤ poJ tx len i ∧ poJ tx len i ≤ len := by
  unfold poJ
  split
  · rename_i c
    have hl : i < len := by
      refine Classical.byContradiction fun h => ?_
      rw [poO, at_0 (by omega)] at c
      exact absurd c (by decide)
    omega
  · omega
theorem ruJ_b {tx : Nat → Int32} {len i : Nat} (h : i ≤ len) : i ≤ ruJ tx len i ∧ ruJ tx len i ≤ len := by
  unfold ruJ
  split
  · rename_i c
    have := atT_lt c (by decide)
    omega
  · unfold ruI
    split
    · rename_i c
      have h1 := atT_lt c (by decide)
      have h2 := nuJ_b (tx := tx) (mo := 99) (show i + 1 ≤ len from h1)
      omega
    · exact nuJ_b h
theorem rpJ_b {tx : Nat → Int32} {len i : Nat} (h : i ≤ len) : i ≤ rpJ tx len i ∧ rpJ tx len i ≤ len := by
  unfold rpJ
  split
  · rename_i c
    have h2 := nuJ_b (tx := tx) (mo := 99) (show i + 1 ≤ len from atT_lt c (by decide))
    omega
  · split
    · rename_i c
      have h1 := atT_lt c (by decide)
      omega
    · split
      · rename_i c
        have h2 := ruJ_b (tx := tx) (show i + 1 ≤ len from atT_lt c (by decide))
        omega
      · split
        · rename_i c
          have h2 := poJ_b (tx := tx) (show i + 1 ≤ len from atT_lt c (by decide))
          omega
        · split
          · rename_i c
            have h2 := poJ_b (tx := tx) (show i + 1 ≤ len from atT_lt c (by decide))
            omega
          · split
            · rename_i c
              have h2 := nuJ_b (tx := tx) (mo := 48) (show i + 1 ≤ len from atT_lt c (by decide))
              omega
            · omega
theorem rpY_q {tx y : Nat → Int32} {len i k : Nat} (h4 : ¬ k = 4) (h5 : ¬ k = 5) : rpY tx len i y k = y k := by
  unfold rpY
  split
  · rw [upd_no h5, upd_no h4]
  · split
    · rw [upd_no h4]
    · split
      · rw [upd_no h5, upd_no h4]
      · split
        · rw [upd_no h5, upd_no h4]
        · split
          · rw [upd_no h5, upd_no h4]
          · split
            · rw [upd_no h5, upd_no h4]
            · rw [upd_no h4]
theorem rj_I {j : Nat} (hj : j ≤ 100) : (-1 - nI j).toInt = -1 - (j : Int) := by
  have h1 := nI_toInt (show j < 2 ^ 31 by omega)
  rw [fb_subI (by rw [h1, show (-1 : Int32).toInt = -1 by decide]; omega) (by rw [h1, show (-1 : Int32).toInt = -1 by decide]; omega), h1, show (-1 : Int32).toInt = -1 by decide]
theorem rj_ge {b : Bool} {j : Nat} (hj : j ≤ 100) (c : 0 ≤ rj b j) : b = true := by
  cases b with
  | true => rfl
  | false =>
    rw [rj_n rfl, toI_pos, rj_I hj] at c
    omega
theorem rj_lt {b : Bool} {j : Nat} (hj : j ≤ 100) (c : ¬ 0 ≤ rj b j) : b = false := by
  cases b with
  | false => rfl
  | true =>
    rw [rj_y rfl, toI_pos, nI_toInt (by omega)] at c
    omega
theorem m1m1 {j : Nat} (hj : j ≤ 100) : -1 - (-1 - nI j) = nI j := by
  have h1 := nI_toInt (show j < 2 ^ 31 by omega)
  have h2 := rj_I hj
  have h3 : (-1 : Int32).toInt = -1 := by decide
  rw [fa_eq, fb_subI (by rw [h2, h3]; omega) (by rw [h2, h3]; omega), h2, h3, h1]
  omega
def feR (tx : Nat → Int32) (len : Nat) : Nat → Nat → Int32
  | 0, _ => -1
  | m + 1, i => if rpO tx len i = true then (if rpJ tx len i = len then -1 else if tx (rpJ tx len i) = 59 then feR tx len m (rpJ tx len i + 1) else nI (rpJ tx len i)) else nI (rpJ tx len i)
def feY (tx : Nat → Int32) (len : Nat) : Nat → Nat → (Nat → Int32) → Nat → Int32
  | 0, _, y => y
  | m + 1, i, y => if rpO tx len i = true ∧ ¬ rpJ tx len i = len ∧ tx (rpJ tx len i) = 59 then feY tx len m (rpJ tx len i + 1) (rpY tx len i y) else rpY tx len i y
theorem feR_s {tx : Nat → Int32} {len m i : Nat} (c1 : rpO tx len i = true) (c2 : ¬ rpJ tx len i = len) (c3 : tx (rpJ tx len i) = 59) : feR tx len (m + 1) i = feR tx len m (rpJ tx len i + 1) := by rw [feR, if_pos c1, if_neg c2, if_pos c3]
theorem feR_1 {tx : Nat → Int32} {len m i : Nat} (c1 : rpO tx len i = true) (c2 : rpJ tx len i = len) : feR tx len (m + 1) i = -1 := by rw [feR, if_pos c1, if_pos c2]
theorem feR_2 {tx : Nat → Int32} {len m i : Nat} (c1 : rpO tx len i = true) (c2 : ¬ rpJ tx len i = len) (c3 : ¬ tx (rpJ tx len i) = 59) : feR tx len (m + 1) i = nI (rpJ tx len i) := by rw [feR, if_pos c1, if_neg c2, if_neg c3]
theorem feR_3 {tx : Nat → Int32} {len m i : Nat} (c1 : rpO tx len i = false) : feR tx len (m + 1) i = nI (rpJ tx len i) := by rw [feR, if_neg (by rw [c1]; decide)]
theorem feY_s {tx y : Nat → Int32} {len m i : Nat} (c1 : rpO tx len i = true) (c2 : ¬ rpJ tx len i = len) (c3 : tx (rpJ tx len i) = 59) : feY tx len (m + 1) i y = feY tx len m (rpJ tx len i + 1) (rpY tx len i y) := if_pos ⟨c1, c2, c3⟩
theorem feY_e {tx y : Nat → Int32} {len m i : Nat} (c : ¬ (rpO tx len i = true ∧ ¬ rpJ tx len i = len ∧ tx (rpJ tx len i) = 59)) : feY tx len (m + 1) i y = rpY tx len i y := if_neg c
theorem feY_q {tx : Nat → Int32} {len k : Nat} (h4 : ¬ k = 4) (h5 : ¬ k = 5) : ∀ (m i : Nat) (y : Nat → Int32), feY tx len m i y k = y k
  | 0, _, _ => rfl
  | m + 1, i, y => by
    rw [feY]
    split
    · rw [feY_q h4 h5 m, rpY_q h4 h5]
    · rw [rpY_q h4 h5]
def ferR (tx : Nat → Int32) (len : Nat) : Int32 := if 0 ≤ feR tx len (len + 1) 0 then feR tx len (len + 1) 0 else nI len
