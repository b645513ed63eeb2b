/-! What a part that is read may be. -/
theorem inB_r {v lo hi : Int32} (h : inB v lo hi = true) : lo.toInt ≤ v.toInt ∧ v.toInt ≤ hi.toInt := by
  rw [inB, Bool.and_eq_true, Bool.not_eq_true', Bool.not_eq_true', decide_eq_false_iff_not, decide_eq_false_iff_not, fa_lt, fa_lt] at h
  omega
theorem nat_of {v : Int32} (h : 0 ≤ v.toInt) : v = nI v.toInt.toNat := by
  have h2 := fb_rng v
  rw [fa_eq, nI_toInt (by omega)]
  omega
theorem rnV_b {tx : Nat → Int32} {len : Nat} {mo : Int32} (hm : 0 ≤ mo.toInt ∧ mo.toInt ≤ 99) : ∀ (m j : Nat) (v : Int32), rng v 0 mo.toInt → rng (rnV tx len mo m j v) 0 mo.toInt
  | 0, _, _, h => h
  | m + 1, j, v, h => by
    cases c : rnS tx len mo j v with
    | true =>
      rw [rnV_y c]
      have h2 := c
      rw [rnS, Bool.and_eq_true] at h2
      obtain ⟨c1, c2⟩ := h2
      have c3 := of_decide_eq_true c2
      rw [fa_le] at c3
      have r := inB_r c1
      obtain ⟨h3, h4⟩ := h
      have lo : 48 ≤ (if v = 0 then (49 : Int32) else 48).toInt := by split <;> decide
      have c57 : (57 : Int32).toInt = 57 := by decide
      have c10 : (10 : Int32).toInt = 10 := by decide
      have c48 : (48 : Int32).toInt = 48 := by decide
      have e1 : (10 * v).toInt = 10 * v.toInt := by rw [fb_mulI (by rw [c10]; omega) (by rw [c10]; omega), c10]
      have e2 : (10 * v + atT tx len j).toInt = 10 * v.toInt + (atT tx len j).toInt := by rw [fb_addI (by rw [e1]; omega) (by rw [e1]; omega), e1]
      have e3 : (10 * v + atT tx len j - 48).toInt = 10 * v.toInt + (atT tx len j).toInt - 48 := by rw [fb_subI (by rw [e2, c48]; omega) (by rw [e2, c48]; omega), e2, c48]
      exact rnV_b hm m (j + 1) _ ⟨by rw [e3]; omega, c3⟩
    | false =>
      rw [rnV_n c]
      exact h
theorem nuV_b {tx : Nat → Int32} {len i : Nat} {mo : Int32} (hm : 0 ≤ mo.toInt ∧ mo.toInt ≤ 99) : rng (nuV tx len mo i) 0 mo.toInt := rnV_b hm _ _ _ ⟨by decide, by rw [show (0 : Int32).toInt = 0 by decide]; exact hm.1⟩
theorem ruV_b {tx : Nat → Int32} {len i : Nat} : rng (ruV tx len i) (-99) 99 := by
  have h := nuV_b (tx := tx) (len := len) (i := ruI tx len i) (mo := 99) ⟨by decide, by decide⟩
  rw [show (99 : Int32).toInt = 99 by decide] at h
  obtain ⟨h1, h2⟩ := h
  unfold ruV
  split
  · exact ⟨by decide, by decide⟩
  · split
    · have e := fb_negI (x := nuV tx len 99 (ruI tx len i)) (by omega)
      exact ⟨by rw [e]; omega, by rw [e]; omega⟩
    · exact ⟨by omega, by omega⟩
theorem poV_b {tx : Nat → Int32} {len i : Nat} (c : poO tx len i = true) : ∃ u, atT tx len i - 48 = nI u ∧ u < 6 := by
  have h := inB_r c
  rw [show (0 : Int32).toInt = 0 by decide, show (5 : Int32).toInt = 5 by decide] at h
  exact ⟨(atT tx len i - 48).toInt.toNat, nat_of h.1, by omega⟩
theorem rpO_vt {tx : Nat → Int32} {len i : Nat} (c : rpO tx len i = true) : vtY (atT tx len i) (rpV tx len i) ∧ (atT tx len i = 103 → rng (rpV tx len i) (-99) 99) ∧ (atT tx len i = 119 → rng (rpV tx len i) 0 48) := by
  by_cases a1 : atT tx len i = 43
  · have e : rpV tx len i = nuV tx len 99 (i + 1) := by rw [rpV, if_pos a1]
    have h := nuV_b (tx := tx) (len := len) (i := i + 1) (mo := 99) ⟨by decide, by decide⟩
    rw [show (99 : Int32).toInt = 99 by decide] at h
    rw [a1, e]
    exact ⟨⟨Or.inl rfl, fun h => absurd h (by decide), fun _ => ⟨_, nat_of h.1, by have := h.2; omega⟩⟩, fun h => absurd h (by decide), fun h => absurd h (by decide)⟩
  · by_cases a2 : atT tx len i = 100
    · rw [a2]
      exact ⟨⟨by simp, fun h => absurd h (by decide), fun h => absurd h (by decide)⟩, fun h => absurd h (by decide), fun h => absurd h (by decide)⟩
    · by_cases a3 : atT tx len i = 103
      · have e : rpV tx len i = ruV tx len (i + 1) := by rw [rpV, if_neg a1, if_pos a3]
        rw [a3, e]
        exact ⟨⟨by simp, fun h => absurd h (by decide), fun h => absurd h (by decide)⟩, fun _ => ruV_b, fun h => absurd h (by decide)⟩
      · by_cases a4 : atT tx len i = 112
        · have e : rpV tx len i = atT tx len (i + 1) - 48 := by rw [rpV, if_neg a1, if_neg a3, if_pos a4]
          rw [rpO, if_neg a1, if_neg a2, if_neg a3, if_pos a4] at c
          rw [a4, e]
          exact ⟨⟨by simp, fun _ => poV_b c, fun h => absurd h (by decide)⟩, fun h => absurd h (by decide), fun h => absurd h (by decide)⟩
        · by_cases a5 : atT tx len i = 114
          · have e : rpV tx len i = atT tx len (i + 1) - 48 := by rw [rpV, if_neg a1, if_neg a3, if_neg a4, if_pos a5]
            rw [rpO, if_neg a1, if_neg a2, if_neg a3, if_neg a4, if_pos a5] at c
            rw [a5, e]
            exact ⟨⟨by simp, fun _ => poV_b c, fun h => absurd h (by decide)⟩, fun h => absurd h (by decide), fun h => absurd h (by decide)⟩
          · by_cases a6 : atT tx len i = 119
            · have e : rpV tx len i = nuV tx len 48 (i + 1) := by rw [rpV, if_neg a1, if_neg a3, if_neg a4, if_neg a5, if_pos a6]
              have h := nuV_b (tx := tx) (len := len) (i := i + 1) (mo := 48) ⟨by decide, by decide⟩
              rw [show (48 : Int32).toInt = 48 by decide] at h
              rw [a6, e]
              exact ⟨⟨by simp, fun h => absurd h (by decide), fun h => absurd h (by decide)⟩, fun h => absurd h (by decide), fun _ => h⟩
            · rw [rpO, if_neg a1, if_neg a2, if_neg a3, if_neg a4, if_neg a5, if_neg a6] at c
              exact absurd c (by decide)
theorem rpY_4 {tx y : Nat → Int32} {len i : Nat} : rpY tx len i y 4 = atT tx len i := by
  unfold rpY
  split
  · rw [upd_no (by decide), upd_is]
  · split
    · rw [upd_is]
    · split
      · rw [upd_no (by decide), upd_is]
      · split
        · rw [upd_no (by decide), upd_is]
        · split
          · rw [upd_no (by decide), upd_is]
          · split
            · rw [upd_no (by decide), upd_is]
            · rw [upd_is]
theorem rpY_5 {tx y : Nat → Int32} {len i : Nat} (c : rpO tx len i = true) (c2 : ¬ atT tx len i = 100) : rpY tx len i y 5 = rpV tx len i := by
  unfold rpY rpV
  by_cases a1 : atT tx len i = 43
  · rw [if_pos a1, if_pos a1, upd_is]
  · rw [if_neg a1, if_neg a1, if_neg c2]
    by_cases a3 : atT tx len i = 103
    · rw [if_pos a3, if_pos a3, upd_is]
    · rw [if_neg a3, if_neg a3]
      by_cases a4 : atT tx len i = 112
      · rw [if_pos a4, if_pos a4, upd_is]
      · rw [if_neg a4, if_neg a4]
        by_cases a5 : atT tx len i = 114
        · rw [if_pos a5, if_pos a5, upd_is]
        · rw [if_neg a5, if_neg a5]
          by_cases a6 : atT tx len i = 119
          · rw [if_pos a6, if_pos a6, upd_is]
          · rw [rpO, if_neg a1, if_neg c2, if_neg a3, if_neg a4, if_neg a5, if_neg a6] at c
            exact absurd c (by decide)
theorem rpY_do {tx y z : Nat → Int32} {len i n k q : Nat} (c : rpO tx len i = true) : doF z n k (rpY tx len i y 4) (rpY tx len i y 5) q = doF z n k (atT tx len i) (rpV tx len i) q := by
  rw [rpY_4]
  by_cases c2 : atT tx len i = 100
  · rw [doF, doF, if_pos c2, if_pos c2]
  · rw [rpY_5 c c2]
/-- the orders keep the numbers of the watch in their ranges -/
theorem readF_okb {z : Nat → Int32} {n k : Nat} (h : okb z) : okb (readF z n k) := by
  have e : ∀ j, 1 ≤ j → j < 25 → ¬ j = 6 → ¬ j = 10 → ¬ j = 11 → readF z n k j = z j := fun j h1 h2 h3 h4 h5 => by
    rw [readF, upd_no h5, printF_q _ _ _ j h2 h4, upd_no h3]
  exact okb_c h (e 1 (by decide) (by decide) (by decide) (by decide) (by decide)) (e 2 (by decide) (by decide) (by decide) (by decide) (by decide)) (e 3 (by decide) (by decide) (by decide) (by decide) (by decide)) (e 4 (by decide) (by decide) (by decide) (by decide) (by decide)) (e 5 (by decide) (by decide) (by decide) (by decide) (by decide)) (fun j hj => e (19 + j) (by omega) (by omega) (by omega) (by omega) (by omega))
theorem okb_1 {z : Nat → Int32} {v : Int32} (h : okb z) (hv : rng v 0 48) : okb (upd z 1 v) := by
  obtain ⟨a1, a2, a3, a4, a5, a9⟩ := h
  exact ⟨by rw [upd_is]; exact hv, a2, a3, a4, a5, fun k hk => by rw [upd_no (by omega)]; exact a9 k hk⟩
theorem okb_2 {z : Nat → Int32} {v : Int32} (h : okb z) (hv : rng v (-99) 99) : okb (upd z 2 v) := by
  obtain ⟨a1, a2, a3, a4, a5, a9⟩ := h
  exact ⟨a1, by rw [upd_is]; exact hv, a3, a4, a5, fun k hk => by rw [upd_no (by omega)]; exact a9 k hk⟩
theorem okb_4 {z : Nat → Int32} {v : Int32} (h : okb z) (hv : rng v 0 100) : okb (upd z 4 v) := by
  obtain ⟨a1, a2, a3, a4, a5, a9⟩ := h
  exact ⟨a1, a2, a3, by rw [upd_is]; exact hv, a5, fun k hk => by rw [upd_no (by omega)]; exact a9 k hk⟩
theorem doF_okb {z : Nat → Int32} {n k q : Nat} {kd v : Int32} (h : okb z) (h3 : kd = 103 → rng v (-99) 99) (h9 : kd = 119 → rng v 0 48) : okb (doF z n k kd v q) := by
  unfold doF
  split
  · exact okb_4 h ⟨by decide, by decide⟩
  · split
    · rename_i c
      exact okb_2 h (h3 c)
    · split
      · exact okb_u (by omega) h
      · split
        · unfold rosF
          split
          · exact readF_okb h
          · exact okb_u (by omega) (okb_u (by omega) (okb_u (by omega) h))
        · split
          · rename_i c
            obtain ⟨v1, v2⟩ := h9 c
            have h1 := h.1
            obtain ⟨l1, l2⟩ := h1
            have e := fb_addI (x := z 1) (y := v) (by omega) (by omega)
            exact okb_1 h (mn48_rng (by rw [e]; omega))
          · exact hoursF_okb _ h
