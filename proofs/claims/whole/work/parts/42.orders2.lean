theorem rpO_of {tx : Nat → Int32} {len m i : Nat} (hJ : rpJ tx len i ≤ 100) (h : ¬ 0 ≤ feR tx len (m + 1) i) : rpO tx len i = true := by
  cases c : rpO tx len i with
  | true => rfl
  | false =>
    rw [feR_3 c, toI_pos, nI_toInt (by omega)] at h
    omega
theorem fe_next {tx : Nat → Int32} {len m i : Nat} (c : rpO tx len i = true) (hJ : rpJ tx len i + 1 ≤ len) (hl : len ≤ 60) (h : ¬ 0 ≤ feR tx len (m + 1) i) : ¬ 0 ≤ feR tx len m (rpJ tx len i + 1) := by
  by_cases c3 : tx (rpJ tx len i) = 59
  · rw [feR_s c (by omega) c3] at h
    exact h
  · rw [feR_2 c (by omega) c3, toI_pos, nI_toInt (by omega)] at h
    omega
theorem rpY_vt {tx y : Nat → Int32} {len i : Nat} (c : rpO tx len i = true) : vtY (rpY tx len i y 4) (rpY tx len i y 5) := by
  have h := (rpO_vt c).1
  rw [rpY_4]
  by_cases c2 : atT tx len i = 100
  · rw [c2]
    exact ⟨by simp, fun h => absurd h (by decide), fun h => absurd h (by decide)⟩
  · rw [rpY_5 c c2]
    exact h
theorem doF_okz {z : Nat → Int32} {q : Nat} {kd v : Int32} (h : okz z) (hv : vtY kd v) : okz (doF z (pn z) (pk z) kd v q) := by
  obtain ⟨n, hn, h4⟩ := h.1
  unfold doF
  split
  · exact okz_of rfl rfl h
  · split
    · exact okz_of rfl rfl h
    · split
      · rename_i c1
        obtain ⟨v, hv1, hv2⟩ := hv.2.1 (Or.inl c1)
        exact ⟨⟨n, hn, h4⟩, v, hv1, hv2⟩
      · split
        · rename_i c1
          obtain ⟨v, hv1, hv2⟩ := hv.2.1 (Or.inr c1)
          rw [hv1, nI_clamp (by omega), pn_eq hn h4]
          exact rosF_ok h hn h4 hv2
        · split
          · exact okz_of rfl rfl h
          · exact okz_of (hoursF_o _ _ _ 10 (by decide) (by decide)) (hoursF_6 _ _ _) h
theorem doF_stop {z : Nat → Int32} {n k q v : Nat} {kd w : Int32} (c : kd = 114) (hw : w = nI v) (h6 : v < 6) (cw : ¬ why z v = 0) : doF z n k kd w q = upd (upd (upd z 16 (nI q)) 17 (why z v)) 18 (nI v) := by
  rw [doF, c, if_neg (by decide), if_neg (by decide), if_neg (by decide), if_pos rfl, hw, nI_clamp (by omega), rosF, if_neg cw]
theorem doB_114 {z : Nat → Int32} {v : Nat} {kd w : Int32} (c : kd = 114) (hw : w = nI v) (h6 : v < 6) : doB z kd w = decide (why z v = 0) := by
  rw [doB, if_pos c, hw, nI_clamp (by omega)]
theorem doB_o {z : Nat → Int32} {kd w : Int32} (c : ¬ kd = 114) : doB z kd w = true := if_neg c
def rbY (tx : Nat → Int32) (len : Nat) : Nat → Nat → (Nat → Int32) → Nat → (Nat → Int32) → Nat → Int32
  | 0, _, _, _, y => y
  | m + 1, i, z, q, y => if i < len then (if doB z (atT tx len i) (rpV tx len i) then rbY tx len m (rpJ tx len i + 1) (doF z (pn z) (pk z) (atT tx len i) (rpV tx len i) q) (q + 1) (rpY tx len i y) else rpY tx len i y) else y
theorem rbF_y {tx z : Nat → Int32} {len m i q : Nat} (c : i < len) (b : doB z (atT tx len i) (rpV tx len i) = true) : rbF tx len (m + 1) i z q = rbF tx len m (rpJ tx len i + 1) (doF z (pn z) (pk z) (atT tx len i) (rpV tx len i) q) (q + 1) := by rw [rbF, if_pos c, if_pos b]
theorem rbN_y {tx z : Nat → Int32} {len m i q : Nat} (c : i < len) (b : doB z (atT tx len i) (rpV tx len i) = true) : rbN tx len (m + 1) i z q = rbN tx len m (rpJ tx len i + 1) (doF z (pn z) (pk z) (atT tx len i) (rpV tx len i) q) (q + 1) := by rw [rbN, if_pos c, if_pos b]
theorem rbY_y {tx z y : Nat → Int32} {len m i q : Nat} (c : i < len) (b : doB z (atT tx len i) (rpV tx len i) = true) : rbY tx len (m + 1) i z q y = rbY tx len m (rpJ tx len i + 1) (doF z (pn z) (pk z) (atT tx len i) (rpV tx len i) q) (q + 1) (rpY tx len i y) := by rw [rbY, if_pos c, if_pos b]
theorem rbF_n {tx z : Nat → Int32} {len m i q : Nat} (c : i < len) (b : doB z (atT tx len i) (rpV tx len i) = false) : rbF tx len (m + 1) i z q = doF z (pn z) (pk z) (atT tx len i) (rpV tx len i) q := by rw [rbF, if_pos c, if_neg (by rw [b]; decide)]
theorem rbN_n {tx z : Nat → Int32} {len m i q : Nat} (c : i < len) (b : doB z (atT tx len i) (rpV tx len i) = false) : rbN tx len (m + 1) i z q = q := by rw [rbN, if_pos c, if_neg (by rw [b]; decide)]
theorem rbY_n {tx z y : Nat → Int32} {len m i q : Nat} (c : i < len) (b : doB z (atT tx len i) (rpV tx len i) = false) : rbY tx len (m + 1) i z q y = rpY tx len i y := by rw [rbY, if_pos c, if_neg (by rw [b]; decide)]
theorem rbF_e {tx z : Nat → Int32} {len i q : Nat} (c : ¬ i < len) : ∀ (m : Nat), rbF tx len m i z q = z
  | 0 => rfl
  | _ + 1 => if_neg c
theorem rbN_e {tx z : Nat → Int32} {len i q : Nat} (c : ¬ i < len) : ∀ (m : Nat), rbN tx len m i z q = q
  | 0 => rfl
  | _ + 1 => if_neg c
theorem rbY_e {tx z y : Nat → Int32} {len i q : Nat} (c : ¬ i < len) : ∀ (m : Nat), rbY tx len m i z q y = y
  | 0 => rfl
  | _ + 1 => if_neg c
