/-! What holds between the class's state and the reference's, behind every step. -/
def good (M : Int) (z : Nat → Int32) : Prop := okb z ∧ okz z ∧ (0 ≤ (z 9).toInt ∧ (z 9).toInt ≤ (z 0).toInt ∧ (z 0).toInt ≤ M) ∧ rng (z 7) (-100 * (z 0).toInt) (100 * (z 0).toInt) ∧ ∀ n, z 10 = nI n → n ≤ 40 → (∀ i, i < n → rng (z (25 + (i * 5 + 0))) 0 (z 0).toInt) ∧ (∀ i, i < n → rng (z (25 + (i * 5 + 2))) (-2000) 2000) ∧ ∀ i, i < n → ∃ k, k < 6 ∧ z (25 + (i * 5 + 1)) = nI k
def INV (M : Int) (z zk t y : Nat → Int32) (zs : Nat → Nat → Int32) (hf : Int32) (yr sd kp tx : Nat → Int32) : Prop :=
  good M z ∧ (yr 2 = hf ∧ (hf = 0 ∨ hf = 1 ∧ kp = zk ∧ good M zk)) ∧ (∃ i q : Nat, i < 6 ∧ q ≤ 6 ∧ y 0 = nI i ∧ y 1 = nI q ∧ yr 1 = nI q ∧ (∀ j, j < q → ∀ k, k < 225 → sd (225 * j + k) = zs ((i + 6 - q + j) % 6) k) ∧ ∀ j, j < q → good M (zs ((i + 6 - q + j) % 6))) ∧
  ∃ len : Nat, t 0 = nI len ∧ len ≤ 60 ∧ yr 3 = nI len ∧ ∀ j, j < len → tx j = t (300 + j) ∧ inR (tx j) 33 126
theorem good_mono {M N : Int} {z : Nat → Int32} (h : M ≤ N) (g : good M z) : good N z := ⟨g.1, g.2.1, ⟨g.2.2.1.1, g.2.2.1.2.1, Int.le_trans g.2.2.1.2.2 h⟩, g.2.2.2⟩
theorem ring_mono {M N : Int} {zs : Nat → Nat → Int32} {i q : Nat} (h : M ≤ N) (g : ∀ j, j < q → good M (zs ((i + 6 - q + j) % 6))) : ∀ j, j < q → good N (zs ((i + 6 - q + j) % 6)) := fun j hj => good_mono h (g j hj)
theorem kept_mono {M N : Int} {zk kp : Nat → Int32} {hf : Int32} (h : M ≤ N) (g : hf = 0 ∨ hf = 1 ∧ kp = zk ∧ good M zk) : hf = 0 ∨ hf = 1 ∧ kp = zk ∧ good N zk := g.imp id (fun ⟨a, b, c⟩ => ⟨a, b, good_mono h c⟩)
section INVS
variable {M : Int} {z z' zk t y yr yr' sd kp tx : Nat → Int32} {zs : Nat → Nat → Int32} {hf : Int32} {i q : Nat}
/-- nothing of ours has changed but the reference's own scratch -/
theorem INV_same (iv : INV M z zk t y zs hf yr sd kp tx) (h1 : yr' 1 = yr 1) (h2 : yr' 2 = yr 2) (h3 : yr' 3 = yr 3) : INV (M + 6000) z zk t y zs hf yr' sd kp tx := by
  obtain ⟨g, ⟨k1, k2⟩, ⟨i, q, a1, a2, a3, a4, a5, a6, a7⟩, len, b1, b2, b3, b4⟩ := iv
  exact ⟨good_mono (by omega) g, ⟨h2.trans k1, kept_mono (by omega) k2⟩, ⟨i, q, a1, a2, a3, a4, h1.trans a5, a6, ring_mono (by omega) a7⟩, len, b1, b2, h3.trans b3, b4⟩
theorem INV_y0 {v : Int32} (iv : INV M z zk t y zs hf yr sd kp tx) : INV (M + 6000) z zk t y zs hf (upd yr 0 v) sd kp tx := INV_same iv rfl rfl rfl
theorem va_up_no {zs : Nat → Nat → Int32} {i j : Nat} {z : Nat → Int32} (h : ¬ j = i) : va_up zs i z j = zs j := if_neg h
theorem va_up_is {zs : Nat → Nat → Int32} {i : Nat} {z : Nat → Int32} : va_up zs i z i = z := if_pos rfl
theorem push_ring (hi6 : i < 6) (hq : q ≤ 6) (hgd : good M z) (hrg : ∀ j, j < q → ∀ k, k < 225 → sd (225 * j + k) = zs ((i + 6 - q + j) % 6) k) (hgs : ∀ j, j < q → good M (zs ((i + 6 - q + j) % 6))) :
    (∀ j, j < recN q → ∀ k, k < 225 → recS sd z q (225 * j + k) = va_up zs i z (((i + 1) % 6 + 6 - recN q + j) % 6) k) ∧ ∀ j, j < recN q → good M (va_up zs i z (((i + 1) % 6 + 6 - recN q + j) % 6)) := by
  by_cases h6 : q = 6
  · subst h6
    simp only [recN, recS, if_true]
    have key : ∀ j, j < 6 → (j = 5 → ((i + 1) % 6 + 6 - 6 + j) % 6 = i) ∧ (j < 5 → ((i + 1) % 6 + 6 - 6 + j) % 6 = (i + 6 - 6 + (j + 1)) % 6 ∧ ¬ ((i + 1) % 6 + 6 - 6 + j) % 6 = i) := by omega
    refine ⟨fun j hj k hk => ?_, fun j hj => ?_⟩
    · obtain ⟨k1, k2⟩ := key j hj
      by_cases h5 : j = 5
      · rw [k1 h5, va_up_is, cpy, if_pos (by omega), show 225 * j + k - 225 * 5 = k by omega]
      · obtain ⟨e1, e2⟩ := k2 (by omega)
        rw [va_up_no e2, cpy, if_neg (by omega), shn, if_pos (by omega), show 225 + (225 * j + k) = 225 * (j + 1) + k by omega, hrg (j + 1) (by omega) k hk, e1]
    · obtain ⟨k1, k2⟩ := key j hj
      by_cases h5 : j = 5
      · rw [k1 h5, va_up_is]; exact hgd
      · obtain ⟨e1, e2⟩ := k2 (by omega)
        rw [va_up_no e2, e1]; exact hgs _ (by omega)
  · simp only [recN, recS, if_neg h6]
    have key : ∀ j, j < q + 1 → (j = q → ((i + 1) % 6 + 6 - (q + 1) + j) % 6 = i) ∧ (j < q → ((i + 1) % 6 + 6 - (q + 1) + j) % 6 = (i + 6 - q + j) % 6 ∧ ¬ ((i + 1) % 6 + 6 - (q + 1) + j) % 6 = i) := by omega
    refine ⟨fun j hj k hk => ?_, fun j hj => ?_⟩
    · obtain ⟨k1, k2⟩ := key j hj
      by_cases h5 : j = q
      · rw [k1 h5, va_up_is, cpy, if_pos (by subst h5; omega), show 225 * j + k - 225 * q = k by subst h5; omega]
      · obtain ⟨e1, e2⟩ := k2 (by omega)
        have hn : ¬ (225 * q ≤ 225 * j + k ∧ 225 * j + k < 225 * q + 225) := by
          have : 225 * j + 225 ≤ 225 * q := by omega
          omega
        rw [va_up_no e2, cpy, if_neg hn, hrg j (by omega) k hk, e1]
    · obtain ⟨k1, k2⟩ := key j hj
      by_cases h5 : j = q
      · rw [k1 h5, va_up_is]; exact hgd
      · obtain ⟨e1, e2⟩ := k2 (by omega)
        rw [va_up_no e2, e1]; exact hgs _ (by omega)
theorem pushY_0 (hi6 : i < 6) (hy : y 0 = nI i) : pushY y 0 = nI ((i + 1) % 6) := by
  show rem (y 0 + 1) 6 = _
  rw [hy]
  exact push_j hi6
theorem pushY_1 (hq : q ≤ 6) (hy1 : y 1 = nI q) : pushY y 1 = nI (recN q) := by
  show (if y 1 + 1 < 6 then y 1 + 1 else 6) = _
  rw [hy1]
  rcases (show q = 0 ∨ q = 1 ∨ q = 2 ∨ q = 3 ∨ q = 4 ∨ q = 5 ∨ q = 6 by omega) with rfl | rfl | rfl | rfl | rfl | rfl | rfl <;> decide
theorem recN_le (hq : q ≤ 6) : recN q ≤ 6 := by unfold recN; split <;> omega
/-- a call that saves the state and makes another -/
theorem INV_push (iv : INV M z zk t y zs hf yr sd kp tx) (hi6 : i < 6) (hq : q ≤ 6) (hy : y 0 = nI i) (hy1 : y 1 = nI q) (hrg : ∀ j, j < q → ∀ k, k < 225 → sd (225 * j + k) = zs ((i + 6 - q + j) % 6) k) (hgs : ∀ j, j < q → good M (zs ((i + 6 - q + j) % 6))) (hg : good (M + 6000) z') (h1 : yr' 1 = nI (recN q)) (h2 : yr' 2 = yr 2) (h3 : yr' 3 = yr 3) : INV (M + 6000) z' zk t (pushY y) (va_up zs i z) hf yr' (recS sd z q) kp tx := by
  obtain ⟨g, ⟨k1, k2⟩, -, len, b1, b2, b3, b4⟩ := iv
  obtain ⟨r1, r2⟩ := push_ring hi6 hq g hrg hgs
  exact ⟨hg, ⟨h2.trans k1, kept_mono (by omega) k2⟩, ⟨(i + 1) % 6, recN q, Nat.mod_lt _ (by decide), recN_le hq, pushY_0 hi6 hy, pushY_1 hq hy1, h1, r1, ring_mono (by omega) r2⟩, len, b1, b2, h3.trans b3, b4⟩
theorem INV_undo (iv : INV M z zk t y zs hf yr sd kp tx) (hi6 : i < 6) (hq : q + 1 ≤ 6) (hy : y 0 = nI i) (hy1 : y 1 = nI (q + 1)) (hrg : ∀ j, j < q + 1 → ∀ k, k < 225 → sd (225 * j + k) = zs ((i + 6 - (q + 1) + j) % 6) k) (hgs : ∀ j, j < q + 1 → good M (zs ((i + 6 - (q + 1) + j) % 6))) (h1 : yr' 1 = nI q) (h2 : yr' 2 = yr 2) (h3 : yr' 3 = yr 3) : INV (M + 6000) (zs ((i + 5) % 6)) zk t (popY y) zs hf yr' sd kp tx := by
  obtain ⟨g, ⟨k1, k2⟩, -, len, b1, b2, b3, b4⟩ := iv
  have key : ∀ j, j < q → ((i + 5) % 6 + 6 - q + j) % 6 = (i + 6 - (q + 1) + j) % 6 := by omega
  refine ⟨good_mono (M := M) (by omega) ?_, ⟨h2.trans k1, kept_mono (by omega) k2⟩, ⟨(i + 5) % 6, q, Nat.mod_lt _ (by decide), by omega, ?_, ?_, h1, fun j hj k hk => ?_, fun j hj => ?_⟩, len, b1, b2, h3.trans b3, b4⟩
  · have h := hgs q (by omega)
    rw [show (i + 6 - (q + 1) + q) % 6 = (i + 5) % 6 by omega] at h
    exact h
  · show rem (y 0 + 6 - 1) 6 = _
    rw [hy]
    exact pop_j hi6
  · show y 1 - 1 = _
    rw [hy1]
    rcases (show q = 0 ∨ q = 1 ∨ q = 2 ∨ q = 3 ∨ q = 4 ∨ q = 5 by omega) with rfl | rfl | rfl | rfl | rfl | rfl <;> decide
  · rw [key j hj]; exact hrg j (by omega) k hk
  · rw [key j hj]; exact good_mono (by omega) (hgs j (by omega))
theorem undo_row (hi6 : i < 6) (hq : q + 1 ≤ 6) (hrg : ∀ j, j < q + 1 → ∀ k, k < 225 → sd (225 * j + k) = zs ((i + 6 - (q + 1) + j) % 6) k) {k : Nat} (hk : k < 225) : undS sd q k = zs ((i + 5) % 6) k := by
  have h := hrg q (by omega) k hk
  rw [show (i + 6 - (q + 1) + q) % 6 = (i + 5) % 6 by omega] at h
  exact h
theorem INV_keep (iv : INV M z zk t y zs hf yr sd kp tx) (h1 : yr' 1 = yr 1) (h2 : yr' 2 = 1) (h3 : yr' 3 = yr 3) : INV (M + 6000) z z t y zs 1 yr' sd z tx := by
  obtain ⟨g, -, ⟨i, q, a1, a2, a3, a4, a5, a6, a7⟩, len, b1, b2, b3, b4⟩ := iv
  exact ⟨good_mono (by omega) g, ⟨h2, Or.inr ⟨rfl, rfl, good_mono (by omega) g⟩⟩, ⟨i, q, a1, a2, a3, a4, h1.trans a5, a6, ring_mono (by omega) a7⟩, len, b1, b2, h3.trans b3, b4⟩
theorem INV_text {t' tx' : Nat → Int32} {len : Nat} (iv : INV M z zk t y zs hf yr sd kp tx) (h1 : yr' 1 = yr 1) (h2 : yr' 2 = yr 2) (b1 : t' 0 = nI len) (b2 : len ≤ 60) (b3 : yr' 3 = nI len) (b4 : ∀ j, j < len → tx' j = t' (300 + j) ∧ inR (tx' j) 33 126) : INV (M + 6000) z zk t' y zs hf yr' sd kp tx' := by
  obtain ⟨g, ⟨k1, k2⟩, ⟨i, q, a1, a2, a3, a4, a5, a6, a7⟩, -⟩ := iv
  exact ⟨good_mono (by omega) g, ⟨h2.trans k1, kept_mono (by omega) k2⟩, ⟨i, q, a1, a2, a3, a4, h1.trans a5, a6, ring_mono (by omega) a7⟩, len, b1, b2, b3, b4⟩
theorem text_append {len : Nat} {x : Int32} (hLt : ∀ j, j < len → tx j = t (300 + j) ∧ inR (tx j) 33 126) (hr : inR x 33 126) : ∀ j, j < len + 1 → upd tx len x j = upd (upd t (300 + len) x) 0 (nI len + 1) (300 + j) ∧ inR (upd tx len x j) 33 126 := by
  intro j hj
  rw [upd_no (f := upd t (300 + len) x) (show ¬ 300 + j = 0 by omega)]
  by_cases h : j = len
  · subst h
    rw [upd_is, upd_is]
    exact ⟨rfl, hr⟩
  · rw [upd_no h, upd_no (show ¬ 300 + j = 300 + len by omega)]
    exact hLt j (by omega)
end INVS
-- the script's numbers
theorem in_nat {v : Int32} {b : Nat} (hb : b < 2 ^ 31) (h : inR v 0 (nI b)) : ∃ k, k < b + 1 ∧ v = nI k := by
  obtain ⟨h1, h2⟩ := h
  rw [Int32.lt_iff_toInt_lt] at h1
  rw [Int32.le_iff_toInt_le, nI_toInt hb] at h2
  have e0 : (0 : Int32).toInt = 0 := by decide
  refine ⟨v.toInt.toNat, by omega, ?_⟩
  apply Int32.toInt_inj.mp
  rw [nI_toInt (by omega)]
  omega
theorem pos_nat {v : Int32} (h : 0 ≤ v) : ∃ k, k < 2 ^ 31 ∧ v = nI k := by
  rw [Int32.le_iff_toInt_le] at h
  have e0 : (0 : Int32).toInt = 0 := by decide
  have hb := v.toInt_lt
  refine ⟨v.toInt.toNat, by omega, ?_⟩
  apply Int32.toInt_inj.mp
  rw [nI_toInt (by omega)]
  omega
theorem isP_inR {x : Int32} : isP x = true ↔ inR x 0 5 := by
  simp only [isP, inR, Bool.and_eq_true, Bool.not_eq_true', decide_eq_false_iff_not, Int32.lt_iff_toInt_lt, Int32.le_iff_toInt_le, show (0 : Int32).toInt = 0 by decide, show (6 : Int32).toInt = 6 by decide, show (5 : Int32).toInt = 5 by decide]
  omega
theorem pose_or (x : Int32) : (∃ k, k < 6 ∧ x = nI k) ∨ (bI (isP x) = 0 ∧ ¬ inR x 0 5) := by
  by_cases h : inR x 0 5
  · exact Or.inl (in_nat (b := 5) (by decide) h)
  · refine Or.inr ⟨?_, h⟩
    have : isP x = false := by
      cases hp : isP x
      · rfl
      · exact absurd (isP_inR.mp hp) h
    rw [this]; rfl
