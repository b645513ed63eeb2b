/-! The law's look ahead: the regulator that is best, the night, a day that is worn; the paper's readings. -/
theorem shr0 (x : Int32) : x >>> ((3 * 0 : Int32) &&& 31) = x := by
  rw [show ((3 * 0 : Int32) &&& 31) = 0 by decide]
  exact Int32.shiftRight_zero
theorem lam_m {a b : Int32} (c : ¬ 0 ≤ a + b) : -a - b = am (a + b) := by
  rw [am, if_neg c]
  grind
theorem r100 (n : Nat) : nI (n + 1) - 100 = nI n - 99 := by
  rw [← nI_1]
  grind
theorem r99m (n : Nat) : nI n - 99 + Int32.ofInt (-1) = nI n - 100 := by
  rw [show Int32.ofInt (-1) = -1 by decide]
  grind
theorem r_ge {n : Nat} (h : n < 199) : ¬ nI n - 99 < -99 := by
  rw [fa_lt, toI_99 (by omega), show (-99 : Int32).toInt = -99 by decide]
  omega
theorem r_99 {n : Nat} (h : n < 199) : nI n - 99 = 99 ↔ n = 198 := by
  rw [fa_eq, toI_99 (by omega), show (99 : Int32).toInt = 99 by decide]
  omega
def brd (o : Int32) : Nat → Int32 → Int32
  | 0, b => b
  | n + 1, b => brd o n (if n = 198 then nI n - 99 else if am (o + 6 * (nI n - 99)) ≤ am (o + 6 * b) then nI n - 99 else b)
theorem brd_1 {o b : Int32} {n : Nat} (h : n < 199) (c : nI n - 99 = 99) : brd o (n + 1) b = brd o n (nI n - 99) := by rw [brd, if_pos ((r_99 h).mp c)]
theorem brd_2 {o b : Int32} {n : Nat} (h : n < 199) (c : ¬ nI n - 99 = 99) (c2 : ¬ am (o + 6 * b) < am (o + 6 * (nI n - 99))) : brd o (n + 1) b = brd o n (nI n - 99) := by
  rw [brd, if_neg (fun e => c ((r_99 h).mpr e)), if_pos (fa_of_nlt c2)]
theorem brd_3 {o b : Int32} {n : Nat} (h : n < 199) (c : ¬ nI n - 99 = 99) (c2 : am (o + 6 * b) < am (o + 6 * (nI n - 99))) : brd o (n + 1) b = brd o n b := by
  rw [brd, if_neg (fun e => c ((r_99 h).mpr e)), if_neg (fun e => nlt_le.mpr e c2)]
def bF (o : Int32) (i : Nat) : Int := (am (o + 6 * (nI i - 99))).toInt
def fstB (o : Int32) (lo hi m : Nat) : Prop := lo ≤ m ∧ m < hi ∧ (∀ q, lo ≤ q → q < hi → bF o m ≤ bF o q) ∧ ∀ q, lo ≤ q → q < m → bF o m < bF o q
theorem brl_fst {o : Int32} : ∀ (n i j : Nat), fstB o 0 i j → i + n = 199 → ∃ m, fstB o 0 199 m ∧ brl o n i (nI j - 99) = nI m - 99
  | 0, i, j, h, e => ⟨j, (show i = 199 by omega) ▸ h, rfl⟩
  | n + 1, i, j, h, e => by
    obtain ⟨h1, h2, h3, h4⟩ := h
    by_cases c : am (o + 6 * (nI j - 99)) ≤ am (o + 6 * (nI i - 99))
    · rw [brl_k c]
      have c2 : bF o j ≤ bF o i := (fa_le _ _).mp c
      refine brl_fst n (i + 1) j ⟨h1, by omega, fun q q1 q2 => ?_, h4⟩ (by omega)
      by_cases e2 : q = i
      · rw [e2]; exact c2
      · exact h3 q q1 (by omega)
    · rw [brl_s c]
      have c2 : bF o i < bF o j := (fa_lt _ _).mp (fa_of_nle c)
      refine brl_fst n (i + 1) i ⟨Nat.zero_le _, by omega, fun q q1 q2 => ?_, fun q q1 q2 => ?_⟩ (by omega)
      · by_cases e2 : q = i
        · rw [e2]; exact Int.le_refl _
        · have := h3 q q1 (by omega)
          omega
      · have := h3 q q1 q2
        omega
theorem brd_fst {o : Int32} : ∀ (n j : Nat), n ≤ 198 → fstB o n 199 j → ∃ m, fstB o 0 199 m ∧ brd o n (nI j - 99) = nI m - 99
  | 0, j, _, h => ⟨j, h, rfl⟩
  | n + 1, j, hn, h => by
    obtain ⟨h1, h2, h3, h4⟩ := h
    rw [brd, if_neg (by omega)]
    by_cases c : am (o + 6 * (nI n - 99)) ≤ am (o + 6 * (nI j - 99))
    · rw [if_pos c]
      have c2 : bF o n ≤ bF o j := (fa_le _ _).mp c
      refine brd_fst n n (by omega) ⟨Nat.le_refl _, by omega, fun q q1 q2 => ?_, fun q q1 q2 => by omega⟩
      by_cases e2 : q = n
      · rw [e2]; exact Int.le_refl _
      · have := h3 q (by omega) q2
        omega
    · rw [if_neg c]
      have c2 : bF o j < bF o n := (fa_lt _ _).mp (fa_of_nle c)
      refine brd_fst n j (by omega) ⟨by omega, h2, fun q q1 q2 => ?_, fun q q1 q2 => ?_⟩
      · by_cases e2 : q = n
        · rw [e2]; omega
        · exact h3 q (by omega) q2
      · by_cases e2 : q = n
        · rw [e2]; exact c2
        · exact h4 q (by omega) q2
theorem fstB_eq {o : Int32} {a b : Nat} (ha : fstB o 0 199 a) (hb : fstB o 0 199 b) : a = b := by
  obtain ⟨-, a2, a3, a4⟩ := ha
  obtain ⟨-, b2, b3, b4⟩ := hb
  rcases Nat.lt_trichotomy a b with h | h | h
  · have h1 := b4 a (Nat.zero_le _) h
    have h2 := a3 b (Nat.zero_le _) b2
    omega
  · exact h
  · have h1 := a4 b (Nat.zero_le _) h
    have h2 := b3 a (Nat.zero_le _) a2
    omega
theorem brd_is (o b : Int32) : brd o 199 b + 100 = brl o 199 0 (-99) + 100 := by
  have e1 : brd o 199 b = brd o 198 (nI 198 - 99) := by rw [brd, if_pos rfl]
  have e2 : brl o 199 0 (-99) = brl o 198 1 (nI 0 - 99) := by
    rw [show (-99 : Int32) = nI 0 - 99 by decide]
    exact brl_k (Int32.le_refl _)
  obtain ⟨m1, h1, k1⟩ := brd_fst (o := o) 198 198 (Nat.le_refl _) ⟨Nat.le_refl _, by omega, fun q q1 q2 => by rw [show q = 198 by omega]; exact Int.le_refl _, fun q q1 q2 => by omega⟩
  obtain ⟨m2, h2, k2⟩ := brl_fst (o := o) 198 1 0 ⟨Nat.le_refl _, by omega, fun q q1 q2 => by rw [show q = 0 by omega]; exact Int.le_refl _, fun q q1 q2 => by omega⟩ (by omega)
  rw [e1, e2, k1, k2, fstB_eq h1 h2]
theorem worn_s (z : Nat → Int32) (i j k : Nat) : wornN z i j k 1 = 0 + (wz1 z i 9 - z 9) + (wz2 z i j 9 - wz1 z i 9) + (wz3 z i j k 9 - wz2 z i j 9) := by
  rw [Int32.zero_add]
  rfl
-- the paper's readings, one by one
section READ
variable {M : Int} {z : Nat → Int32} {n i : Nat}
theorem rn_0 (g : good M z) (hM : M ≤ 10000000) (hn : z 10 = nI n) (hn4 : n ≤ 40) (hi : i < n) : rnum z n i 0 = pA z i / 100 := by
  rw [(pA_ok g hM hn hn4 i hi).1, rnum, if_pos hi]; rfl
theorem rn_1 (g : good M z) (hM : M ≤ 10000000) (hn : z 10 = nI n) (hn4 : n ≤ 40) (hi : i < n) : rnum z n i 1 = pA z i - pA z i / 100 * 100 := by
  rw [(pA_ok g hM hn hn4 i hi).2, rnum, if_pos hi]; rfl
theorem rn_2 (hi : i < n) : rnum z n i 2 = pB z i + 10000 := by
  rw [rnum, if_pos hi]; rfl
theorem rn_3 (h : goodQ z) (hn : z 10 = nI n) (hn4 : n ≤ 40) (hi : i < n) : rnum z n i 3 = pD z i / 1000 := by
  obtain ⟨b, s⟩ := h.2 n hn hn4 i hi
  have e : pD z i / 1000 = z (25 + (i * 5 + 3)) := (pD_num b s).1
  rw [e, rnum, if_pos hi]; rfl
theorem rn_4 (h : goodQ z) (hn : z 10 = nI n) (hn4 : n ≤ 40) (hi : i < n) : rnum z n i 4 = pD z i - pD z i / 1000 * 1000 := by
  obtain ⟨b, s⟩ := h.2 n hn hn4 i hi
  have e : pD z i - pD z i / 1000 * 1000 = z (25 + (i * 5 + 4)) := (pD_num b s).2
  rw [e, rnum, if_pos hi]; rfl
theorem rn_n : rnum z n n 0 = -1 := by rw [rnum, if_neg (by omega)]
theorem cn_16 {k j : Nat} {s : Int32} (h : j < 4) : cnum z n k s (16 + j) = gz z (12 + j) := by
  rw [gz_o _ _ (by omega)]
  rcases (show j = 0 ∨ j = 1 ∨ j = 2 ∨ j = 3 by omega) with rfl | rfl | rfl | rfl <;> rfl
theorem dd_div (g : good M z) (hM : M ≤ 10000000) (c : ¬ z 0 = 0) : Op.cmpValue (FP.dcmp (share z) (FP.ddiv (FP.i2d (z 9)) (FP.i2d (z 0)))) CmpOp.l = 0 := by
  have e : share z = FP.ddiv (FP.i2d (z 9)) (FP.i2d (z 0)) := if_neg (share_nz (good_0 g) c)
  rw [← e]
  exact good_dd g hM
theorem dd_one (g : good M z) (hM : M ≤ 10000000) (c : z 0 = 0) : Op.cmpValue (FP.dcmp (share z) FP.dconst1) CmpOp.l = 0 := by
  have e : share z = FP.dconst1 := if_pos (by rw [c]; decide)
  have h := good_dd g hM
  rw [e] at h ⊢
  exact h
end READ
