/-! The day's rate, told in two ways: the latest reading of each pose, or the readings backwards with a mask. -/
def mkB (b0 b1 b2 b3 b4 b5 : Bool) : Int32 := (if b0 then 1 else 0) ||| (if b1 then 2 else 0) ||| (if b2 then 4 else 0) ||| (if b3 then 8 else 0) ||| (if b4 then 16 else 0) ||| (if b5 then 32 else 0)
def snB (b0 b1 b2 b3 b4 b5 : Bool) : Int32 := (if b0 then 1 else 0) + (if b1 then 1 else 0) + (if b2 then 1 else 0) + (if b3 then 1 else 0) + (if b4 then 1 else 0) + (if b5 then 1 else 0)
def mkF (b : Nat → Bool) : Int32 := mkB (b 0) (b 1) (b 2) (b 3) (b 4) (b 5)
def snF (b : Nat → Bool) : Int32 := snB (b 0) (b 1) (b 2) (b 3) (b 4) (b 5)
def smF (b : Nat → Bool) (r : Nat → Int32) : Int32 := (if b 0 then r 0 else 0) + (if b 1 then r 1 else 0) + (if b 2 then r 2 else 0) + (if b 3 then r 3 else 0) + (if b 4 then r 4 else 0) + (if b 5 then r 5 else 0)
def adB (b : Nat → Bool) (p : Nat) : Nat → Bool := fun q => if q = p then true else b q
theorem mk_test : ∀ b0 b1 b2 b3 b4 b5 : Bool, (mkB b0 b1 b2 b3 b4 b5 &&& (1 <<< (nI 0 &&& 31)) = 0 ↔ b0 = false) ∧ (mkB b0 b1 b2 b3 b4 b5 &&& (1 <<< (nI 1 &&& 31)) = 0 ↔ b1 = false) ∧ (mkB b0 b1 b2 b3 b4 b5 &&& (1 <<< (nI 2 &&& 31)) = 0 ↔ b2 = false) ∧ (mkB b0 b1 b2 b3 b4 b5 &&& (1 <<< (nI 3 &&& 31)) = 0 ↔ b3 = false) ∧ (mkB b0 b1 b2 b3 b4 b5 &&& (1 <<< (nI 4 &&& 31)) = 0 ↔ b4 = false) ∧ (mkB b0 b1 b2 b3 b4 b5 &&& (1 <<< (nI 5 &&& 31)) = 0 ↔ b5 = false) := by decide +kernel
theorem mk_add : ∀ b0 b1 b2 b3 b4 b5 : Bool, mkB b0 b1 b2 b3 b4 b5 ||| (1 <<< (nI 0 &&& 31)) = mkB true b1 b2 b3 b4 b5 ∧ mkB b0 b1 b2 b3 b4 b5 ||| (1 <<< (nI 1 &&& 31)) = mkB b0 true b2 b3 b4 b5 ∧ mkB b0 b1 b2 b3 b4 b5 ||| (1 <<< (nI 2 &&& 31)) = mkB b0 b1 true b3 b4 b5 ∧ mkB b0 b1 b2 b3 b4 b5 ||| (1 <<< (nI 3 &&& 31)) = mkB b0 b1 b2 true b4 b5 ∧ mkB b0 b1 b2 b3 b4 b5 ||| (1 <<< (nI 4 &&& 31)) = mkB b0 b1 b2 b3 true b5 ∧ mkB b0 b1 b2 b3 b4 b5 ||| (1 <<< (nI 5 &&& 31)) = mkB b0 b1 b2 b3 b4 true := by decide +kernel
theorem sn_add : ∀ b0 b1 b2 b3 b4 b5 : Bool, (b0 = false → snB b0 b1 b2 b3 b4 b5 + 1 = snB true b1 b2 b3 b4 b5) ∧ (b1 = false → snB b0 b1 b2 b3 b4 b5 + 1 = snB b0 true b2 b3 b4 b5) ∧ (b2 = false → snB b0 b1 b2 b3 b4 b5 + 1 = snB b0 b1 true b3 b4 b5) ∧ (b3 = false → snB b0 b1 b2 b3 b4 b5 + 1 = snB b0 b1 b2 true b4 b5) ∧ (b4 = false → snB b0 b1 b2 b3 b4 b5 + 1 = snB b0 b1 b2 b3 true b5) ∧ (b5 = false → snB b0 b1 b2 b3 b4 b5 + 1 = snB b0 b1 b2 b3 b4 true) := by decide +kernel
theorem sn_6 : ∀ b0 b1 b2 b3 b4 b5 : Bool, 6 ≤ snB b0 b1 b2 b3 b4 b5 ↔ (b0 = true ∧ b1 = true ∧ b2 = true ∧ b3 = true ∧ b4 = true ∧ b5 = true) := by decide +kernel
theorem sn_lt : ∀ b0 b1 b2 b3 b4 b5 : Bool, snB b0 b1 b2 b3 b4 b5 < 6 ↔ ¬ (b0 = true ∧ b1 = true ∧ b2 = true ∧ b3 = true ∧ b4 = true ∧ b5 = true) := by decide +kernel
section DR
variable {b : Nat → Bool} {p : Nat} {r : Nat → Int32}
theorem mkF_t (hp : p < 6) : mkF b &&& (1 <<< (nI p &&& 31)) = 0 ↔ b p = false := by
  obtain ⟨h0, h1, h2, h3, h4, h5⟩ := mk_test (b 0) (b 1) (b 2) (b 3) (b 4) (b 5)
  rcases (show p = 0 ∨ p = 1 ∨ p = 2 ∨ p = 3 ∨ p = 4 ∨ p = 5 by omega) with rfl | rfl | rfl | rfl | rfl | rfl
  · exact h0
  · exact h1
  · exact h2
  · exact h3
  · exact h4
  · exact h5
theorem mkF_a (hp : p < 6) : mkF b ||| (1 <<< (nI p &&& 31)) = mkF (adB b p) := by
  obtain ⟨h0, h1, h2, h3, h4, h5⟩ := mk_add (b 0) (b 1) (b 2) (b 3) (b 4) (b 5)
  rcases (show p = 0 ∨ p = 1 ∨ p = 2 ∨ p = 3 ∨ p = 4 ∨ p = 5 by omega) with rfl | rfl | rfl | rfl | rfl | rfl
  · exact h0
  · exact h1
  · exact h2
  · exact h3
  · exact h4
  · exact h5
theorem snF_a (hp : p < 6) (hb : b p = false) : snF b + 1 = snF (adB b p) := by
  obtain ⟨h0, h1, h2, h3, h4, h5⟩ := sn_add (b 0) (b 1) (b 2) (b 3) (b 4) (b 5)
  rcases (show p = 0 ∨ p = 1 ∨ p = 2 ∨ p = 3 ∨ p = 4 ∨ p = 5 by omega) with rfl | rfl | rfl | rfl | rfl | rfl
  · exact h0 hb
  · exact h1 hb
  · exact h2 hb
  · exact h3 hb
  · exact h4 hb
  · exact h5 hb
theorem smF_a (hp : p < 6) (hb : b p = false) : smF b r + r p = smF (adB b p) r := by
  rcases (show p = 0 ∨ p = 1 ∨ p = 2 ∨ p = 3 ∨ p = 4 ∨ p = 5 by omega) with rfl | rfl | rfl | rfl | rfl | rfl
  · show (if b 0 then r 0 else 0) + (if b 1 then r 1 else 0) + (if b 2 then r 2 else 0) + (if b 3 then r 3 else 0) + (if b 4 then r 4 else 0) + (if b 5 then r 5 else 0) + r 0 = r 0 + (if b 1 then r 1 else 0) + (if b 2 then r 2 else 0) + (if b 3 then r 3 else 0) + (if b 4 then r 4 else 0) + (if b 5 then r 5 else 0)
    rw [hb, if_neg (show ¬ (false = true) by decide)]
    simp only [Int32.zero_add, Int32.add_zero]
    try ac_rfl
  · show (if b 0 then r 0 else 0) + (if b 1 then r 1 else 0) + (if b 2 then r 2 else 0) + (if b 3 then r 3 else 0) + (if b 4 then r 4 else 0) + (if b 5 then r 5 else 0) + r 1 = (if b 0 then r 0 else 0) + r 1 + (if b 2 then r 2 else 0) + (if b 3 then r 3 else 0) + (if b 4 then r 4 else 0) + (if b 5 then r 5 else 0)
    rw [hb, if_neg (show ¬ (false = true) by decide)]
    simp only [Int32.zero_add, Int32.add_zero]
    try ac_rfl
  · show (if b 0 then r 0 else 0) + (if b 1 then r 1 else 0) + (if b 2 then r 2 else 0) + (if b 3 then r 3 else 0) + (if b 4 then r 4 else 0) + (if b 5 then r 5 else 0) + r 2 = (if b 0 then r 0 else 0) + (if b 1 then r 1 else 0) + r 2 + (if b 3 then r 3 else 0) + (if b 4 then r 4 else 0) + (if b 5 then r 5 else 0)
    rw [hb, if_neg (show ¬ (false = true) by decide)]
    simp only [Int32.zero_add, Int32.add_zero]
    try ac_rfl
  · show (if b 0 then r 0 else 0) + (if b 1 then r 1 else 0) + (if b 2 then r 2 else 0) + (if b 3 then r 3 else 0) + (if b 4 then r 4 else 0) + (if b 5 then r 5 else 0) + r 3 = (if b 0 then r 0 else 0) + (if b 1 then r 1 else 0) + (if b 2 then r 2 else 0) + r 3 + (if b 4 then r 4 else 0) + (if b 5 then r 5 else 0)
    rw [hb, if_neg (show ¬ (false = true) by decide)]
    simp only [Int32.zero_add, Int32.add_zero]
    try ac_rfl
  · show (if b 0 then r 0 else 0) + (if b 1 then r 1 else 0) + (if b 2 then r 2 else 0) + (if b 3 then r 3 else 0) + (if b 4 then r 4 else 0) + (if b 5 then r 5 else 0) + r 4 = (if b 0 then r 0 else 0) + (if b 1 then r 1 else 0) + (if b 2 then r 2 else 0) + (if b 3 then r 3 else 0) + r 4 + (if b 5 then r 5 else 0)
    rw [hb, if_neg (show ¬ (false = true) by decide)]
    simp only [Int32.zero_add, Int32.add_zero]
    try ac_rfl
  · show (if b 0 then r 0 else 0) + (if b 1 then r 1 else 0) + (if b 2 then r 2 else 0) + (if b 3 then r 3 else 0) + (if b 4 then r 4 else 0) + (if b 5 then r 5 else 0) + r 5 = (if b 0 then r 0 else 0) + (if b 1 then r 1 else 0) + (if b 2 then r 2 else 0) + (if b 3 then r 3 else 0) + (if b 4 then r 4 else 0) + r 5
    rw [hb, if_neg (show ¬ (false = true) by decide)]
    simp only [Int32.zero_add, Int32.add_zero]
    try ac_rfl
theorem adB_y {b : Nat → Bool} {p : Nat} : adB b p p = true := if_pos rfl
theorem adB_n {b : Nat → Bool} {p q : Nat} (h : ¬ q = p) : adB b p q = b q := if_neg h
/-- the latest reading of a pose -/
theorem lat_is {z : Nat → Int32} {x : Int32} {j : Nat} : ∀ {n : Nat}, j < n → z (25 + (j * 5 + 1)) = x → (∀ q, j < q → q < n → ¬ z (25 + (q * 5 + 1)) = x) → latj z x n = j ∧ lat z x n = nI j
  | 0, h, _, _ => absurd h (Nat.not_lt_zero j)
  | n + 1, h, hx, hq => by
    by_cases e : j = n
    · subst e
      exact ⟨if_pos hx, if_pos hx⟩
    · have hn := hq n (by omega) (by omega)
      obtain ⟨h1, h2⟩ := lat_is (n := n) (by omega) hx (fun q a b => hq q a (by omega))
      exact ⟨(if_neg hn).trans h1, (if_neg hn).trans h2⟩
theorem lat_none {z : Nat → Int32} {x : Int32} : ∀ {n : Nat}, (∀ q, q < n → ¬ z (25 + (q * 5 + 1)) = x) → lat z x n = -1
  | 0, _ => rfl
  | n + 1, hq => (if_neg (hq n (by omega))).trans (lat_none (fun q h => hq q (by omega)))
theorem nI_ij {a b : Nat} (ha : a < 2 ^ 31) (hb : b < 2 ^ 31) (h : nI a = nI b) : a = b := by
  have e := congrArg Int32.toInt h
  rw [nI_toInt ha, nI_toInt hb] at e
  omega
/-- the least and the most of some of the six -/
def lstB (b : Nat → Bool) (r : Nat → Int32) (l : Int32) : Prop := (∀ p, p < 6 → b p = true → l.toInt ≤ (r p).toInt) ∧ ((∃ p, p < 6 ∧ b p = true ∧ l = r p) ∨ (∀ p, p < 6 → b p = false) ∧ l = 2000000000)
def mstB (b : Nat → Bool) (r : Nat → Int32) (g : Int32) : Prop := (∀ p, p < 6 → b p = true → (r p).toInt ≤ g.toInt) ∧ ((∃ p, p < 6 ∧ b p = true ∧ g = r p) ∨ (∀ p, p < 6 → b p = false) ∧ g = -2000000000)
theorem lstB_a {b : Nat → Bool} {r : Nat → Int32} {l : Int32} {p : Nat} (hp : p < 6) (hr : rng (r p) (-2000) 2000) (h : lstB b r l) : lstB (adB b p) r (mn l (r p)) := by
  obtain ⟨h1, h2⟩ := h
  have e := mn_I l (r p)
  refine ⟨fun q hq hb => ?_, Or.inl ?_⟩
  · rw [e]
    by_cases c : q = p
    · subst c; split <;> omega
    · rw [adB_n c] at hb
      have := h1 q hq hb
      split <;> omega
  · unfold mn
    split
    · exact ⟨p, hp, adB_y, rfl⟩
    · rename_i c
      rcases h2 with ⟨q, hq, hb, hl⟩ | ⟨-, hl⟩
      · refine ⟨q, hq, ?_, hl⟩
        by_cases c2 : q = p
        · subst c2; exact adB_y
        · rw [adB_n c2]; exact hb
      · rw [fa_lt, hl, show (2000000000 : Int32).toInt = 2000000000 by decide] at c
        have := hr.2
        omega
theorem mstB_a {b : Nat → Bool} {r : Nat → Int32} {g : Int32} {p : Nat} (hp : p < 6) (hr : rng (r p) (-2000) 2000) (h : mstB b r g) : mstB (adB b p) r (mx g (r p)) := by
  obtain ⟨h1, h2⟩ := h
  have e := mx_I g (r p)
  refine ⟨fun q hq hb => ?_, Or.inl ?_⟩
  · rw [e]
    by_cases c : q = p
    · subst c; split <;> omega
    · rw [adB_n c] at hb
      have := h1 q hq hb
      split <;> omega
  · unfold mx
    split
    · exact ⟨p, hp, adB_y, rfl⟩
    · rename_i c
      rcases h2 with ⟨q, hq, hb, hl⟩ | ⟨-, hl⟩
      · refine ⟨q, hq, ?_, hl⟩
        by_cases c2 : q = p
        · subst c2; exact adB_y
        · rw [adB_n c2]; exact hb
      · rw [fa_lt, hl, show (-2000000000 : Int32).toInt = -2000000000 by decide] at c
        have := hr.1
        omega
theorem lR_is {z : Nat → Int32} {n : Nat} (hr : ∀ p, p < 6 → rng (rtj z n p) (-2000) 2000) : ∀ k, k < 6 → (∀ p, p < k + 1 → (lR z n (k + 1)).toInt ≤ (rtj z n p).toInt) ∧ ∃ p, p < k + 1 ∧ lR z n (k + 1) = rtj z n p
  | 0, _ => by
    have e : lR z n 1 = rtj z n 0 := by
      show mn 2000000000 (rtj z n 0) = rtj z n 0
      refine if_pos ?_
      rw [fa_lt, show (2000000000 : Int32).toInt = 2000000000 by decide]
      have := (hr 0 (by omega)).2
      omega
    rw [e]
    exact ⟨fun p hp => by rw [show p = 0 by omega]; exact Int.le_refl _, 0, by omega, rfl⟩
  | k + 1, h => by
    obtain ⟨h1, h2⟩ := lR_is hr k (by omega)
    have e : (lR z n (k + 1 + 1)) = mn (lR z n (k + 1)) (rtj z n (k + 1)) := rfl
    have eI := mn_I (lR z n (k + 1)) (rtj z n (k + 1))
    rw [e]
    refine ⟨fun p hp => ?_, ?_⟩
    · rw [eI]
      by_cases c : p = k + 1
      · subst c; split <;> omega
      · have := h1 p (by omega)
        split <;> omega
    · unfold mn
      split
      · exact ⟨k + 1, by omega, rfl⟩
      · obtain ⟨p, hp, he⟩ := h2
        exact ⟨p, by omega, he⟩
theorem gR_is {z : Nat → Int32} {n : Nat} (hr : ∀ p, p < 6 → rng (rtj z n p) (-2000) 2000) : ∀ k, k < 6 → (∀ p, p < k + 1 → (rtj z n p).toInt ≤ (gR z n (k + 1)).toInt) ∧ ∃ p, p < k + 1 ∧ gR z n (k + 1) = rtj z n p
  | 0, _ => by
    have e : gR z n 1 = rtj z n 0 := by
      show mx (-2000000000) (rtj z n 0) = rtj z n 0
      refine if_pos ?_
      rw [fa_lt, show (-2000000000 : Int32).toInt = -2000000000 by decide]
      have := (hr 0 (by omega)).1
      omega
    rw [e]
    exact ⟨fun p hp => by rw [show p = 0 by omega]; exact Int.le_refl _, 0, by omega, rfl⟩
  | k + 1, h => by
    obtain ⟨h1, h2⟩ := gR_is hr k (by omega)
    have e : (gR z n (k + 1 + 1)) = mx (gR z n (k + 1)) (rtj z n (k + 1)) := rfl
    have eI := mx_I (gR z n (k + 1)) (rtj z n (k + 1))
    rw [e]
    refine ⟨fun p hp => ?_, ?_⟩
    · rw [eI]
      by_cases c : p = k + 1
      · subst c; split <;> omega
      · have := h1 p (by omega)
        split <;> omega
    · unfold mx
      split
      · exact ⟨k + 1, by omega, rfl⟩
      · obtain ⟨p, hp, he⟩ := h2
        exact ⟨p, by omega, he⟩
theorem sm_all {z : Nat → Int32} {n : Nat} {b : Nat → Bool} (h : ∀ p, p < 6 → b p = true) : smF b (rtj z n) = sm z n 6 := by
  show (if b 0 then rtj z n 0 else 0) + (if b 1 then rtj z n 1 else 0) + (if b 2 then rtj z n 2 else 0) + (if b 3 then rtj z n 3 else 0) + (if b 4 then rtj z n 4 else 0) + (if b 5 then rtj z n 5 else 0) = 0 + rtj z n 0 + rtj z n 1 + rtj z n 2 + rtj z n 3 + rtj z n 4 + rtj z n 5
  rw [if_pos (h 0 (by omega)), if_pos (h 1 (by omega)), if_pos (h 2 (by omega)), if_pos (h 3 (by omega)), if_pos (h 4 (by omega)), if_pos (h 5 (by omega)), Int32.zero_add]
theorem sta_no {z : Nat → Int32} {n : Nat} (h : ∀ p, p < 6 → z 0 - hrj z n p ≤ z 14) : ∀ k, k ≤ 6 → staR z n k = false
  | 0, _ => rfl
  | k + 1, hk => by
    show (staR z n k || !decide (z 0 - hrj z n k ≤ z 14)) = false
    rw [sta_no h k (by omega), decide_eq_true (h k (by omega))]
    rfl
theorem sta_yes {z : Nat → Int32} {n p : Nat} (h : ¬ z 0 - hrj z n p ≤ z 14) : ∀ k, p < k → staR z n k = true
  | 0, hk => absurd hk (Nat.not_lt_zero p)
  | k + 1, hk => by
    show (staR z n k || !decide (z 0 - hrj z n k ≤ z 14)) = true
    by_cases e : p = k
    · subst e; rw [decide_eq_false h]; simp
    · rw [sta_yes h k (by omega)]; rfl
/-- a pose without a reading, or with one too old: no day's rate -/
theorem dr1_none {z : Nat → Int32} {n p : Nat} (hp6 : p < 6) (c : lat z (nI p) n = -1) : dr1 z n = -1 := by
  refine if_neg (fun h => ?_)
  exact day_ok h p hp6 c
theorem dr1_old {z : Nat → Int32} {n p : Nat} (hp : okp z n) (hp6 : p < 6) (h : ¬ z 0 - hrj z n p ≤ z 14) : dr1 z n = -1 := by
  refine if_neg (fun hw => ?_)
  have e := ref_end hp (fun q hq => day_ok hw q hq)
  rw [if_pos (sta_yes h 6 hp6), hw] at e
  exact absurd e (by decide)
/-- all six in time -/
theorem dr1_all {z : Nat → Int32} {n : Nat} {b : Nat → Bool} {l g : Int32} (hp : okp z n) (hall : ∀ p, p < 6 → b p = true) (hlat : ∀ p, p < 6 → ¬ lat z (nI p) n = -1) (hin : ∀ p, p < 6 → z 0 - hrj z n p ≤ z 14) (hl : lstB b (rtj z n) l) (hg : mstB b (rtj z n) g) : dpe z (snF b) (smF b (rtj z n)) l g = dr1 z n := by
  have hr : ∀ p, p < 6 → rng (rtj z n p) (-2000) 2000 := fun p h => rtj_rng hp (hlat p h)
  obtain ⟨a1, q1, q2, q3⟩ := lR_is hr 5 (by omega)
  change ∀ p, p < 6 → (lR z n 6).toInt ≤ _ at a1
  change lR z n 6 = _ at q3
  obtain ⟨b1, w1, w2, w3⟩ := gR_is hr 5 (by omega)
  change ∀ p, p < 6 → _ ≤ (gR z n 6).toInt at b1
  change gR z n 6 = _ at w3
  have el : l = lR z n 6 := by
    apply Int32.toInt_inj.mp
    obtain ⟨h1, h2⟩ := hl
    have h3 := h1 q1 (by omega) (hall q1 (by omega))
    rw [← q3] at h3
    rcases h2 with ⟨p, hp6, -, he⟩ | ⟨he, -⟩
    · have h4 := a1 p (by omega)
      rw [← he] at h4
      omega
    · have := hall 0 (by omega)
      rw [he 0 (by omega)] at this
      cases this
  have eg : g = gR z n 6 := by
    apply Int32.toInt_inj.mp
    obtain ⟨h1, h2⟩ := hg
    have h3 := h1 w1 (by omega) (hall w1 (by omega))
    rw [← w3] at h3
    rcases h2 with ⟨p, hp6, -, he⟩ | ⟨he, -⟩
    · have h4 := b1 p (by omega)
      rw [← he] at h4
      omega
    · have := hall 0 (by omega)
      rw [he 0 (by omega)] at this
      cases this
  have e := ref_end hp hlat
  rw [if_neg (by rw [sta_no hin 6 (by omega)]; decide)] at e
  obtain ⟨l1, g1⟩ := low_l hp 6 hlat (by omega)
  rw [l1, g1, ← el, ← eg] at e
  have hsn : ¬ snF b < 6 := by
    intro h
    exact (sn_lt _ _ _ _ _ _).mp h ⟨hall 0 (by omega), hall 1 (by omega), hall 2 (by omega), hall 3 (by omega), hall 4 (by omega), hall 5 (by omega)⟩
  unfold dpe dr1
  rw [if_neg hsn, sm_all hall, e]
  by_cases c : g - l ≤ z 15
  · rw [if_pos c, if_pos c, if_pos rfl]
  · rw [if_neg c, if_neg c, if_neg (by decide)]
/-- the readings from i on are told by b -/
def toldB (z : Nat → Int32) (n i : Nat) (b : Nat → Bool) : Prop := ∀ p, p < 6 → (b p = true ↔ ∃ j, i ≤ j ∧ j < n ∧ z (25 + (j * 5 + 1)) = nI p)
theorem dpl_is {z : Nat → Int32} {n : Nat} (hn4 : n ≤ 40) (hp : okp z n) (hps : ∀ i, i < n → ∃ k, k < 6 ∧ z (25 + (i * 5 + 1)) = nI k) : ∀ (i : Nat) (b : Nat → Bool) (l g : Int32), i ≤ n → toldB z n i b → (∀ p, p < 6 → b p = true → ¬ lat z (nI p) n = -1 ∧ z 0 - hrj z n p ≤ z 14) → lstB b (rtj z n) l → mstB b (rtj z n) g → dpl z i (mkF b) (snF b) (smF b (rtj z n)) l g = dr1 z n := by
  have fin : ∀ (i : Nat) (b : Nat → Bool) (l g : Int32), (i = 0 ∨ 6 ≤ snF b) → toldB z n i b → (∀ p, p < 6 → b p = true → ¬ lat z (nI p) n = -1 ∧ z 0 - hrj z n p ≤ z 14) → lstB b (rtj z n) l → mstB b (rtj z n) g → dpe z (snF b) (smF b (rtj z n)) l g = dr1 z n := by
    intro i b l g h0 ht hb hl hg
    by_cases c : snF b < 6
    · have h1 : i = 0 := by
        rcases h0 with h | h
        · exact h
        · rw [fa_lt] at c; rw [fa_le] at h; omega
      subst h1
      unfold dpe
      rw [if_pos c]
      have c2 := (sn_lt _ _ _ _ _ _).mp c
      have hex : ∃ p, p < 6 ∧ b p = false := by
        refine Decidable.byContradiction fun hno => c2 ?_
        have : ∀ p, p < 6 → b p = true := fun p hp6 => by
          cases hbp : b p
          · exact absurd ⟨p, hp6, hbp⟩ hno
          · rfl
        exact ⟨this 0 (by omega), this 1 (by omega), this 2 (by omega), this 3 (by omega), this 4 (by omega), this 5 (by omega)⟩
      obtain ⟨p, hp6, hbp⟩ := hex
      refine (dr1_none hp6 (lat_none fun q hq hx => ?_)).symm
      have := (ht p hp6).mpr ⟨q, Nat.zero_le _, hq, hx⟩
      rw [hbp] at this
      cases this
    · have c2 : 6 ≤ snF b := by rw [fa_lt] at c; rw [fa_le]; omega
      obtain ⟨a0, a1, a2, a3, a4, a5⟩ := (sn_6 _ _ _ _ _ _).mp c2
      have hall : ∀ p, p < 6 → b p = true := fun p hp6 => by
        rcases (show p = 0 ∨ p = 1 ∨ p = 2 ∨ p = 3 ∨ p = 4 ∨ p = 5 by omega) with rfl | rfl | rfl | rfl | rfl | rfl <;> assumption
      exact dr1_all hp hall (fun p h => (hb p h (hall p h)).1) (fun p h => (hb p h (hall p h)).2) hl hg
  intro i
  induction i with
  | zero =>
    intro b l g _ ht hb hl hg
    exact fin 0 b l g (Or.inl rfl) ht hb hl hg
  | succ i ih =>
    intro b l g hi ht hb hl hg
    by_cases c6 : 6 ≤ snF b
    · rw [dpl_e c6]
      exact fin (i + 1) b l g (Or.inr c6) ht hb hl hg
    · obtain ⟨p, hp6, hx⟩ := hps i (by omega)
      by_cases hbp : b p = true
      · have c2 : ¬ mkF b &&& (1 <<< (z (25 + (i * 5 + 1)) &&& 31)) = 0 := by
          rw [hx, mkF_t hp6, hbp]; decide
        rw [dpl_n c6 c2]
        refine ih b l g (by omega) (fun q hq6 => ⟨fun h => ?_, fun ⟨j, h1, h2, h3⟩ => ?_⟩) hb hl hg
        · obtain ⟨j, h1, h2, h3⟩ := (ht q hq6).mp h
          exact ⟨j, by omega, h2, h3⟩
        · by_cases e : j = i
          · subst e
            have := nI_ij (by omega) (by omega) (hx.symm.trans h3)
            subst this
            exact hbp
          · exact (ht q hq6).mpr ⟨j, by omega, h2, h3⟩
      · have hbf : b p = false := by
          cases h : b p
          · rfl
          · exact absurd h hbp
        have c2 : mkF b &&& (1 <<< (z (25 + (i * 5 + 1)) &&& 31)) = 0 := by
          rw [hx, mkF_t hp6]; exact hbf
        obtain ⟨e1, e2⟩ := lat_is (n := n) (j := i) (by omega) hx (fun q h1 h2 h3 => by
          have := (ht p hp6).mpr ⟨q, by omega, h2, h3⟩
          rw [hbf] at this
          cases this)
        have eh : z (25 + (i * 5 + 0)) = hrj z n p := by unfold hrj; rw [e1]
        have er : z (25 + (i * 5 + 2)) = rtj z n p := by unfold rtj; rw [e1]
        have hlat : ¬ lat z (nI p) n = -1 := by rw [e2]; exact nI_m1 (by omega)
        by_cases c3 : z 0 - z (25 + (i * 5 + 0)) ≤ z 14
        · rw [dpl_y c6 c2 c3, er, hx, mkF_a hp6, snF_a hp6 hbf, smF_a hp6 hbf]
          have hrr := rtj_rng hp hlat
          refine ih (adB b p) _ _ (by omega) (fun q hq6 => ⟨fun h => ?_, fun ⟨j, h1, h2, h3⟩ => ?_⟩) (fun q hq6 h => ?_) (lstB_a hp6 hrr hl) (mstB_a hp6 hrr hg)
          · by_cases e : q = p
            · subst e; exact ⟨i, Nat.le_refl _, by omega, hx⟩
            · rw [adB_n e] at h
              obtain ⟨j, h1, h2, h3⟩ := (ht q hq6).mp h
              exact ⟨j, by omega, h2, h3⟩
          · by_cases e : q = p
            · subst e; exact adB_y
            · rw [adB_n e]
              by_cases e3 : j = i
              · subst e3
                exact absurd (nI_ij (by omega) (by omega) (h3.symm.trans hx)) e
              · exact (ht q hq6).mpr ⟨j, by omega, h2, h3⟩
          · by_cases e : q = p
            · subst e; exact ⟨hlat, by rw [← eh]; exact c3⟩
            · rw [adB_n e] at h; exact hb q hq6 h
        · rw [dpl_o c6 c2 c3]
          exact (dr1_old hp hp6 (by rw [← eh]; exact c3)).symm
end DR
theorem good_dr {M : Int} {z : Nat → Int32} {n : Nat} (g : good M z) (hM : M ≤ 10000000) (hn : z 10 = nI n) (hn4 : n ≤ 40) : dr1 z n = dr2 z n := by
  have hp := good_okp g hM hn hn4
  have hps := (g.2.2.2.2 n hn hn4).2.2
  have h := dpl_is hn4 hp hps n (fun _ => false) 2000000000 (-2000000000) (Nat.le_refl _) (fun p hp6 => ⟨fun h => (by cases h), fun ⟨j, h1, h2, _⟩ => absurd h1 (by omega)⟩) (fun p _ h => (by cases h)) ⟨fun p _ h => (by cases h), Or.inr ⟨fun p _ => rfl, rfl⟩⟩ ⟨fun p _ h => (by cases h), Or.inr ⟨fun p _ => rfl, rfl⟩⟩
  exact h.symm
