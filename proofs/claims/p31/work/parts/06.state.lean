/-! The cells of both sides in words of one row of ints: z is the row of the reference (0 hour, 1 left, 2 regulator, 3 stud, 4 magnetism, 5 dirt, 6 lies, 7 error, 8 stood, 9 went, 10 printed, 11 so far, 12 to 15 settings, 16 to 18 stop, 19 to 24 weights, from 25 on the paper); a State of the class holds the same numbers. -/
abbrev TY (cI cJ cO : ClassId) : List (ClassId × FieldType) := [(cI, .int), (cO, .object RX3)]
abbrev oW (a wa : Nat) (z : Nat → Int32) : Nat × va_E := (a, .inr (4, [.ref wa, .int (z 2), .int (z 3), .int (z 1), .int (z 4), .int (z 5), .int (z 6), .int (z 0), .int (z 7), .int (z 8), .int (z 9)]))
abbrev aI (cI : ClassId) (a n k : Nat) (f : Nat → Int32) : Nat × va_E := (a, .inl (cI, n, .inl (cut n k f)))
abbrev oP (pa ra : Nat) (z : Nat → Int32) : Nat × va_E := (pa, .inr (1, [.ref ra, .int (z 10)]))
abbrev oS (a w pa sa : Nat) (z : Nat → Int32) : Nat × va_E := (a, .inr (3, [.ref w, .ref pa, .ref sa, .int (z 11), .int (z 16), .int (z 17), .int (z 18)]))
abbrev oT (a c k n : Nat) (x : Nat → Int32) : Nat × va_E := (a, .inr (0, [.ref c, .int (x 0), .ref k, .ref n, .int (x 1), .int (x 2), .int (x 3), .int (x 4), .int (x 5)]))
abbrev oV (a r : Nat) (x : Nat → Int32) : Nat × va_E := (a, .inr (2, [.ref r, .int (x 0), .int (x 1)]))
abbrev aO (cO : ClassId) (r : Nat) (f : Nat → Option Nat) : Nat × va_E := (r, .inl (cO, 6, .inr (.inr (.inr (.inr f)))))
abbrev oX (a n sn sv t tr : Nat) (h : Int32) : Nat × va_E := (a, .inr (5, [.ref n, .ref sn, .ref sv, .ref t, .ref tr, .int h]))
abbrev oM (a za as sv ka ta : Nat) (y : Nat → Int32) : Nat × va_E := (a, .inr (6, [.int (y 0), .ref za, .ref as, .ref sv, .int (y 1), .ref ka, .int (y 2), .ref ta, .int (y 3), .int (y 4), .int (y 5)]))
theorem oW_c {a wa : Nat} {f g : Nat → Int32} (h : ∀ k, 0 ≤ k → k < 10 → f k = g k) : oW a wa f = oW a wa g := by
  simp only [oW, h 0 (by decide) (by decide), h 1 (by decide) (by decide), h 2 (by decide) (by decide), h 3 (by decide) (by decide), h 4 (by decide) (by decide), h 5 (by decide) (by decide), h 6 (by decide) (by decide), h 7 (by decide) (by decide), h 8 (by decide) (by decide), h 9 (by decide) (by decide)]
theorem aI_c {cI : ClassId} {a n k : Nat} {f g : Nat → Int32} (h : ∀ i, k ≤ i → i < k + n → f i = g i) : aI cI a n k f = aI cI a n k g := by
  have e : cut n k f = cut n k g := cut_eq (fun j hj => h (k + j) (Nat.le_add_right _ _) (Nat.add_lt_add_left hj _))
  simp only [aI, e]
theorem oP_c {pa ra : Nat} {f g : Nat → Int32} (h : ∀ k, 10 ≤ k → k < 11 → f k = g k) : oP pa ra f = oP pa ra g := by
  simp only [oP, h 10 (by decide) (by decide)]
theorem oS_c {a w pa sa : Nat} {f g : Nat → Int32} (h : ∀ k, 11 ≤ k → k < 19 → f k = g k) : oS a w pa sa f = oS a w pa sa g := by
  simp only [oS, h 11 (by decide) (by decide), h 16 (by decide) (by decide), h 17 (by decide) (by decide), h 18 (by decide) (by decide)]
theorem oT_c {a c k n : Nat} {f g : Nat → Int32} (h : ∀ k, 0 ≤ k → k < 6 → f k = g k) : oT a c k n f = oT a c k n g := by
  simp only [oT, h 0 (by decide) (by decide), h 1 (by decide) (by decide), h 2 (by decide) (by decide), h 3 (by decide) (by decide), h 4 (by decide) (by decide), h 5 (by decide) (by decide)]
-- facts of ints (kit/laws NUMBERS and COUNTS, pasted)
theorem fa_lt (a b : Int32) : a < b ↔ a.toInt < b.toInt := Int32.lt_iff_toInt_lt
theorem fa_le (a b : Int32) : a ≤ b ↔ a.toInt ≤ b.toInt := Int32.le_iff_toInt_le
theorem fa_eq (a b : Int32) : a = b ↔ a.toInt = b.toInt := Int32.toInt_inj.symm
theorem fa_lt64 (a b : Int64) : a < b ↔ a.toInt < b.toInt := Int64.lt_iff_toInt_lt
theorem fa_le64 (a b : Int64) : a ≤ b ↔ a.toInt ≤ b.toInt := Int64.le_iff_toInt_le
theorem fa_eq64 (a b : Int64) : a = b ↔ a.toInt = b.toInt := Int64.toInt_inj.symm
theorem fa_of_nlt {a b : Int32} (h : ¬ a < b) : b ≤ a := by
  rw [fa_lt] at h
  rw [fa_le]
  omega
theorem fa_of_nle {a b : Int32} (h : ¬ a ≤ b) : b < a := by
  rw [fa_le] at h
  rw [fa_lt]
  omega
theorem fa_three (a b : Int32) : a < b ∨ a = b ∨ b < a := by
  rw [fa_lt, fa_lt, fa_eq]
  omega
theorem fb_rng (x : Int32) : -2147483648 ≤ x.toInt ∧ x.toInt < 2147483648 := by
  have h1 := Int32.le_toInt x
  have h2 := Int32.toInt_lt x
  omega
theorem fb_bmod {z : Int} (h1 : -2147483648 ≤ z) (h2 : z < 2147483648) : z.bmod (2 ^ 32) = z := by
  rw [Int.bmod_eq_of_le (by omega) (by omega)]
theorem fb_addI {x y : Int32} (h1 : -2147483648 ≤ x.toInt + y.toInt) (h2 : x.toInt + y.toInt < 2147483648) : (x + y).toInt = x.toInt + y.toInt := by
  rw [Int32.toInt_add, fb_bmod h1 h2]
theorem fb_subI {x y : Int32} (h1 : -2147483648 ≤ x.toInt - y.toInt) (h2 : x.toInt - y.toInt < 2147483648) : (x - y).toInt = x.toInt - y.toInt := by
  rw [Int32.toInt_sub, fb_bmod h1 h2]
theorem fb_mulI {x y : Int32} (h1 : -2147483648 ≤ x.toInt * y.toInt) (h2 : x.toInt * y.toInt < 2147483648) : (x * y).toInt = x.toInt * y.toInt := by
  rw [Int32.toInt_mul, fb_bmod h1 h2]
theorem fb_negI {x : Int32} (h : x.toInt ≠ -2147483648) : (-x).toInt = -x.toInt := by
  have := fb_rng x
  rw [Int32.toInt_neg, fb_bmod (by omega) (by omega)]
theorem fb_ofI {z : Int} (h1 : -2147483648 ≤ z) (h2 : z < 2147483648) : (Int32.ofInt z).toInt = z := by
  rw [Int32.toInt_ofInt, fb_bmod h1 h2]
theorem fb_asI (x : Int32) : Int32.ofInt x.toInt = x := Int32.ofInt_toInt x
theorem fb_rngL (x : Int64) : -9223372036854775808 ≤ x.toInt ∧ x.toInt < 9223372036854775808 := by
  have h1 := Int64.le_toInt x
  have h2 := Int64.toInt_lt x
  omega
theorem fb_bmodL {z : Int} (h1 : -9223372036854775808 ≤ z) (h2 : z < 9223372036854775808) : z.bmod (2 ^ 64) = z := by
  rw [Int.bmod_eq_of_le (by omega) (by omega)]
theorem fb_addL {x y : Int64} (h1 : -9223372036854775808 ≤ x.toInt + y.toInt) (h2 : x.toInt + y.toInt < 9223372036854775808) : (x + y).toInt = x.toInt + y.toInt := by
  rw [Int64.toInt_add, fb_bmodL h1 h2]
theorem fb_subL {x y : Int64} (h1 : -9223372036854775808 ≤ x.toInt - y.toInt) (h2 : x.toInt - y.toInt < 9223372036854775808) : (x - y).toInt = x.toInt - y.toInt := by
  rw [Int64.toInt_sub, fb_bmodL h1 h2]
theorem fb_mulL {x y : Int64} (h1 : -9223372036854775808 ≤ x.toInt * y.toInt) (h2 : x.toInt * y.toInt < 9223372036854775808) : (x * y).toInt = x.toInt * y.toInt := by
  rw [Int64.toInt_mul, fb_bmodL h1 h2]
theorem nI_addp {x y : Int32} {a b : Nat} (hx : x = nI a) (hy : y = nI b) : x + y = nI (a + b) := by rw [hx, hy, nI_add]
theorem nI_mulp {x y : Int32} {a b : Nat} (hx : x = nI a) (hy : y = nI b) : x * y = nI (a * b) := by rw [hx, hy, pk_mul]
-- truth as an int
def bI (b : Bool) : Int32 := if b then 1 else 0
theorem bI_n (b : Bool) : narrow .boolean (.int (bI b)) = .int (bI b) := by cases b <;> rfl
theorem bI_t {b : Bool} (h : ¬ bI b = 0) : b = true := by cases b <;> first | rfl | exact absurd rfl h
theorem bI_f {b : Bool} (h : bI b = 0) : b = false := by cases b <;> first | rfl | exact absurd h (by decide)
-- numbers
def am (v : Int32) : Int32 := if 0 ≤ v then v else -v
def fdv (x y : Int32) : Int32 := if 0 ≤ (x ^^^ y) then x / y else if x / y * y = x then x / y else x / y - 1
def dvd (v b : Int32) : Int32 := if 0 ≤ v then v / b else -((b - 1 - v) / b)
def rem (x y : Int32) : Int32 := x - x / y * y
-- the watch
def sw0 (z : Nat → Int32) (x : Int32) : Int32 := 320 - 3 * (48 - z 1) - z 5 - (if x ≤ 1 then 0 else 20)
def swing (z : Nat → Int32) (x : Int32) : Int32 := if 0 ≤ sw0 z x then sw0 z x else 0
def rt0 (z : Nat → Int32) (k : Nat) : Int32 := z 2 + fdv (z (19 + k) * (360 - swing z (nI k))) 100 + 2 * z 4
def rate (z : Nat → Int32) (k : Nat) : Int32 := if z 4 ≤ 50 then (if swing z (nI k) ≤ 300 then rt0 z k else rt0 z k + 600) else rt0 z k + 300
def beat (z : Nat → Int32) (x : Int32) : Int32 := am (z 3) + z 5 / 10 + (if x ≤ 1 then 0 else 2)
def goes (z : Nat → Int32) (x : Int32) : Bool := !decide (z 1 ≤ 0) && !decide (swing z x < 120)
def tick (z : Nat → Int32) : Nat → Int32 := upd z 0 (z 0 + 1)
def goneF (z : Nat → Int32) (k : Nat) : Nat → Int32 := upd (upd (upd (tick z) 7 (z 7 + fdv (rate (tick z) k) 24)) 1 (z 1 - 1)) 9 (z 9 + 1)
def hourF (z : Nat → Int32) (k : Nat) : Nat → Int32 := if goes (tick z) (nI k) then (if rem (z 9 + 1) 24 = 0 then upd (goneF z k) 5 (if z 5 + 1 ≤ 100 then z 5 + 1 else 100) else goneF z k) else upd (tick z) 8 (z 8 + 1)
def hoursF : Nat → (Nat → Int32) → Nat → Nat → Int32
  | 0, z, _ => z
  | n + 1, z, k => hoursF n (hourF z k) k

def mn48 (v : Int32) : Int32 := if v ≤ 48 then v else 48
theorem mn48_c (v : Int32) : (if v < 48 then v else 48) = mn48 v := by
  unfold mn48
  by_cases h : v < 48
  · have h2 : v ≤ 48 := by rw [fa_lt] at h; rw [fa_le]; omega
    rw [if_pos h, if_pos h2]
  · by_cases h2 : v ≤ 48
    · rw [if_neg h, if_pos h2]
      rw [fa_eq]
      rw [fa_lt] at h
      rw [fa_le] at h2
      omega
    · rw [if_neg h, if_neg h2]
def isP (x : Int32) : Bool := !decide (x < 0) && !decide (6 ≤ x)
theorem isP_b {k : Nat} (h : k < 6) : ¬ bI (isP (nI k)) = 0 := by
  rcases (show k = 0 ∨ k = 1 ∨ k = 2 ∨ k = 3 ∨ k = 4 ∨ k = 5 by omega) with rfl | rfl | rfl | rfl | rfl | rfl <;> decide
theorem mx0 (v : Int32) : (if 0 < v then v else 0) = if 0 ≤ v then v else 0 := by
  by_cases h : 0 < v
  · have h2 : 0 ≤ v := by rw [fa_lt] at h; rw [fa_le]; omega
    rw [if_pos h, if_pos h2]
  · by_cases h2 : 0 ≤ v
    · rw [if_neg h, if_pos h2]
      rw [fa_eq]
      rw [fa_lt] at h
      rw [fa_le] at h2
      have e : (0 : Int32).toInt = 0 := by decide
      omega
    · rw [if_neg h, if_neg h2]
theorem lt_2 (x : Int32) : x < 2 ↔ x ≤ 1 := by
  rw [fa_lt, fa_le, show (2 : Int32).toInt = 2 by decide, show (1 : Int32).toInt = 1 by decide]
  omega
theorem sub_m (x y : Int32) : x + -y = x - y := (Int32.sub_eq_add_neg x y).symm
theorem sub_z (x : Int32) : x - 0 = x := by rw [Int32.sub_eq_add_neg]; simp
theorem add_z (x : Int32) : x + 0 = x := by simp
theorem z_sub (x : Int32) : 0 - x = -x := by simp
theorem sw_a {z : Nat → Int32} {x : Int32} (c : x < 2) : (if 0 < 320 - 3 * (48 - z 1) - z 5 then 320 - 3 * (48 - z 1) - z 5 else 0) = swing z x := by
  rw [mx0, swing, sw0, if_pos ((lt_2 x).mp c), sub_z]
theorem sw_b {z : Nat → Int32} {x : Int32} (c : ¬ x < 2) : (if 0 < 320 - 3 * (48 - z 1) - z 5 + (-20) then 320 - 3 * (48 - z 1) - z 5 + (-20) else 0) = swing z x := by
  have h : ¬ x ≤ 1 := fun h => c ((lt_2 x).mpr h)
  rw [mx0, swing, sw0, if_neg h, sub_m]
theorem bt_a {z : Nat → Int32} {x : Int32} (c : x < 2) : (if 0 ≤ z 3 then z 3 else 0 - z 3) + z 5 / 10 = beat z x := by
  rw [beat, am, if_pos ((lt_2 x).mp c), add_z, z_sub]
theorem bt_b {z : Nat → Int32} {x : Int32} (c : ¬ x < 2) : (if 0 ≤ z 3 then z 3 else 0 - z 3) + z 5 / 10 + 2 = beat z x := by
  have h : ¬ x ≤ 1 := fun h => c ((lt_2 x).mpr h)
  rw [beat, am, if_neg h, z_sub]
theorem mn_le (v : Int32) : (if v < 100 then v else 100) = if v ≤ 100 then v else 100 := by
  by_cases h : v < 100
  · have h2 : v ≤ 100 := by rw [fa_lt] at h; rw [fa_le]; omega
    rw [if_pos h, if_pos h2]
  · by_cases h2 : v ≤ 100
    · rw [if_neg h, if_pos h2]
      rw [fa_eq]
      rw [fa_lt] at h
      rw [fa_le] at h2
      omega
    · rw [if_neg h, if_neg h2]
theorem tick_o (z : Nat → Int32) (k : Nat) (h1 : 1 ≤ k) (_ : k < 225) : tick z k = z k := upd_no (by omega)
theorem goneF_o (z : Nat → Int32) (j k : Nat) (h0 : ¬ k = 7) (h1 : ¬ k = 1) (h2 : ¬ k = 9) (h3 : ¬ k = 0) : goneF z j k = z k := by
  rw [goneF, upd_no h2, upd_no h1, upd_no h0, tick, upd_no h3]
theorem hourF_q (z : Nat → Int32) (j k : Nat) (h0 : ¬ k = 7) (h1 : ¬ k = 1) (h2 : ¬ k = 9) (h3 : ¬ k = 0) (h4 : ¬ k = 5) (h5 : ¬ k = 8) : hourF z j k = z k := by
  unfold hourF
  split
  · split
    · rw [upd_no h4, goneF_o z j k h0 h1 h2 h3]
    · rw [goneF_o z j k h0 h1 h2 h3]
  · rw [upd_no h5, tick, upd_no h3]
theorem hourF_o (z : Nat → Int32) (j k : Nat) (h1 : 10 ≤ k) (_ : k < 225) : hourF z j k = z k := hourF_q z j k (by omega) (by omega) (by omega) (by omega) (by omega) (by omega)
theorem hourF_6 (z : Nat → Int32) (j : Nat) : hourF z j 6 = z 6 := hourF_q z j 6 (by decide) (by decide) (by decide) (by decide) (by decide) (by decide)
theorem hoursF_o : ∀ (n : Nat) (z : Nat → Int32) (j k : Nat) (_ : 10 ≤ k) (_ : k < 225), hoursF n z j k = z k
  | 0, _, _, _, _, _ => rfl
  | n + 1, z, j, k, h1, h2 => (hoursF_o n (hourF z j) j k h1 h2).trans (hourF_o z j k h1 h2)
theorem hoursF_6 : ∀ (n : Nat) (z : Nat → Int32) (j : Nat), hoursF n z j 6 = z 6
  | 0, _, _ => rfl
  | n + 1, z, j => (hoursF_6 n (hourF z j) j).trans (hourF_6 z j)
-- the paper
def lat (z : Nat → Int32) (x : Int32) : Nat → Int32
  | 0 => -1
  | n + 1 => if z (25 + (n * 5 + 1)) = x then nI n else lat z x n
def latj (z : Nat → Int32) (x : Int32) : Nat → Nat
  | 0 => 0
  | n + 1 => if z (25 + (n * 5 + 1)) = x then n else latj z x n
theorem lat_yes {z : Nat → Int32} {x : Int32} {n : Nat} (c : z (25 + (n * 5 + 1)) = x) : lat z x (n + 1) = nI n := if_pos c
theorem lat_no {z : Nat → Int32} {x : Int32} {n : Nat} (c : ¬ z (25 + (n * 5 + 1)) = x) : lat z x (n + 1) = lat z x n := if_neg c
theorem nI_m1 {n : Nat} (h : n < 2 ^ 31) : ¬ nI n = -1 := fun e => by
  have h1 := nI_toInt h
  rw [e, show (-1 : Int32).toInt = -1 by decide] at h1
  omega
theorem lat_j {z : Nat → Int32} {x : Int32} : ∀ {n : Nat}, ¬ lat z x n = -1 → lat z x n = nI (latj z x n) ∧ latj z x n < n ∧ z (25 + (latj z x n * 5 + 1)) = x
  | 0, h => absurd rfl h
  | n + 1, h => by
    by_cases c : z (25 + (n * 5 + 1)) = x
    · rw [lat_yes c, show latj z x (n + 1) = n from if_pos c]
      exact ⟨rfl, Nat.lt_succ_self n, c⟩
    · rw [lat_no c] at h ⊢
      rw [show latj z x (n + 1) = latj z x n from if_neg c]
      obtain ⟨h1, h2, h3⟩ := lat_j h
      exact ⟨h1, Nat.lt_succ_of_lt h2, h3⟩
def cnt (z : Nat → Int32) (x : Int32) : Nat → Int32
  | 0 => 0
  | n + 1 => if z (25 + (n * 5 + 1)) = x then cnt z x n + 1 else cnt z x n
def full (z : Nat → Int32) : Bool := !decide (z 10 < 40)
theorem full_0 {z : Nat → Int32} {n : Nat} (hn : z 10 = nI n) (h : n < 40) : bI (full z) = 0 := by
  have h2 : z 10 < 40 := by rw [hn]; exact nI_lt h (by decide)
  simp [full, h2, bI]
def printF (z : Nat → Int32) (n k : Nat) : Nat → Int32 := upd (upd (upd (upd (upd (upd z (25 + (n * 5 + 0)) (z 0)) (25 + (n * 5 + 1)) (nI k)) (25 + (n * 5 + 2)) (rate z k)) (25 + (n * 5 + 3)) (beat z (nI k))) (25 + (n * 5 + 4)) (swing z (nI k))) 10 (nI n + 1)
theorem printF_q (z : Nat → Int32) (n j k : Nat) (h : k < 25) (h2 : ¬ k = 10) : printF z n j k = z k := by
  have e : ∀ {f : Nat → Int32} {i : Nat} {v : Int32}, upd f (25 + i) v k = f k := upd_no (by omega)
  rw [printF, upd_no h2, e, e, e, e, e]
theorem printF_l (z : Nat → Int32) (n j k : Nat) (_ : 0 ≤ k) (h : k < 10) : printF z n j k = z k := printF_q z n j k (by omega) (by omega)
theorem printF_m (z : Nat → Int32) (n j k : Nat) (_ : 11 ≤ k) (h : k < 25) : printF z n j k = z k := printF_q z n j k (by omega) (by omega)
def readF (z : Nat → Int32) (n k : Nat) : Nat → Int32 := upd (printF (upd z 6 (nI k)) n k) 11 (z 11 + 1)
def why (z : Nat → Int32) (k : Nat) : Int32 := if 0 < z 1 then (if 120 ≤ swing z (nI k) then (if beat z (nI k) ≤ z 12 then (if z 4 ≤ z 13 then (if full z = false then 0 else 5) else 4) else 3) else 2) else 1
theorem dec1 (x : Int32) : x + Int32.ofInt (-1) = x - 1 := sub_m x 1
-- the text: t holds 0 length, 1 parts, 2 kind, 3 negative, 4 digits, 5 value, from 100 on the kinds, from 200 on the numbers, from 300 on the codes
def bgn (t : Nat → Int32) : Nat → Int32 := upd (upd (upd (upd t 2 0) 3 0) 4 0) 5 0
def whole (t : Nat → Int32) : Bool := decide (t 2 = 100) || !decide (t 4 ≤ 0)
def pq (t : Nat → Int32) : Nat := (t 1).toNatClampNeg
def endF (t : Nat → Int32) : Nat → Int32 := bgn (upd (upd (upd t (100 + pq t) (t 2)) (200 + pq t) (if t 3 = 0 then t 5 else -(t 5))) 1 (nI (pq t) + 1))
theorem pq_eq {t : Nat → Int32} {q : Nat} (h : t 1 = nI q) (h2 : q < 60) : pq t = q := by rw [pq, h, nI_clamp (by omega)]
def isK (c : Int32) : Bool := decide (c = 43) || decide (c = 100) || decide (c = 103) || decide (c = 112) || decide (c = 114) || decide (c = 119)
def kF (t : Nat → Int32) (c : Int32) : Nat → Int32 := if isK c then upd t 2 c else t
def sF (t : Nat → Int32) : Nat → Int32 := if whole t then endF t else t
def mB (t : Nat → Int32) : Bool := decide (t 2 = 103) && (decide (t 3 = 0) && decide (t 4 ≤ 0))
def mF (t : Nat → Int32) : Nat → Int32 := if mB t then upd t 3 1 else t
def lst (t : Nat → Int32) : Int32 := if t 2 = 119 then 1 else if t 2 = 43 then 1 else if t 3 = 0 then 0 else 1
def mst (t : Nat → Int32) : Int32 := if t 2 = 43 then 99 else if t 2 = 103 then 99 else if t 2 = 112 then 5 else if t 2 = 114 then 5 else if t 2 = 119 then 48 else -1
def dB (t : Nat → Int32) (d : Int32) : Bool := !decide (d < 0) && (!decide (9 < d) && (!(!decide (t 4 ≤ 0) && decide (t 5 = 0)) && (!decide (10 * t 5 + d < lst t) && decide (10 * t 5 + d ≤ mst t))))
def dF (t : Nat → Int32) (d : Int32) : Nat → Int32 := if dB t d then upd (upd t 4 (t 4 + 1)) 5 (10 * t 5 + d) else t
def tkB (t : Nat → Int32) (c : Int32) : Bool := if t 2 = 0 then isK c else if c = 59 then whole t else if c = 45 then mB t else dB t (c - 48)
def tkF (t : Nat → Int32) (c : Int32) : Nat → Int32 := if t 2 = 0 then kF t c else if c = 59 then sF t else if c = 45 then mF t else dF t (c - 48)
def scF : Nat → (Nat → Int32) → Nat → Nat → Int32
  | 0, t, _ => t
  | m + 1, t, i => if tkB t (t (300 + i)) then scF m (tkF t (t (300 + i))) (i + 1) else tkF t (t (300 + i))
def scR : Nat → (Nat → Int32) → Nat → Int32
  | 0, _, i => nI i
  | m + 1, t, i => if tkB t (t (300 + i)) then scR m (tkF t (t (300 + i))) (i + 1) else nI i
theorem bgn_l (t : Nat → Int32) (k : Nat) (_ : 0 ≤ k) (h : k < 2) : bgn t k = t k := by
  rw [bgn, upd_no (by omega), upd_no (by omega), upd_no (by omega), upd_no (by omega)]
theorem bgn_h (t : Nat → Int32) (k : Nat) (h : 6 ≤ k) (_ : k < 400) : bgn t k = t k := by
  rw [bgn, upd_no (by omega), upd_no (by omega), upd_no (by omega), upd_no (by omega)]
theorem kF_q (t : Nat → Int32) (c : Int32) (k : Nat) (h : ¬ k = 2) : kF t c k = t k := by
  unfold kF
  split
  · exact upd_no h
  · rfl
theorem kF_h (t : Nat → Int32) (c : Int32) (k : Nat) (h : 6 ≤ k) (_ : k < 400) : kF t c k = t k := kF_q t c k (by omega)
theorem mF_q (t : Nat → Int32) (k : Nat) (h : ¬ k = 3) : mF t k = t k := by
  unfold mF
  split
  · exact upd_no h
  · rfl
theorem mF_h (t : Nat → Int32) (k : Nat) (h : 6 ≤ k) (_ : k < 400) : mF t k = t k := mF_q t k (by omega)
theorem dF_q (t : Nat → Int32) (d : Int32) (k : Nat) (h : ¬ k = 4) (h2 : ¬ k = 5) : dF t d k = t k := by
  unfold dF
  split
  · exact (upd_no h2).trans (upd_no h)
  · rfl
theorem dF_h (t : Nat → Int32) (d : Int32) (k : Nat) (h : 6 ≤ k) (_ : k < 400) : dF t d k = t k := dF_q t d k (by omega) (by omega)
theorem endF_q (t : Nat → Int32) (k : Nat) (h : k = 0 ∨ 100 + pq t < k ∧ k < 200 ∨ 200 + pq t < k) (_ : pq t < 60) : endF t k = t k := by
  rw [endF, bgn, upd_no (by omega), upd_no (by omega), upd_no (by omega), upd_no (by omega), upd_no (by omega), upd_no (by omega), upd_no (by omega)]
theorem sF_q {t : Nat → Int32} (k : Nat) (h : k = 0 ∨ 300 ≤ k) (h2 : pq t < 60) : sF t k = t k := by
  unfold sF
  split
  · exact endF_q t k (by omega) h2
  · rfl
theorem tkF_q {t : Nat → Int32} {c : Int32} (k : Nat) (h : k = 0 ∨ 300 ≤ k) (h2 : pq t < 60) : tkF t c k = t k := by
  unfold tkF
  split
  · exact kF_q t c k (by omega)
  · split
    · exact sF_q k h h2
    · split
      · exact mF_q t k (by omega)
      · exact dF_q t _ k (by omega) (by omega)
/-- parts so far, and the part that is being read, are at most the characters so far -/
def pinv (t : Nat → Int32) (i : Nat) : Prop := ∃ q : Nat, t 1 = nI q ∧ q + (if t 2 = 0 then 0 else 1) ≤ i ∧ (t 2 = 0 → t 4 = 0)
theorem pinv_lt {t : Nat → Int32} {i : Nat} (h : pinv t i) (h2 : i < 60) : pq t < 60 := by
  obtain ⟨q, hq, hq2, -⟩ := h
  rw [pq, hq, nI_clamp (by omega)]
  omega
theorem pinv_0 {t : Nat → Int32} : pinv (bgn (upd t 1 0)) 0 := ⟨0, rfl, by simp [bgn, upd], by simp [bgn, upd]⟩
theorem tk_pinv {t : Nat → Int32} {i : Nat} {c : Int32} (hp : pinv t i) (hi : i < 60) (c1 : tkB t c = true) : pinv (tkF t c) (i + 1) := by
  have hlt := pinv_lt hp hi
  obtain ⟨q, hq, hq2, hq4⟩ := hp
  unfold tkF
  split
  · rename_i h0
    rw [if_pos h0] at hq2
    refine ⟨q, by rw [kF_q t c 1 (by decide), hq], ?_, fun _ => by rw [kF_q t c 4 (by decide)]; exact hq4 h0⟩
    split <;> omega
  · rename_i h0
    rw [if_neg h0] at hq2
    split
    · rename_i h1
      have hw : whole t = true := by
        rw [tkB, if_neg h0, if_pos h1] at c1
        exact c1
      have e2 : endF t 2 = 0 := by
        rw [endF, bgn, upd_no (by decide), upd_no (by decide), upd_no (by decide), upd_is]
      have e1 : endF t 1 = nI q + 1 := by
        rw [endF, bgn, upd_no (by decide), upd_no (by decide), upd_no (by decide), upd_no (by decide), upd_is, pq, hq, nI_clamp (by omega)]
      rw [sF, if_pos hw]
      exact ⟨q + 1, by rw [e1, nI_1], by rw [if_pos e2]; omega, fun _ => by rw [endF, bgn, upd_no (by decide), upd_is]⟩
    · split
      · exact ⟨q, by rw [mF_q t 1 (by decide), hq], by rw [mF_q t 2 (by decide), if_neg h0]; omega, fun h => absurd ((mF_q t 2 (by decide)).symm.trans h) h0⟩
      · exact ⟨q, by rw [dF_q t _ 1 (by decide) (by decide), hq], by rw [dF_q t _ 2 (by decide) (by decide), if_neg h0]; omega, fun h => absurd ((dF_q t _ 2 (by decide) (by decide)).symm.trans h) h0⟩
theorem scF_yes {m : Nat} {t : Nat → Int32} {i : Nat} (c : tkB t (t (300 + i)) = true) : scF (m + 1) t i = scF m (tkF t (t (300 + i))) (i + 1) := if_pos c
theorem scF_no {m : Nat} {t : Nat → Int32} {i : Nat} (c : tkB t (t (300 + i)) = false) : scF (m + 1) t i = tkF t (t (300 + i)) := if_neg (by rw [c]; decide)
theorem scR_yes {m : Nat} {t : Nat → Int32} {i : Nat} (c : tkB t (t (300 + i)) = true) : scR (m + 1) t i = scR m (tkF t (t (300 + i))) (i + 1) := if_pos c
theorem scR_no {m : Nat} {t : Nat → Int32} {i : Nat} (c : tkB t (t (300 + i)) = false) : scR (m + 1) t i = nI i := if_neg (by rw [c]; decide)
