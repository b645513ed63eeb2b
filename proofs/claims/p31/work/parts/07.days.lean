/-! The day's rate, the ring of saved states, the whole object: pure words. -/
def mn (a b : Int32) : Int32 := if b < a then b else a
def mx (a b : Int32) : Int32 := if a < b then b else a
def rtj (z : Nat → Int32) (n p : Nat) : Int32 := z (25 + (latj z (nI p) n * 5 + 2))
def hrj (z : Nat → Int32) (n p : Nat) : Int32 := z (25 + (latj z (nI p) n * 5 + 0))
def wdl (z : Nat → Int32) (n : Nat) : Nat → Nat → Int32 → Int32 → Int32 → Int32
  | 0, _, o, l, g => if z 0 - o ≤ z 14 then (if g - l ≤ z 15 then 0 else 8) else 7
  | m + 1, p, o, l, g => if lat z (nI p) n = -1 then 6 else wdl z n m (p + 1) (mn o (hrj z n p)) (mn l (rtj z n p)) (mx g (rtj z n p))
def whyDay (z : Nat → Int32) (n : Nat) : Int32 := wdl z n 6 0 2000000000 2000000000 (-2000000000)
theorem wdl_s {z : Nat → Int32} {n m p : Nat} {o l g : Int32} (c : ¬ lat z (nI p) n = -1) : wdl z n (m + 1) p o l g = wdl z n m (p + 1) (mn o (hrj z n p)) (mn l (rtj z n p)) (mx g (rtj z n p)) := if_neg c
theorem wdl_6 {z : Nat → Int32} {n m p : Nat} {o l g : Int32} (c : lat z (nI p) n = -1) : wdl z n (m + 1) p o l g = 6 := if_pos c
theorem wdl_ok {z : Nat → Int32} {n : Nat} : ∀ (m p : Nat) (o l g : Int32), ¬ wdl z n m p o l g = 6 → ∀ q, p ≤ q → q < p + m → ¬ lat z (nI q) n = -1
  | 0, p, _, _, _, _, q, h1, h2 => by omega
  | m + 1, p, o, l, g, h, q, h1, h2 => by
    by_cases c : lat z (nI p) n = -1
    · exact absurd (wdl_6 c) h
    · rw [wdl_s c] at h
      rcases Nat.eq_or_lt_of_le h1 with e | e
      · subst e; exact c
      · exact wdl_ok m (p + 1) _ _ _ h q e (by omega)
theorem day_ok {z : Nat → Int32} {n : Nat} (c : whyDay z n = 0) (q : Nat) (h : q < 6) : ¬ lat z (nI q) n = -1 := wdl_ok 6 0 _ _ _ (by show ¬ whyDay z n = 6; rw [c]; decide) q (Nat.zero_le _) (by omega)
def sm (z : Nat → Int32) (n : Nat) : Nat → Int32
  | 0 => 0
  | p + 1 => sm z n p + rtj z n p
def dr1 (z : Nat → Int32) (n : Nat) : Int32 := if whyDay z n = 0 then fdv (sm z n 6) 6 + 10000 else -1
def dpe (z : Nat → Int32) (seen s l g : Int32) : Int32 := if seen < 6 then -1 else if g - l ≤ z 15 then fdv s 6 + 10000 else -1
def dpl (z : Nat → Int32) : Nat → Int32 → Int32 → Int32 → Int32 → Int32 → Int32
  | 0, _, seen, s, l, g => dpe z seen s l g
  | i + 1, mask, seen, s, l, g => if 6 ≤ seen then dpe z seen s l g else if mask &&& (1 <<< (z (25 + (i * 5 + 1)) &&& 31)) = 0 then (if z 0 - z (25 + (i * 5 + 0)) ≤ z 14 then dpl z i (mask ||| (1 <<< (z (25 + (i * 5 + 1)) &&& 31))) (seen + 1) (s + z (25 + (i * 5 + 2))) (mn l (z (25 + (i * 5 + 2)))) (mx g (z (25 + (i * 5 + 2)))) else -1) else dpl z i mask seen s l g
def dr2 (z : Nat → Int32) (n : Nat) : Int32 := dpl z n 0 0 0 2000000000 (-2000000000)
theorem dpl_e {z : Nat → Int32} {i : Nat} {mask seen s l g : Int32} (c : 6 ≤ seen) : dpl z (i + 1) mask seen s l g = dpe z seen s l g := if_pos c
theorem dpl_o {z : Nat → Int32} {i : Nat} {mask seen s l g : Int32} (c : ¬ 6 ≤ seen) (c2 : mask &&& (1 <<< (z (25 + (i * 5 + 1)) &&& 31)) = 0) (c3 : ¬ z 0 - z (25 + (i * 5 + 0)) ≤ z 14) : dpl z (i + 1) mask seen s l g = -1 := by
  rw [dpl, if_neg c, if_pos c2, if_neg c3]
theorem dpl_y {z : Nat → Int32} {i : Nat} {mask seen s l g : Int32} (c : ¬ 6 ≤ seen) (c2 : mask &&& (1 <<< (z (25 + (i * 5 + 1)) &&& 31)) = 0) (c3 : z 0 - z (25 + (i * 5 + 0)) ≤ z 14) : dpl z (i + 1) mask seen s l g = dpl z i (mask ||| (1 <<< (z (25 + (i * 5 + 1)) &&& 31))) (seen + 1) (s + z (25 + (i * 5 + 2))) (mn l (z (25 + (i * 5 + 2)))) (mx g (z (25 + (i * 5 + 2)))) := by
  rw [dpl, if_neg c, if_pos c2, if_pos c3]
theorem dpl_n {z : Nat → Int32} {i : Nat} {mask seen s l g : Int32} (c : ¬ 6 ≤ seen) (c2 : ¬ mask &&& (1 <<< (z (25 + (i * 5 + 1)) &&& 31)) = 0) : dpl z (i + 1) mask seen s l g = dpl z i mask seen s l g := by
  rw [dpl, if_neg c, if_neg c2]
-- the ring
abbrev S6 (cI : ClassId) (ad : Nat → Nat) (z : Nat → Int32) : va_W := [oS (ad 0) (ad 1) (ad 3) (ad 5) z, aI cI (ad 5) 4 12 z, oW (ad 1) (ad 2) z, aI cI (ad 2) 6 19 z, oP (ad 3) (ad 4) z, aI cI (ad 4) 200 25 z]
abbrev rgS (cI : ClassId) (rg : Nat → Nat → Nat) (zs : Nat → Nat → Int32) : va_W := S6 cI (rg 0) (zs 0) ++ (S6 cI (rg 1) (zs 1) ++ (S6 cI (rg 2) (zs 2) ++ (S6 cI (rg 3) (zs 3) ++ (S6 cI (rg 4) (zs 4) ++ S6 cI (rg 5) (zs 5)))))
def rgA (rg : Nat → Nat → Nat) : Nat → Option Nat := fun i => if i < 6 then some (rg i 0) else none
def pushY (y : Nat → Int32) : Nat → Int32 := upd (upd y 0 (rem (y 0 + 1) 6)) 1 (if y 1 + 1 < 6 then y 1 + 1 else 6)
def popY (y : Nat → Int32) : Nat → Int32 := upd (upd y 0 (rem (y 0 + 6 - 1) 6)) 1 (y 1 - 1)
-- the whole object
def inR (v lo hi : Int32) : Prop := ¬ v < lo ∧ v ≤ hi
def mn100 (v : Int32) : Int32 := if v ≤ 100 then v else 100
def pnum (z : Nat → Int32) (n k : Nat) : Nat → Int32
  | 0 => z (19 + k) + 100
  | 1 => swing z (nI k)
  | 2 => rate z k + 10000
  | 3 => beat z (nI k)
  | 4 => why z k
  | 5 => if lat z (nI k) n = -1 then -1 else hrj z n k
  | 6 => if lat z (nI k) n = -1 then -1 else rtj z n k + 10000
  | _ => cnt z (nI k) n
def rnum (z : Nat → Int32) (n i wh : Nat) : Int32 := if i < n then (if wh = 2 then z (25 + (i * 5 + wh)) + 10000 else z (25 + (i * 5 + wh))) else -1
def cnum (z : Nat → Int32) (n k : Nat) (sz : Int32) : Nat → Int32
  | 0 => z 0
  | 1 => z 1
  | 2 => z 2 + 100
  | 3 => z 3 + 100
  | 4 => z 4
  | 5 => z 5
  | 6 => z 6
  | 7 => bI (goes z (nI k))
  | 8 => z 7 + 1000000
  | 9 => z 8
  | 10 => z 10
  | 11 => z 11
  | 12 => dr1 z n
  | 13 => dr2 z n
  | 14 => whyDay z n
  | 15 => z 9
  | 16 => z 12
  | 17 => z 13
  | 18 => z 14
  | 19 => z 15
  | _ => sz
def wz1 (z : Nat → Int32) (i : Nat) : Nat → Int32 := hoursF 8 (upd z 6 (nI i)) i
def wz2 (z : Nat → Int32) (i j : Nat) : Nat → Int32 := hoursF 8 (upd (wz1 z i) 6 (nI j)) j
def wz3 (z : Nat → Int32) (i j k : Nat) : Nat → Int32 := hoursF 8 (upd (wz2 z i j) 6 (nI k)) k
def wornN (z : Nat → Int32) (i j k : Nat) : Nat → Int32
  | 0 => wz3 z i j k 7 - z 7 + 100000
  | _ => (wz1 z i 9 - z 9) + (wz2 z i j 9 - wz1 z i 9) + (wz3 z i j k 9 - wz2 z i j 9)
def utr (z : Nat → Int32) (k : Nat) : Nat → Int32 := hoursF 48 (upd z 6 (nI k)) k
def untilN (z : Nat → Int32) (k : Nat) : Int32 := utr z k 9 - z 9
def ntr (z zt : Nat → Int32) : Nat → Nat → Int32
  | 0 => zt
  | p + 1 => wz1 z p
def utrs (z zt : Nat → Int32) : Nat → Nat → Int32
  | 0 => zt
  | p + 1 => utr z p
def oth (z : Nat → Int32) : Nat → Int32
  | 0 => 0
  | p + 1 => oth z p + (rate z p - z 2)
def brl (o : Int32) : Nat → Nat → Int32 → Int32
  | 0, _, b => b
  | n + 1, i, b => brl o n (i + 1) (if am (o + 6 * b) ≤ am (o + 6 * (nI i - 99)) then b else nI i - 99)
def bestN (z : Nat → Int32) : Int32 := brl (oth z 6) 199 0 (-99) + 100
def ngl (z : Nat → Int32) : Nat → Nat → Int32 → Int32 → Int32
  | 0, _, b, _ => b
  | n + 1, p, b, l => if l ≤ am (wz1 z p 7) then ngl z n (p + 1) b l else ngl z n (p + 1) (nI p) (am (wz1 z p 7))
def nightN (z : Nat → Int32) : Int32 := ngl z 6 0 0 2000000000
theorem abs_am (v : Int32) : (if 0 ≤ v then v else 0 - v) = am v := by rw [am, z_sub]
theorem i99 (i : Nat) : nI i - 99 + Int32.ofInt 1 = nI (i + 1) - 99 := by
  rw [← nI_1, show Int32.ofInt 1 = 1 by decide, Int32.sub_eq_add_neg, Int32.sub_eq_add_neg, Int32.add_assoc, Int32.add_assoc, Int32.add_comm (-99) 1]
theorem toI_99 {i : Nat} (h : i < 1000) : (nI i - 99).toInt = (i : Int) - 99 := by
  rw [fb_subI (by rw [nI_toInt (by omega), show (99 : Int32).toInt = 99 by decide]; omega) (by rw [nI_toInt (by omega), show (99 : Int32).toInt = 99 by decide]; omega), nI_toInt (by omega), show (99 : Int32).toInt = 99 by decide]
theorem brl_s {o : Int32} {n i : Nat} {b : Int32} (c : ¬ am (o + 6 * b) ≤ am (o + 6 * (nI i - 99))) : brl o (n + 1) i b = brl o n (i + 1) (nI i - 99) := by rw [brl, if_neg c]
theorem brl_k {o : Int32} {n i : Nat} {b : Int32} (c : am (o + 6 * b) ≤ am (o + 6 * (nI i - 99))) : brl o (n + 1) i b = brl o n (i + 1) b := by rw [brl, if_pos c]
theorem ngl_k {z : Nat → Int32} {n p : Nat} {b l : Int32} (c : l ≤ am (wz1 z p 7)) : ngl z (n + 1) p b l = ngl z n (p + 1) b l := by rw [ngl, if_pos c]
theorem ngl_s {z : Nat → Int32} {n p : Nat} {b l : Int32} (c : ¬ l ≤ am (wz1 z p 7)) : ngl z (n + 1) p b l = ngl z n (p + 1) (nI p) (am (wz1 z p 7)) := by rw [ngl, if_neg c]
theorem gt99 {i : Nat} (h : i < 199) : ¬ 99 < nI i - 99 := by
  rw [fa_lt, toI_99 (by omega), show (99 : Int32).toInt = 99 by decide]
  omega
theorem gt99y : 99 < nI 199 - 99 := by decide
def mixL (h v : Int64) : Int64 := 31 * h + v
def share (z : Nat → Int32) : UInt64 := if z 0 ≤ 0 then FP.dconst1 else FP.ddiv (FP.i2d (z 9)) (FP.i2d (z 0))
