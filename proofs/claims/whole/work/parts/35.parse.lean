/-! The reference's reading of the buffer: pure words. -/
def atT (tx : Nat → Int32) (len i : Nat) : Int32 := if i < len then tx i else 0
theorem at_0 {tx : Nat → Int32} {len i : Nat} (h : len ≤ i) : atT tx len i = 0 := if_neg (by omega)
def rj (b : Bool) (j : Nat) : Int32 := if b then nI j else -1 - nI j
/-- one more character of a number -/
def rnS (tx : Nat → Int32) (len : Nat) (mo : Int32) (j : Nat) (v : Int32) : Bool := inB (atT tx len j) (if v = 0 then 49 else 48) 57 && decide (10 * v + atT tx len j - 48 ≤ mo)
def rnJ (tx : Nat → Int32) (len : Nat) (mo : Int32) : Nat → Nat → Int32 → Nat
  | 0, j, _ => j
  | m + 1, j, v => if rnS tx len mo j v then rnJ tx len mo m (j + 1) (10 * v + atT tx len j - 48) else j
def rnV (tx : Nat → Int32) (len : Nat) (mo : Int32) : Nat → Nat → Int32 → Int32
  | 0, _, v => v
  | m + 1, j, v => if rnS tx len mo j v then rnV tx len mo m (j + 1) (10 * v + atT tx len j - 48) else v
theorem rnJ_y {tx : Nat → Int32} {len m j : Nat} {mo v : Int32} (c : rnS tx len mo j v = true) : rnJ tx len mo (m + 1) j v = rnJ tx len mo m (j + 1) (10 * v + atT tx len j - 48) := if_pos c
theorem rnV_y {tx : Nat → Int32} {len m j : Nat} {mo v : Int32} (c : rnS tx len mo j v = true) : rnV tx len mo (m + 1) j v = rnV tx len mo m (j + 1) (10 * v + atT tx len j - 48) := if_pos c
theorem rnJ_n {tx : Nat → Int32} {len m j : Nat} {mo v : Int32} (c : rnS tx len mo j v = false) : rnJ tx len mo (m + 1) j v = j := if_neg (by rw [c]; decide)
theorem rnV_n {tx : Nat → Int32} {len m j : Nat} {mo v : Int32} (c : rnS tx len mo j v = false) : rnV tx len mo (m + 1) j v = v := if_neg (by rw [c]; decide)
/-- a number from place i on: is there one, where it ends, its value -/
def nuV (tx : Nat → Int32) (len : Nat) (mo : Int32) (i : Nat) : Int32 := rnV tx len mo (61 - i) i 0
def nuJ (tx : Nat → Int32) (len : Nat) (mo : Int32) (i : Nat) : Nat := rnJ tx len mo (61 - i) i 0
def nuO (tx : Nat → Int32) (len : Nat) (mo : Int32) (i : Nat) : Bool := !decide (nuV tx len mo i = 0)
/-- a pose -/
def poO (tx : Nat → Int32) (len i : Nat) : Bool := inB (atT tx len i - 48) 0 5
def poJ (tx : Nat → Int32) (len i : Nat) : Nat := if poO tx len i then i + 1 else i
/-- a regulator -/
def ruI (tx : Nat → Int32) (len i : Nat) : Nat := if atT tx len i = 45 then i + 1 else i
def ruO (tx : Nat → Int32) (len i : Nat) : Bool := if atT tx len i = 48 then true else nuO tx len 99 (ruI tx len i)
def ruJ (tx : Nat → Int32) (len i : Nat) : Nat := if atT tx len i = 48 then i + 1 else nuJ tx len 99 (ruI tx len i)
def ruV (tx : Nat → Int32) (len i : Nat) : Int32 := if atT tx len i = 48 then 0 else if atT tx len i = 45 then -(nuV tx len 99 (ruI tx len i)) else nuV tx len 99 (ruI tx len i)
/-- a part: letter and number in a row of fields -/
def rpO (tx : Nat → Int32) (len i : Nat) : Bool := if atT tx len i = 43 then nuO tx len 99 (i + 1) else if atT tx len i = 100 then true else if atT tx len i = 103 then ruO tx len (i + 1) else if atT tx len i = 112 then poO tx len (i + 1) else if atT tx len i = 114 then poO tx len (i + 1) else if atT tx len i = 119 then nuO tx len 48 (i + 1) else false
def rpJ (tx : Nat → Int32) (len i : Nat) : Nat := if atT tx len i = 43 then nuJ tx len 99 (i + 1) else if atT tx len i = 100 then i + 1 else if atT tx len i = 103 then ruJ tx len (i + 1) else if atT tx len i = 112 then poJ tx len (i + 1) else if atT tx len i = 114 then poJ tx len (i + 1) else if atT tx len i = 119 then nuJ tx len 48 (i + 1) else i
def rpY (tx : Nat → Int32) (len i : Nat) (y : Nat → Int32) : Nat → Int32 := if atT tx len i = 43 then upd (upd y 4 (atT tx len i)) 5 (nuV tx len 99 (i + 1)) else if atT tx len i = 100 then upd y 4 (atT tx len i) else if atT tx len i = 103 then upd (upd y 4 (atT tx len i)) 5 (ruV tx len (i + 1)) else if atT tx len i = 112 then upd (upd y 4 (atT tx len i)) 5 (atT tx len (i + 1) - 48) else if atT tx len i = 114 then upd (upd y 4 (atT tx len i)) 5 (atT tx len (i + 1) - 48) else if atT tx len i = 119 then upd (upd y 4 (atT tx len i)) 5 (nuV tx len 48 (i + 1)) else upd y 4 (atT tx len i)
theorem rj_y {b : Bool} {j : Nat} (h : b = true) : rj b j = nI j := by rw [h]; rfl
theorem rj_n {b : Bool} {j : Nat} (h : b = false) : rj b j = -1 - nI j := by rw [h]; rfl
theorem gt_f {a b : Int32} (c : a < b) : decide (b ≤ a) = false := decide_eq_false (fun h => by rw [fa_lt] at c; rw [fa_le] at h; omega)
theorem gt_t {a b : Int32} (c : ¬ a < b) : decide (b ≤ a) = true := decide_eq_true (by rw [fa_lt] at c; rw [fa_le]; omega)
theorem atT_lt {tx : Nat → Int32} {len i : Nat} {v : Int32} (c : atT tx len i = v) (hv : ¬ v = 0) : i < len := by
  refine Classical.byContradiction fun h => hv ?_
  rw [← c, at_0 (by omega)]
