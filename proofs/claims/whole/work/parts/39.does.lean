/-! What a part does, on the reference's side. -/
def vtY (kd v : Int32) : Prop := (kd = 43 ∨ kd = 100 ∨ kd = 103 ∨ kd = 112 ∨ kd = 114 ∨ kd = 119) ∧ (kd = 112 ∨ kd = 114 → ∃ u, v = nI u ∧ u < 6) ∧ (kd = 43 → ∃ u, v = nI u ∧ u < 100)
/-- the number of a part -/
def rpV (tx : Nat → Int32) (len i : Nat) : Int32 := if atT tx len i = 43 then nuV tx len 99 (i + 1) else if atT tx len i = 103 then ruV tx len (i + 1) else if atT tx len i = 112 then atT tx len (i + 1) - 48 else if atT tx len i = 114 then atT tx len (i + 1) - 48 else if atT tx len i = 119 then nuV tx len 48 (i + 1) else 0
/-- the orders from place i on: the row behind them, how many are done -/
def rbF (tx : Nat → Int32) (len : Nat) : Nat → Nat → (Nat → Int32) → Nat → Nat → Int32
  | 0, _, z, _ => z
  | m + 1, i, z, q => if i < len then (if doB z (atT tx len i) (rpV tx len i) then rbF tx len m (rpJ tx len i + 1) (doF z (pn z) (pk z) (atT tx len i) (rpV tx len i) q) (q + 1) else doF z (pn z) (pk z) (atT tx len i) (rpV tx len i) q) else z
def rbN (tx : Nat → Int32) (len : Nat) : Nat → Nat → (Nat → Int32) → Nat → Nat
  | 0, _, _, q => q
  | m + 1, i, z, q => if i < len then (if doB z (atT tx len i) (rpV tx len i) then rbN tx len m (rpJ tx len i + 1) (doF z (pn z) (pk z) (atT tx len i) (rpV tx len i) q) (q + 1) else q) else q
