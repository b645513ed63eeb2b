/-! More pure words: the whole object's looks, its hash, its text. -/
theorem in_02 {k : Nat} (h : k < 3) : inR (nI k) 0 2 := ⟨nI_pos (by omega), nI_le (a := k) (b := 2) (by omega) (by decide)⟩
theorem in_07 {k : Nat} (h : k < 8) : inR (nI k) 0 7 := ⟨nI_pos (by omega), nI_le (a := k) (b := 7) (by omega) (by decide)⟩
theorem in_04 {k : Nat} (h : k < 5) : inR (nI k) 0 4 := ⟨nI_pos (by omega), nI_le (a := k) (b := 4) (by omega) (by decide)⟩
theorem in_01 {k : Nat} (h : k < 2) : inR (nI k) 0 1 := ⟨nI_pos (by omega), nI_le (a := k) (b := 1) (by omega) (by decide)⟩
theorem in_20 {k : Nat} (h : k < 21) : inR (nI k) 0 20 := ⟨nI_pos (by omega), nI_le (a := k) (b := 20) (by omega) (by decide)⟩
def cq (z : Nat → Int32) (n k : Nat) (sz : Int32) (h : Int64) : Nat → Int64
  | 0 => h
  | j + 1 => mixL (cq z n k sz h j) (cnum z n k sz j).toInt64
def mp (z : Nat → Int32) (n p : Nat) (h : Int64) : Nat → Int64
  | 0 => h
  | j + 1 => mixL (mp z n p h j) (pnum z n p j).toInt64
def mqa (z : Nat → Int32) (n : Nat) (h : Int64) : Nat → Int64
  | 0 => h
  | p + 1 => mixL (mp z n p (mqa z n h p) 8) (untilN z p).toInt64
def mr (z : Nat → Int32) (n i : Nat) (h : Int64) : Nat → Int64
  | 0 => h
  | j + 1 => mixL (mr z n i h j) (rnum z n i j).toInt64
def mra (z : Nat → Int32) (n : Nat) (h : Int64) : Nat → Int64
  | 0 => h
  | i + 1 => mr z n i (mra z n h i) 5
def sq (z : Nat → Int32) (h : Int64) : Nat → Int64
  | 0 => h
  | j + 1 => mixL (sq z h j) (z (16 + j)).toInt64
def wq (z : Nat → Int32) (i j k : Nat) (h : Int64) : Nat → Int64
  | 0 => h
  | w + 1 => mixL (wq z i j k h w) (wornN z i j k w).toInt64
def wtr (z zt : Nat → Int32) (i j k : Nat) : Nat → Nat → Int32
  | 0 => zt
  | _ + 1 => wz3 z i j k
def tq (t : Nat → Int32) (h : Int64) : Nat → Int64
  | 0 => h
  | i + 1 => mixL (tq t h i) (t (300 + i)).toInt64
-- the share's bits
def bsx : Nat → UInt64 → UInt64
  | 0, x => x
  | n + 1, x => if 0 ≤ Op.cmpValue (FP.dcmp x FP.dconst1) CmpOp.g then x else bsx n (FP.dmul x 4611686018427387904)
def bse : Nat → UInt64 → Int64 → Int64
  | 0, _, e => e
  | n + 1, x, e => if 0 ≤ Op.cmpValue (FP.dcmp x FP.dconst1) CmpOp.g then e else bse n (FP.dmul x 4611686018427387904) (e - 1)
def bsok : Nat → UInt64 → Prop
  | 0, x => vf_n64 (FP.dsub x FP.dconst1) ∧ vf_n64 (FP.dmul (FP.dsub x FP.dconst1) 4841369599423283200)
  | n + 1, x => if 0 ≤ Op.cmpValue (FP.dcmp x FP.dconst1) CmpOp.g then vf_n64 (FP.dsub x FP.dconst1) ∧ vf_n64 (FP.dmul (FP.dsub x FP.dconst1) 4841369599423283200) else vf_n64 (FP.dmul x 4611686018427387904) ∧ bsok n (FP.dmul x 4611686018427387904)
def bts (d : UInt64) : Int64 := if 0 < Op.cmpValue (FP.dcmp d FP.dconst0) CmpOp.g then (bse 60 d 1023) <<< ((52 : Int32).toInt64 &&& 63) + FP.d2l (FP.dmul (FP.dsub (bsx 60 d) FP.dconst1) 4841369599423283200) else 0
theorem bsx_s {n : Nat} {x : UInt64} (c : ¬ 0 ≤ Op.cmpValue (FP.dcmp x FP.dconst1) CmpOp.g) : bsx (n + 1) x = bsx n (FP.dmul x 4611686018427387904) := if_neg c
theorem bsx_e {n : Nat} {x : UInt64} (c : 0 ≤ Op.cmpValue (FP.dcmp x FP.dconst1) CmpOp.g) : bsx (n + 1) x = x := if_pos c
theorem bse_s {n : Nat} {x : UInt64} {e : Int64} (c : ¬ 0 ≤ Op.cmpValue (FP.dcmp x FP.dconst1) CmpOp.g) : bse (n + 1) x e = bse n (FP.dmul x 4611686018427387904) (e - 1) := if_neg c
theorem bse_e {n : Nat} {x : UInt64} {e : Int64} (c : 0 ≤ Op.cmpValue (FP.dcmp x FP.dconst1) CmpOp.g) : bse (n + 1) x e = e := if_pos c
theorem bsok_s {n : Nat} {x : UInt64} (c : ¬ 0 ≤ Op.cmpValue (FP.dcmp x FP.dconst1) CmpOp.g) (h : bsok (n + 1) x) : vf_n64 (FP.dmul x 4611686018427387904) ∧ bsok n (FP.dmul x 4611686018427387904) := by
  rw [bsok, if_neg c] at h
  exact h
theorem bsok_e {n : Nat} {x : UInt64} (c : 0 ≤ Op.cmpValue (FP.dcmp x FP.dconst1) CmpOp.g) (h : bsok (n + 1) x) : vf_n64 (FP.dsub x FP.dconst1) ∧ vf_n64 (FP.dmul (FP.dsub x FP.dconst1) 4841369599423283200) := by
  rw [bsok, if_pos c] at h
  exact h
def dig0 (z : Nat → Int32) (n k : Nat) (sz : Int32) : Int64 := mra z n (mqa z n (cq z n k sz 3803 21) 6) n
def dig1 (z : Nat → Int32) (n k : Nat) (sz : Int32) : Int64 := wq z 1 1 5 (wq z 0 2 4 (sq z (dig0 z n k sz) 3) 2) 2
def dig2 (z : Nat → Int32) (n k : Nat) (sz : Int32) : Int64 := mixL (mixL (mixL (dig1 z n k sz) (bestN z).toInt64) (nightN z).toInt64) (bts (share z))
def digN (z t : Nat → Int32) (n k : Nat) (sz : Int32) (len : Nat) : Int64 := tq t (mixL (dig2 z n k sz) (t 0).toInt64) len
-- orders
theorem why_key (p q r u : Prop) [Decidable p] [Decidable q] [Decidable r] [Decidable u] : ¬ (if p then (if q then (if r then (if u then (if true = false then (0 : Int32) else 5) else 4) else 3) else 2) else 1) = 0 := by
  by_cases hp : p <;> by_cases hq : q <;> by_cases hr : r <;> by_cases hu : u <;> simp only [hp, hq, hr, hu, if_true, if_false, Bool.true_eq_false] <;> decide
theorem why_lt {z : Nat → Int32} {n k : Nat} (hn : z 10 = nI n) (h4 : n ≤ 40) (h : why z k = 0) : n < 40 := by
  refine Classical.byContradiction fun hc => ?_
  have e : n = 40 := by omega
  subst e
  have hf : full z = true := by
    rw [full, hn]
    decide
  unfold why at h
  rw [hf] at h
  exact absurd h (why_key _ _ _ _)
def rosF (z : Nat → Int32) (n k : Nat) (pt : Int32) : Nat → Int32 := if why z k = 0 then readF z n k else upd (upd (upd z 16 pt) 17 (why z k)) 18 (nI k)
/-- one order, done: kind kd, number v; n readings, the watch lies in pose kk, part q -/
def doF (z : Nat → Int32) (n kk : Nat) (kd v : Int32) (q : Nat) : Nat → Int32 := if kd = 100 then upd z 4 0 else if kd = 103 then upd z 2 v else if kd = 112 then upd z 6 v else if kd = 114 then rosF z n v.toNatClampNeg (nI q) else if kd = 119 then upd z 1 (mn48 (z 1 + v)) else hoursF v.toNatClampNeg z kk
def doB (z : Nat → Int32) (kd v : Int32) : Bool := if kd = 114 then decide (why z v.toNatClampNeg = 0) else true
def cmB (len : Nat) (t : Nat → Int32) : Bool := !decide (scR len (bgn (upd t 1 0)) 0 < nI len) && whole (scF len (bgn (upd t 1 0)) 0)
def cmF (len : Nat) (t : Nat → Int32) : Nat → Int32 := if cmB len t then endF (scF len (bgn (upd t 1 0)) 0) else scF len (bgn (upd t 1 0)) 0
def pn (z : Nat → Int32) : Nat := (z 10).toNatClampNeg
def pk (z : Nat → Int32) : Nat := (z 6).toNatClampNeg
/-- the orders from part q on, m of them: the row behind them, and how many are done -/
def obF (t : Nat → Int32) : Nat → (Nat → Int32) → Nat → Nat → Int32
  | 0, z, _ => z
  | m + 1, z, q => if doB z (t (100 + q)) (t (200 + q)) then obF t m (doF z (pn z) (pk z) (t (100 + q)) (t (200 + q)) q) (q + 1) else doF z (pn z) (pk z) (t (100 + q)) (t (200 + q)) q
def obN (t : Nat → Int32) : Nat → (Nat → Int32) → Nat → Nat
  | 0, _, q => q
  | m + 1, z, q => if doB z (t (100 + q)) (t (200 + q)) then obN t m (doF z (pn z) (pk z) (t (100 + q)) (t (200 + q)) q) (q + 1) else q
def okz (z : Nat → Int32) : Prop := (∃ n, z 10 = nI n ∧ n ≤ 40) ∧ ∃ k, z 6 = nI k ∧ k < 6
/-- what a part of a text that is read is -/
def vtx (t : Nat → Int32) (q : Nat) : Prop := (t (100 + q) = 43 ∨ t (100 + q) = 100 ∨ t (100 + q) = 103 ∨ t (100 + q) = 112 ∨ t (100 + q) = 114 ∨ t (100 + q) = 119) ∧ (t (100 + q) = 112 ∨ t (100 + q) = 114 → ∃ v, t (200 + q) = nI v ∧ v < 6) ∧ (t (100 + q) = 43 → ∃ v, t (200 + q) = nI v ∧ v < 100)
theorem sc_all : ∀ (m : Nat) (t : Nat → Int32) (i : Nat), pinv t i → i + m ≤ 60 → ¬ scR m t i < nI (i + m) → pinv (scF m t i) (i + m)
  | 0, _, _, h, _, _ => h
  | m + 1, t, i, h, h60, hr => by
    cases hc : tkB t (t (300 + i)) with
    | true =>
      rw [scR_yes hc] at hr
      rw [scF_yes hc]
      have e : i + (m + 1) = (i + 1) + m := by omega
      rw [e] at hr ⊢
      exact sc_all m _ (i + 1) (tk_pinv h (by omega) hc) (by omega) hr
    | false =>
      rw [scR_no hc] at hr
      exact absurd (nI_lt (by omega) (by omega)) hr
theorem whole_q {t : Nat → Int32} {i : Nat} (h : pinv t i) (hi : i ≤ 60) (hw : whole t = true) : ∃ q, t 1 = nI q ∧ q < 60 := by
  obtain ⟨q, hq, hq2, hq4⟩ := h
  refine ⟨q, hq, ?_⟩
  by_cases h0 : t 2 = 0
  · have h4 := hq4 h0
    rw [whole, h0, h4] at hw
    exact absurd hw (by decide)
  · rw [if_neg h0] at hq2
    omega
theorem pn_eq {z : Nat → Int32} {n : Nat} (h : z 10 = nI n) (h2 : n ≤ 40) : pn z = n := by rw [pn, h, nI_clamp (by omega)]
theorem pkk_eq {z : Nat → Int32} {k : Nat} (h : z 6 = nI k) (h2 : k < 6) : pk z = k := by rw [pk, h, nI_clamp (by omega)]
theorem scF_0 : ∀ (m : Nat) (t : Nat → Int32) (i : Nat), pinv t i → i + m ≤ 60 → ∀ {v : Int32}, t 0 = v → scF m t i 0 = v
  | 0, _, _, _, _, _, h => h
  | m + 1, t, i, hp, h60, v, h => by
    have e : tkF t (t (300 + i)) 0 = v := (tkF_q 0 (Or.inl rfl) (pinv_lt hp (by omega))).trans h
    cases hc : tkB t (t (300 + i)) with
    | true => rw [scF_yes hc]; exact scF_0 m _ (i + 1) (tk_pinv hp (by omega) hc) (by omega) e
    | false => rw [scF_no hc]; exact e
theorem cm_l {len : Nat} {t : Nat → Int32} (h : scR len (bgn (upd t 1 0)) 0 < nI len) : cmB len t = false := by simp [cmB, h]
theorem cm_n {len : Nat} {t : Nat → Int32} (h : ¬ scR len (bgn (upd t 1 0)) 0 < nI len) (h2 : whole (scF len (bgn (upd t 1 0)) 0) = false) : cmB len t = false := by simp [cmB, h2]
theorem cm_w {len : Nat} {t : Nat → Int32} (h : ¬ scR len (bgn (upd t 1 0)) 0 < nI len) (h2 : whole (scF len (bgn (upd t 1 0)) 0) = true) : cmB len t = true := by simp [cmB, h, h2]
def fst0 (z : Nat → Int32) : Nat → Int32 := upd (upd (upd z 16 (-1)) 17 (-1)) 18 (-1)
theorem okz_of {z z2 : Nat → Int32} (h10 : z2 10 = z 10) (h6 : z2 6 = z 6) (h : okz z) : okz z2 := by
  obtain ⟨⟨n, h1, h2⟩, k, h3, h4⟩ := h
  exact ⟨⟨n, h10.trans h1, h2⟩, k, h6.trans h3, h4⟩
theorem fst0_ok {z : Nat → Int32} (h : okz z) : okz (fst0 z) := okz_of rfl rfl h
theorem readF_10 (z : Nat → Int32) (n k : Nat) : readF z n k 10 = nI n + 1 := by rw [readF, upd_no (by decide), printF, upd_is]
theorem readF_6 (z : Nat → Int32) (n k : Nat) : readF z n k 6 = nI k := by
  rw [readF, upd_no (by decide), printF_q _ _ _ 6 (by decide) (by decide), upd_is]
theorem rosF_ok {z : Nat → Int32} {n k : Nat} {pt : Int32} (h : okz z) (hn : z 10 = nI n) (h4 : n ≤ 40) (hk : k < 6) : okz (rosF z n k pt) := by
  unfold rosF
  split
  · rename_i hw
    have := why_lt hn h4 hw
    exact ⟨⟨n + 1, by rw [readF_10, nI_1], by omega⟩, k, readF_6 z n k, hk⟩
  · exact okz_of rfl rfl h
theorem doF_ok {z t : Nat → Int32} {q : Nat} (h : okz z) (hv : vtx t q) : okz (doF z (pn z) (pk z) (t (100 + q)) (t (200 + q)) q) := by
  obtain ⟨n, hn, h4⟩ := h.1
  unfold doF
  split
  · exact okz_of rfl rfl h
  · split
    · exact okz_of rfl rfl h
    · split
      · rename_i c1
        obtain ⟨v, hv1, hv2⟩ := hv.2.1 (Or.inl c1)
        exact ⟨⟨n, hn, h4⟩, v, hv1, hv2⟩
      · split
        · rename_i c1
          obtain ⟨v, hv1, hv2⟩ := hv.2.1 (Or.inr c1)
          rw [hv1, nI_clamp (by omega), pn_eq hn h4]
          exact rosF_ok h hn h4 hv2
        · split
          · exact okz_of rfl rfl h
          · exact okz_of (hoursF_o _ _ _ 10 (by decide) (by decide)) (hoursF_6 _ _ _) h
theorem obF_y {t z : Nat → Int32} {m q : Nat} (c : doB z (t (100 + q)) (t (200 + q)) = true) : obF t (m + 1) z q = obF t m (doF z (pn z) (pk z) (t (100 + q)) (t (200 + q)) q) (q + 1) := if_pos c
theorem obF_n {t z : Nat → Int32} {m q : Nat} (c : doB z (t (100 + q)) (t (200 + q)) = false) : obF t (m + 1) z q = doF z (pn z) (pk z) (t (100 + q)) (t (200 + q)) q := if_neg (by rw [c]; decide)
theorem obN_y {t z : Nat → Int32} {m q : Nat} (c : doB z (t (100 + q)) (t (200 + q)) = true) : obN t (m + 1) z q = obN t m (doF z (pn z) (pk z) (t (100 + q)) (t (200 + q)) q) (q + 1) := if_pos c
theorem obN_n {t z : Nat → Int32} {m q : Nat} (c : doB z (t (100 + q)) (t (200 + q)) = false) : obN t (m + 1) z q = q := if_neg (by rw [c]; decide)
theorem ntr_6 (z a b : Nat → Int32) : ntr z a 6 = ntr z b 6 := rfl
theorem wtr_0 (z a : Nat → Int32) (i j k : Nat) : wtr z a i j k 0 = a := rfl
