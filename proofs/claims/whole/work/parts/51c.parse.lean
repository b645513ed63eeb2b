/-! The orders' text, read a character at a time (the class) and a part at a time (the reference). -/
theorem add_sub48 (a c : Int32) : a + (c - 48) = a + c - 48 := by rw [Int32.sub_eq_add_neg, Int32.sub_eq_add_neg, Int32.add_assoc]
def St (t : Nat → Int32) (kd ng : Int32) (dg : Nat) (v : Int32) : Prop := t 2 = kd ∧ t 3 = ng ∧ t 4 = nI dg ∧ t 5 = v
def Eq5 (t t0 : Nat → Int32) : Prop := ∀ k, ¬ (2 ≤ k ∧ k ≤ 5) → t k = t0 k
theorem Eq5.rf {t : Nat → Int32} : Eq5 t t := fun _ _ => rfl
theorem Eq5.tr {a b c : Nat → Int32} (h1 : Eq5 a b) (h2 : Eq5 b c) : Eq5 a c := fun k h => (h1 k h).trans (h2 k h)
/-- k characters from i on are taken -/
def runs : (Nat → Int32) → Nat → Nat → (Nat → Int32) → Prop
  | t, _, 0, t' => t' = t
  | t, i, k + 1, t' => tkB t (t (300 + i)) = true ∧ runs (tkF t (t (300 + i))) (i + 1) k t'
theorem runs_app : ∀ {k k2 : Nat} {t t' t2 : Nat → Int32} {i : Nat}, runs t i k t' → runs t' (i + k) k2 t2 → runs t i (k + k2) t2
  | 0, k2, t, t', t2, i, h1, h2 => by
    have h1 : t' = t := h1
    subst h1
    rw [Nat.zero_add]
    exact h2
  | k + 1, k2, t, t', t2, i, h1, h2 => by
    rw [show k + 1 + k2 = (k + k2) + 1 by omega]
    exact ⟨h1.1, runs_app h1.2 (by rw [show i + 1 + k = i + (k + 1) by omega]; exact h2)⟩
theorem runs_1 {t : Nat → Int32} {i : Nat} (h : tkB t (t (300 + i)) = true) : runs t i 1 (tkF t (t (300 + i))) := ⟨h, rfl⟩
theorem runs_sc : ∀ {k m : Nat} {t t' : Nat → Int32} {i : Nat}, runs t i k t' → scR (k + m) t i = scR m t' (i + k) ∧ scF (k + m) t i = scF m t' (i + k)
  | 0, m, t, t', i, h => by
    have h : t' = t := h
    subst h
    rw [Nat.zero_add]
    exact ⟨rfl, rfl⟩
  | k + 1, m, t, t', i, h => by
    have h2 := runs_sc (m := m) h.2
    rw [show k + 1 + m = (k + m) + 1 by omega, scR_yes h.1, scF_yes h.1, show i + (k + 1) = i + 1 + k by omega]
    exact h2
theorem tk_no {t : Nat → Int32} {c : Int32} (h : tkB t c = false) : tkF t c = t := by
  unfold tkB at h
  unfold tkF
  split
  · rename_i c1
    rw [if_pos c1] at h
    rw [kF, h]; rfl
  · rename_i c1
    rw [if_neg c1] at h
    split
    · rename_i c2
      rw [if_pos c2] at h
      rw [sF, h]; rfl
    · rename_i c2
      rw [if_neg c2] at h
      split
      · rename_i c3
        rw [if_pos c3] at h
        rw [mF, h]; rfl
      · rename_i c3
        rw [if_neg c3] at h
        rw [dF, h]; rfl
section PARSE
variable {t t0 tx : Nat → Int32} {len i j q dg : Nat} {kd ng v c mo : Int32}
theorem step_k (h : St t 0 0 0 0) (hc : isK c = true) : tkB t c = true ∧ St (tkF t c) c 0 0 0 ∧ Eq5 (tkF t c) t := by
  obtain ⟨h2, h3, h4, h5⟩ := h
  have e : tkF t c = upd t 2 c := by rw [tkF, if_pos h2, kF, hc]; rfl
  refine ⟨by rw [tkB, if_pos h2]; exact hc, ?_, ?_⟩
  · rw [e]; exact ⟨upd_is _ _ _, (upd_no (by decide)).trans h3, (upd_no (by decide)).trans h4, (upd_no (by decide)).trans h5⟩
  · rw [e]; exact fun k hk => upd_no (by omega)
theorem step_m (h : St t 103 0 0 0) : tkB t 45 = true ∧ St (tkF t 45) 103 1 0 0 ∧ Eq5 (tkF t 45) t := by
  obtain ⟨h2, h3, h4, h5⟩ := h
  have hm : mB t = true := by rw [mB, h2, h3, h4]; decide
  have n0 : ¬ t 2 = 0 := by rw [h2]; decide
  have e : tkF t 45 = upd t 3 1 := by rw [tkF, if_neg n0, if_neg (by decide), if_pos rfl, mF, hm]; rfl
  refine ⟨by rw [tkB, if_neg n0, if_neg (by decide), if_pos rfl]; exact hm, ?_, ?_⟩
  · rw [e]; exact ⟨(upd_no (by decide)).trans h2, upd_is _ _ _, (upd_no (by decide)).trans h4, (upd_no (by decide)).trans h5⟩
  · rw [e]; exact fun k hk => upd_no (by omega)
theorem step_d (h : St t kd ng dg v) (h0 : ¬ kd = 0) (c1 : ¬ c = 59) (c2 : ¬ c = 45) (hd : dB t (c - 48) = true) : tkB t c = true ∧ St (tkF t c) kd ng (dg + 1) (10 * v + c - 48) ∧ Eq5 (tkF t c) t := by
  obtain ⟨h2, h3, h4, h5⟩ := h
  have n0 : ¬ t 2 = 0 := by rw [h2]; exact h0
  have e : tkF t c = upd (upd t 4 (t 4 + 1)) 5 (10 * t 5 + (c - 48)) := by rw [tkF, if_neg n0, if_neg c1, if_neg c2, dF, hd]; rfl
  refine ⟨by rw [tkB, if_neg n0, if_neg c1, if_neg c2]; exact hd, ?_, ?_⟩
  · rw [e]
    exact ⟨(upd_no (by decide)).trans ((upd_no (by decide)).trans h2), (upd_no (by decide)).trans ((upd_no (by decide)).trans h3), by rw [upd_no (by decide), upd_is, h4]; exact nI_1 dg, by rw [upd_is, h5, add_sub48]⟩
  · rw [e]; exact fun k hk => (upd_no (by omega)).trans (upd_no (by omega))
theorem lst_of (h : St t kd ng dg v) : lst t = if kd = 119 then 1 else if kd = 43 then 1 else if ng = 0 then 0 else 1 := by rw [lst, h.1, h.2.1]
theorem mst_of (h : St t kd ng dg v) : mst t = if kd = 43 then 99 else if kd = 103 then 99 else if kd = 112 then 5 else if kd = 114 then 5 else if kd = 119 then 48 else -1 := by rw [mst, h.1]
theorem whole_of (h : St t kd ng dg v) (hd : dg < 1000) (h0 : ¬ kd = 100) : whole t = !decide (dg = 0) := by
  rw [whole, h.1, h.2.2.1, decide_eq_false h0, Bool.false_or]
  congr 1
  rw [decide_eq_decide, fa_le, nI_toInt (by omega), show (0 : Int32).toInt = 0 by decide]
  omega
/-- one more digit, on both sides -/
theorem dig_eq (h : St t kd ng dg v) (hd : dg < 1000) (hv : 0 ≤ v.toInt ∧ v.toInt ≤ 99) (hz : v = 0 ↔ dg = 0) (hl : lst t = 1 ∨ lst t = 0 ∧ (v = 0 → ¬ c = 48)) (hm : mst t = mo) (hc : inR c 33 126) : dB t (c - 48) = (inB c (if v = 0 then 49 else 48) 57 && decide (10 * v + c - 48 ≤ mo)) := by
  have hc2 := inR_I hc
  rw [show (33 : Int32).toInt = 33 by decide, show (126 : Int32).toInt = 126 by decide] at hc2
  have c10 : (10 : Int32).toInt = 10 := by decide
  have c48 : (48 : Int32).toInt = 48 := by decide
  have c0 : (0 : Int32).toInt = 0 := by decide
  have e1 : (10 * v).toInt = 10 * v.toInt := by rw [fb_mulI (by rw [c10]; omega) (by rw [c10]; omega), c10]
  have e2 : (10 * v + c).toInt = 10 * v.toInt + c.toInt := by rw [fb_addI (by rw [e1]; omega) (by rw [e1]; omega), e1]
  have e3 : (10 * v + c - 48).toInt = 10 * v.toInt + c.toInt - 48 := by rw [fb_subI (by rw [e2, c48]; omega) (by rw [e2, c48]; omega), e2, c48]
  have e4 : (c - 48).toInt = c.toInt - 48 := by rw [fb_subI (by rw [c48]; omega) (by rw [c48]; omega), c48]
  have hdI : (t 4).toInt = dg := by rw [h.2.2.1, nI_toInt (by omega)]
  have hv0 : v = 0 ↔ v.toInt = 0 := by
    constructor
    · intro e; rw [e]; decide
    · intro e; apply Int32.toInt_inj.mp; rw [e]; decide
  rw [dB, h.2.2.2, hm, add_sub48]
  by_cases v0 : v = 0
  · have d0 : dg = 0 := hz.mp v0
    have v0I := hv0.mp v0
    rw [if_pos v0]
    rw [Bool.eq_iff_iff]
    simp only [inB, Bool.and_eq_true, Bool.not_eq_true', decide_eq_true_eq, decide_eq_false_iff_not, Bool.and_eq_false_iff, Bool.not_eq_false', fa_lt, fa_le, e3, e4, hdI, c0, show (9 : Int32).toInt = 9 by decide, show (49 : Int32).toInt = 49 by decide, show (57 : Int32).toInt = 57 by decide]
    rcases hl with hl | ⟨hl, hl2⟩
    · rw [hl, show (1 : Int32).toInt = 1 by decide]
      constructor
      · rintro ⟨a1, a2, a3, a4, a5⟩; exact ⟨⟨by omega, by omega⟩, a5⟩
      · rintro ⟨⟨a1, a2⟩, a3⟩; exact ⟨by omega, by omega, Or.inl (by omega), by omega, a3⟩
    · have hc48 : ¬ c.toInt = 48 := fun e => hl2 v0 (Int32.toInt_inj.mp (e.trans c48.symm))
      rw [hl, c0]
      constructor
      · rintro ⟨a1, a2, a3, a4, a5⟩; exact ⟨⟨by omega, by omega⟩, a5⟩
      · rintro ⟨⟨a1, a2⟩, a3⟩; exact ⟨by omega, by omega, Or.inl (by omega), by omega, a3⟩
  · have v0I : ¬ v.toInt = 0 := fun e => v0 (hv0.mpr e)
    rw [if_neg v0]
    rw [Bool.eq_iff_iff]
    simp only [inB, Bool.and_eq_true, Bool.not_eq_true', decide_eq_true_eq, decide_eq_false_iff_not, Bool.and_eq_false_iff, Bool.not_eq_false', fa_lt, fa_le, e3, e4, hdI, c0, show (9 : Int32).toInt = 9 by decide, show (48 : Int32).toInt = 48 by decide, show (57 : Int32).toInt = 57 by decide]
    have hl3 : (lst t).toInt ≤ 1 := by rcases hl with hl | ⟨hl, -⟩ <;> rw [hl] <;> decide
    constructor
    · rintro ⟨a1, a2, a3, a4, a5⟩; exact ⟨⟨by omega, by omega⟩, a5⟩
    · rintro ⟨⟨a1, a2⟩, a3⟩; exact ⟨by omega, by omega, Or.inr v0, by omega, a3⟩
theorem rn_stop : ∀ (m j : Nat) (v : Int32), len < j + m → rnS tx len mo (rnJ tx len mo m j v) (rnV tx len mo m j v) = false
  | 0, j, v, h => by
    cases c : rnS tx len mo j v with
    | false => exact c
    | true => exact absurd (rnS_lt c) (by omega)
  | m + 1, j, v, h => by
    cases c : rnS tx len mo j v with
    | true => rw [rnJ_y c, rnV_y c]; exact rn_stop m (j + 1) _ (by omega)
    | false => rw [rnJ_n c, rnV_n c]; exact c
/-- the digits of a number -/
theorem num_run (hl6 : len ≤ 60) (hk0 : ¬ kd = 0) (hmo : 0 ≤ mo.toInt ∧ mo.toInt ≤ 99) (htx : ∀ j, j < len → inR (tx j) 33 126) : ∀ (m j : Nat) (v : Int32) (dg : Nat) (t : Nat → Int32), St t kd ng dg v → dg ≤ j → j ≤ len → rng v 0 mo.toInt → (v = 0 ↔ dg = 0) → (lst t = 1 ∨ lst t = 0 ∧ (v = 0 → ¬ atT tx len j = 48)) → mst t = mo → (∀ j, j < len → t (300 + j) = tx j) →
    ∃ k t' d2, j + k = rnJ tx len mo m j v ∧ runs t j k t' ∧ St t' kd ng d2 (rnV tx len mo m j v) ∧ d2 + j = rnJ tx len mo m j v + dg ∧ (rnV tx len mo m j v = 0 ↔ d2 = 0) ∧ Eq5 t' t
  | 0, j, v, dg, t, h, hdj, hj, hv, hz, hl, hm, hcd => ⟨0, t, dg, rfl, rfl, h, Nat.add_comm _ _, hz, Eq5.rf⟩
  | m + 1, j, v, dg, t, h, hdj, hj, hv, hz, hl, hm, hcd => by
    cases hc : rnS tx len mo j v with
    | false =>
      rw [rnJ_n hc, rnV_n hc]
      exact ⟨0, t, dg, rfl, rfl, h, Nat.add_comm _ _, hz, Eq5.rf⟩
    | true =>
      have hlt := rnS_lt hc
      have ea : atT tx len j = tx j := if_pos hlt
      have eq := hc
      rw [rnS, ea] at eq
      have hdig : dB t (tx j - 48) = true := by
        rw [dig_eq h (by omega) ⟨hv.1, by have := hv.2; omega⟩ hz (by rw [ea] at hl; exact hl) hm (htx j hlt)]
        exact eq
      rw [Bool.and_eq_true] at eq
      have r := inB_r eq.1
      have c3 := of_decide_eq_true eq.2
      have lo : 48 ≤ (if v = 0 then (49 : Int32) else 48).toInt := by split <;> decide
      have c57 : (57 : Int32).toInt = 57 := by decide
      have c10 : (10 : Int32).toInt = 10 := by decide
      have c48 : (48 : Int32).toInt = 48 := by decide
      obtain ⟨hv1, hv2⟩ := hv
      have e1 : (10 * v).toInt = 10 * v.toInt := by rw [fb_mulI (by rw [c10]; omega) (by rw [c10]; omega), c10]
      have e2 : (10 * v + tx j).toInt = 10 * v.toInt + (tx j).toInt := by rw [fb_addI (by rw [e1]; omega) (by rw [e1]; omega), e1]
      have e3 : (10 * v + tx j - 48).toInt = 10 * v.toInt + (tx j).toInt - 48 := by rw [fb_subI (by rw [e2, c48]; omega) (by rw [e2, c48]; omega), e2, c48]
      have n59 : ¬ tx j = 59 := fun e => by rw [e, show (59 : Int32).toInt = 59 by decide] at r; omega
      have n45 : ¬ tx j = 45 := fun e => by rw [e, show (45 : Int32).toInt = 45 by decide] at r; omega
      obtain ⟨s1, s2, s3⟩ := step_d h hk0 n59 n45 hdig
      have hne : ¬ 10 * v + tx j - 48 = 0 := by
        intro e
        have e0 := congrArg Int32.toInt e
        rw [e3, show (0 : Int32).toInt = 0 by decide] at e0
        by_cases v0 : v = 0
        · rw [if_pos v0, show (49 : Int32).toInt = 49 by decide] at r
          omega
        · have : ¬ v.toInt = 0 := fun e => v0 (Int32.toInt_inj.mp (e.trans (by decide)))
          omega
      rw [fa_le, e3] at c3
      have hst2 : ∀ k, 300 ≤ k → tkF t (tx j) k = t k := fun k hk => s3 k (by omega)
      have el : lst (tkF t (tx j)) = lst t := by rw [lst_of s2, lst_of h]
      have em : mst (tkF t (tx j)) = mst t := by rw [mst_of s2, mst_of h]
      obtain ⟨k, t', d2, a1, a2, a3, a4, a5, a6⟩ := num_run hl6 hk0 hmo htx m (j + 1) (10 * v + tx j - 48) (dg + 1) (tkF t (tx j)) s2 (by omega) hlt ⟨by rw [e3]; omega, by rw [e3]; omega⟩ ⟨fun e => absurd e hne, fun e => by omega⟩ (by
        rw [el]
        rcases hl with hl | ⟨hl, -⟩
        · exact Or.inl hl
        · exact Or.inr ⟨hl, fun e => absurd e hne⟩) (em.trans hm) (fun j2 hj2 => (hst2 _ (by omega)).trans (hcd j2 hj2))
      rw [rnJ_y hc, rnV_y hc, ea]
      refine ⟨k + 1, t', d2, by omega, ?_, a3, by omega, a5, a6.tr s3⟩
      have e300 := hcd j hlt
      refine ⟨by rw [e300]; exact s1, ?_⟩
      rw [e300]
      exact a2
theorem mB_no (h : St t kd ng dg v) (hd : dg < 1000) (hx : ¬ kd = 103 ∨ ¬ ng = 0 ∨ ¬ dg = 0) : mB t = false := by
  rw [mB, h.1, h.2.1, h.2.2.1]
  rcases hx with hx | hx | hx
  · rw [decide_eq_false hx]; rfl
  · rw [decide_eq_false hx, Bool.false_and, Bool.and_false]
  · rw [decide_eq_false (p := nI dg ≤ 0) (by rw [fa_le, nI_toInt (by omega), show (0 : Int32).toInt = 0 by decide]; omega), Bool.and_false, Bool.and_false]
/-- behind a number nothing is taken but a semicolon -/
theorem no_next {J d2 : Nat} {V : Int32} (h : St t kd ng d2 V) (hk0 : ¬ kd = 0) (hd : d2 < 1000) (hv : 0 ≤ V.toInt ∧ V.toInt ≤ 99) (hz : V = 0 ↔ d2 = 0) (hl : lst t = 1 ∨ lst t = 0 ∧ (V = 0 → ¬ tx J = 48)) (hm : mst t = mo) (hJ : J < len) (hc : inR (tx J) 33 126) (hs : rnS tx len mo J V = false) (hmB : tx J = 45 → mB t = false) (hw : whole t = true → ¬ tx J = 59) : tkB t (tx J) = false := by
  rw [tkB, if_neg (by rw [h.1]; exact hk0)]
  split
  · rename_i c1
    cases hw2 : whole t
    · rfl
    · exact absurd c1 (hw hw2)
  · split
    · rename_i c1 c2; exact hmB c2
    · rw [dig_eq h hd hv hz hl hm hc]
      rw [rnS, show atT tx len J = tx J from if_pos hJ] at hs
      exact hs
def PE (tx : Nat → Int32) (len i : Nat) (t t' : Nat → Int32) (k : Nat) : Prop := i + k = rpJ tx len i ∧ runs t i k t' ∧ Eq5 t' t ∧ whole t' = rpO tx len i ∧ (rpJ tx len i < len → (rpO tx len i = true → ¬ tx (rpJ tx len i) = 59) → tkB t' (tx (rpJ tx len i)) = false) ∧ (rpO tx len i = true → t' 2 = atT tx len i ∧ ¬ t' 2 = 0 ∧ (if t' 3 = 0 then t' 5 else -(t' 5)) = rpV tx len i)
/-- a kind with a number of its own: plus and wind -/
theorem part_num (hl6 : len ≤ 60) (htx : ∀ j, j < len → inR (tx j) 33 126) (hcd : ∀ j, j < len → t (300 + j) = tx j) (h : St t 0 0 0 0) (hk : atT tx len i = kd) (hkk : kd = 43 ∨ kd = 119) (hmo : mo = if kd = 43 then 99 else 48) (hJ : rpJ tx len i = nuJ tx len mo (i + 1)) (hO : rpO tx len i = nuO tx len mo (i + 1)) (hV : rpV tx len i = nuV tx len mo (i + 1)) : ∃ k t', PE tx len i t t' k := by
  have hk0 : ¬ kd = 0 := by rcases hkk with rfl | rfl <;> decide
  have hk100 : ¬ kd = 100 := by rcases hkk with rfl | rfl <;> decide
  have hk103 : ¬ kd = 103 := by rcases hkk with rfl | rfl <;> decide
  have hi := atT_lt hk hk0
  have ex : tx i = kd := by rw [← hk]; exact (if_pos hi).symm
  have hisK : isK kd = true := by rcases hkk with rfl | rfl <;> decide
  have hmo2 : 0 ≤ mo.toInt ∧ mo.toInt ≤ 99 := by rw [hmo]; rcases hkk with rfl | rfl <;> decide
  obtain ⟨s1, s2, s3⟩ := step_k h hisK
  have hlst : lst (tkF t kd) = 1 := by rw [lst_of s2]; rcases hkk with rfl | rfl <;> decide
  have hmst : mst (tkF t kd) = mo := by rw [mst_of s2, hmo]; rcases hkk with rfl | rfl <;> decide
  obtain ⟨k, t', d2, a1, a2, a3, a4, a5, a6⟩ := num_run (tx := tx) hl6 hk0 hmo2 htx (61 - (i + 1)) (i + 1) 0 0 (tkF t kd) s2 (by omega) hi ⟨by decide, by rw [show (0 : Int32).toInt = 0 by decide]; exact hmo2.1⟩ ⟨fun _ => rfl, fun _ => rfl⟩ (Or.inl hlst) hmst (fun j hj => (s3 _ (by omega)).trans (hcd j hj))
  have hb := nuJ_b (tx := tx) (mo := mo) (show i + 1 ≤ len from hi)
  have hVr := nuV_b (tx := tx) (len := len) (i := i + 1) hmo2
  change i + 1 + k = nuJ tx len mo (i + 1) at a1
  change St t' kd 0 d2 (nuV tx len mo (i + 1)) at a3
  change d2 + (i + 1) = nuJ tx len mo (i + 1) + 0 at a4
  change nuV tx len mo (i + 1) = 0 ↔ d2 = 0 at a5
  have hd2 : d2 < 1000 := by omega
  have hw : whole t' = nuO tx len mo (i + 1) := by
    rw [whole_of a3 hd2 hk100, nuO]
    congr 1
    rw [decide_eq_decide]
    exact a5.symm
  refine ⟨1 + k, t', by rw [hJ]; omega, runs_app (t' := tkF t kd) ?_ a2, a6.tr s3, by rw [hw, hO], fun hlt hn => ?_, fun ho => ?_⟩
  · have := runs_1 (t := t) (i := i) (by rw [hcd i hi, ex]; exact s1)
    rw [hcd i hi, ex] at this
    exact this
  · rw [hJ] at hlt hn ⊢
    exact no_next a3 hk0 hd2 ⟨hVr.1, by have := hVr.2; omega⟩ a5 (Or.inl (by rw [lst_of a3, ← lst_of s2]; exact hlst)) (by rw [mst_of a3, ← mst_of s2]; exact hmst) hlt (htx _ hlt) (rn_stop _ _ _ (by omega)) (fun _ => mB_no a3 hd2 (Or.inl hk103)) (fun e => hn (by rw [hO, ← hw]; exact e))
  · rw [hk, hV, a3.1, a3.2.1, a3.2.2.2]
    exact ⟨rfl, hk0, if_pos rfl⟩
/-- a kind with a pose: lie and read -/
theorem part_pose (hl6 : len ≤ 60) (htx : ∀ j, j < len → inR (tx j) 33 126) (hcd : ∀ j, j < len → t (300 + j) = tx j) (h : St t 0 0 0 0) (hk : atT tx len i = kd) (hkk : kd = 112 ∨ kd = 114) (hJ : rpJ tx len i = poJ tx len (i + 1)) (hO : rpO tx len i = poO tx len (i + 1)) (hV : rpV tx len i = atT tx len (i + 1) - 48) : ∃ k t', PE tx len i t t' k := by
  have hk0 : ¬ kd = 0 := by rcases hkk with rfl | rfl <;> decide
  have hk100 : ¬ kd = 100 := by rcases hkk with rfl | rfl <;> decide
  have hk103 : ¬ kd = 103 := by rcases hkk with rfl | rfl <;> decide
  have hi := atT_lt hk hk0
  have ex : tx i = kd := by rw [← hk]; exact (if_pos hi).symm
  have hisK : isK kd = true := by rcases hkk with rfl | rfl <;> decide
  obtain ⟨s1, s2, s3⟩ := step_k h hisK
  have hlst : lst (tkF t kd) = 0 := by rw [lst_of s2]; rcases hkk with rfl | rfl <;> decide
  have hmst : mst (tkF t kd) = 5 := by rw [mst_of s2]; rcases hkk with rfl | rfl <;> decide
  have r1 : runs t i 1 (tkF t kd) := by
    have := runs_1 (t := t) (i := i) (by rw [hcd i hi, ex]; exact s1)
    rw [hcd i hi, ex] at this
    exact this
  have c0 : (0 : Int32).toInt = 0 := by decide
  have c48 : (48 : Int32).toInt = 48 := by decide
  have c5 : (5 : Int32).toInt = 5 := by decide
  have c9 : (9 : Int32).toInt = 9 := by decide
  have c10 : (10 : Int32).toInt = 10 := by decide
  cases hp : poO tx len (i + 1) with
  | true =>
    have r := inB_r hp
    have h1 : i + 1 < len := by
      refine Classical.byContradiction fun hno => ?_
      rw [poO, at_0 (by omega)] at hp
      exact absurd hp (by decide)
    have ea : atT tx len (i + 1) = tx (i + 1) := if_pos h1
    have hc1 := inR_I (htx _ h1)
    rw [show (33 : Int32).toInt = 33 by decide, show (126 : Int32).toInt = 126 by decide] at hc1
    have e4 : (tx (i + 1) - 48).toInt = (tx (i + 1)).toInt - 48 := by rw [fb_subI (by rw [c48]; omega) (by rw [c48]; omega), c48]
    rw [ea, e4, c0, c5] at r
    have n59 : ¬ tx (i + 1) = 59 := fun e => by rw [e, show (59 : Int32).toInt = 59 by decide] at r; omega
    have n45 : ¬ tx (i + 1) = 45 := fun e => by rw [e, show (45 : Int32).toInt = 45 by decide] at r; omega
    have hdig : dB (tkF t kd) (tx (i + 1) - 48) = true := by
      have e0 : 10 * (0 : Int32) + (tx (i + 1) - 48) = tx (i + 1) - 48 := by rw [show 10 * (0 : Int32) = 0 by decide, Int32.zero_add]
      rw [dB, s2.2.2.2, s2.2.2.1, hlst, hmst, e0]
      simp only [Bool.and_eq_true, Bool.not_eq_true', decide_eq_true_eq, decide_eq_false_iff_not, Bool.and_eq_false_iff, Bool.not_eq_false', fa_lt, fa_le, e4, c0, c5, c9]
      exact ⟨by omega, by omega, Or.inl (by decide), by omega, by omega⟩
    obtain ⟨q1, q2, q3⟩ := step_d s2 hk0 n59 n45 hdig
    have e0 : 10 * (0 : Int32) + tx (i + 1) - 48 = tx (i + 1) - 48 := by rw [show 10 * (0 : Int32) = 0 by decide, Int32.zero_add]
    rw [e0] at q2
    have eJ : rpJ tx len i = i + 2 := by rw [hJ, poJ, hp]; rfl
    have e301 : tkF t kd (300 + (i + 1)) = tx (i + 1) := (s3 _ (by omega)).trans (hcd _ h1)
    have hw : whole (tkF (tkF t kd) (tx (i + 1))) = true := by rw [whole_of q2 (by omega) hk100]; rfl
    refine ⟨2, tkF (tkF t kd) (tx (i + 1)), by rw [eJ], runs_app (k := 1) (k2 := 1) r1 ?_, q3.tr s3, by rw [hw, hO, hp], fun hlt hn => ?_, fun ho => ?_⟩
    · have := runs_1 (t := tkF t kd) (i := i + 1) (by rw [e301]; exact q1)
      rw [e301] at this
      exact this
    · rw [eJ] at hlt hn ⊢
      have hc2 := inR_I (htx _ hlt)
      rw [show (33 : Int32).toInt = 33 by decide, show (126 : Int32).toInt = 126 by decide] at hc2
      rw [tkB, if_neg (by rw [q2.1]; exact hk0), if_neg (hn (by rw [hO, hp]))]
      split
      · exact mB_no q2 (by omega) (Or.inl hk103)
      · rw [dB, q2.2.2.2, q2.2.2.1, show mst (tkF (tkF t kd) (tx (i + 1))) = 5 by rw [mst_of q2, ← mst_of s2]; exact hmst]
        have e5 : (tx (i + 2) - 48).toInt = (tx (i + 2)).toInt - 48 := by rw [fb_subI (by rw [c48]; omega) (by rw [c48]; omega), c48]
        have e6 : (10 * (tx (i + 1) - 48)).toInt = 10 * ((tx (i + 1)).toInt - 48) := by rw [fb_mulI (by rw [c10, e4]; omega) (by rw [c10, e4]; omega), c10, e4]
        have e7 : (10 * (tx (i + 1) - 48) + (tx (i + 2) - 48)).toInt = 10 * ((tx (i + 1)).toInt - 48) + ((tx (i + 2)).toInt - 48) := by rw [fb_addI (by rw [e6, e5]; omega) (by rw [e6, e5]; omega), e6, e5]
        rw [Bool.eq_false_iff]
        simp only [ne_eq, Bool.and_eq_true, Bool.not_eq_true', decide_eq_true_eq, decide_eq_false_iff_not, Bool.and_eq_false_iff, Bool.not_eq_false', fa_lt, fa_le, e7, e5, c0, c5, c9]
        rintro ⟨a1, a2, a3, a4, a5⟩
        rcases a3 with a3 | a3
        · rw [show (nI (0 + 1)).toInt = 1 by decide] at a3; omega
        · have : ¬ (tx (i + 1)).toInt - 48 = 0 := fun e => a3 (Int32.toInt_inj.mp (by rw [e4, e]; decide))
          omega
    · rw [hk, hV, ea, q2.1, q2.2.1, q2.2.2.2]
      exact ⟨rfl, hk0, if_pos rfl⟩
  | false =>
    have eJ : rpJ tx len i = i + 1 := by rw [hJ, poJ, hp]; rfl
    refine ⟨1, tkF t kd, by rw [eJ], r1, s3, by rw [whole_of s2 (by omega) hk100, hO, hp]; rfl, fun hlt hn => ?_, fun ho => by rw [hO, hp] at ho; cases ho⟩
    rw [eJ] at hlt hn ⊢
    have hc2 := inR_I (htx _ hlt)
    rw [show (33 : Int32).toInt = 33 by decide, show (126 : Int32).toInt = 126 by decide] at hc2
    rw [tkB, if_neg (by rw [s2.1]; exact hk0)]
    split
    · rw [whole_of s2 (by omega) hk100]; rfl
    · split
      · exact mB_no s2 (by omega) (Or.inl hk103)
      · have e5 : (tx (i + 1) - 48).toInt = (tx (i + 1)).toInt - 48 := by rw [fb_subI (by rw [c48]; omega) (by rw [c48]; omega), c48]
        have e0 : 10 * (0 : Int32) + (tx (i + 1) - 48) = tx (i + 1) - 48 := by rw [show 10 * (0 : Int32) = 0 by decide, Int32.zero_add]
        have ea : atT tx len (i + 1) = tx (i + 1) := if_pos hlt
        rw [poO, ea, inB] at hp
        rw [dB, s2.2.2.2, s2.2.2.1, hlst, hmst, e0]
        rw [Bool.eq_false_iff] at hp ⊢
        simp only [ne_eq, Bool.and_eq_true, Bool.not_eq_true', decide_eq_true_eq, decide_eq_false_iff_not, Bool.and_eq_false_iff, Bool.not_eq_false', fa_lt, fa_le, e5, c0, c5, c9] at hp ⊢
        rintro ⟨a1, a2, a3, a4, a5⟩
        exact hp ⟨by omega, by omega⟩
end PARSE
