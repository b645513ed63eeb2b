/-! The orders' text, part by part, on both sides. -/
section PARSE2
variable {t t0 tx : Nat → Int32} {len i j q dg : Nat} {kd ng v c mo : Int32}
theorem part_reg (hl6 : len ≤ 60) (htx : ∀ j, j < len → inR (tx j) 33 126) (hcd : ∀ j, j < len → t (300 + j) = tx j) (h : St t 0 0 0 0) (hk : atT tx len i = 103) : ∃ k t', PE tx len i t t' k := by
  have hJ : rpJ tx len i = ruJ tx len (i + 1) := by rw [rpJ, hk]; rfl
  have hO : rpO tx len i = ruO tx len (i + 1) := by rw [rpO, hk]; rfl
  have hV : rpV tx len i = ruV tx len (i + 1) := by rw [rpV, hk]; rfl
  have hi := atT_lt hk (by decide)
  have ex : tx i = 103 := by rw [← hk]; exact (if_pos hi).symm
  obtain ⟨s1, s2, s3⟩ := step_k h (show isK 103 = true by decide)
  have hlst : lst (tkF t 103) = 0 := by rw [lst_of s2]; decide
  have hmst : mst (tkF t 103) = 99 := by rw [mst_of s2]; decide
  have r1 : runs t i 1 (tkF t 103) := by
    have := runs_1 (t := t) (i := i) (by rw [hcd i hi, ex]; exact s1)
    rw [hcd i hi, ex] at this
    exact this
  have c0 : (0 : Int32).toInt = 0 := by decide
  have hm99 : 0 ≤ (99 : Int32).toInt ∧ (99 : Int32).toInt ≤ 99 := by decide
  by_cases a48 : atT tx len (i + 1) = 48
  · have h1 := atT_lt a48 (by decide)
    have e1 : tx (i + 1) = 48 := by rw [← a48]; exact (if_pos h1).symm
    have eJ : rpJ tx len i = i + 2 := by rw [hJ, ruJ, if_pos a48]
    have eO : rpO tx len i = true := by rw [hO, ruO, if_pos a48]
    have eV : rpV tx len i = 0 := by rw [hV, ruV, if_pos a48]
    have hdig : dB (tkF t 103) (48 - 48) = true := by
      rw [dB, s2.2.2.2, s2.2.2.1, hlst, hmst]; decide
    obtain ⟨q1, q2, q3⟩ := step_d (c := 48) s2 (by decide) (by decide) (by decide) hdig
    have e301 : tkF t 103 (300 + (i + 1)) = 48 := (s3 _ (by omega)).trans ((hcd _ h1).trans e1)
    have hw : whole (tkF (tkF t 103) 48) = true := by rw [whole_of q2 (by omega) (by decide)]; rfl
    refine ⟨2, tkF (tkF t 103) 48, by rw [eJ], runs_app (k := 1) (k2 := 1) r1 ?_, q3.tr s3, by rw [hw, eO], fun hlt hn => ?_, fun ho => ?_⟩
    · have := runs_1 (t := tkF t 103) (i := i + 1) (by rw [e301]; exact q1)
      rw [e301] at this
      exact this
    · rw [eJ] at hlt hn ⊢
      rw [tkB, if_neg (by rw [q2.1]; decide), if_neg (hn eO)]
      split
      · exact mB_no q2 (by omega) (Or.inr (Or.inr (by decide)))
      · rw [dB, q2.2.2.1, q2.2.2.2]
        simp only [show (!(!decide (nI (0 + 1) ≤ 0) && decide (10 * (0 : Int32) + 48 - 48 = 0))) = false by decide, Bool.false_and, Bool.and_false]
    · rw [hk, eV, q2.1, q2.2.1, q2.2.2.2]
      exact ⟨rfl, by decide, by decide⟩
  · by_cases a45 : atT tx len (i + 1) = 45
    · have h1 := atT_lt a45 (by decide)
      have e1 : tx (i + 1) = 45 := by rw [← a45]; exact (if_pos h1).symm
      have eI : ruI tx len (i + 1) = i + 1 + 1 := by rw [ruI, if_pos a45]
      have eJ : rpJ tx len i = nuJ tx len 99 (i + 1 + 1) := by rw [hJ, ruJ, if_neg a48, eI]
      have eO : rpO tx len i = nuO tx len 99 (i + 1 + 1) := by rw [hO, ruO, if_neg a48, eI]
      have eV : rpV tx len i = -(nuV tx len 99 (i + 1 + 1)) := by rw [hV, ruV, if_neg a48, if_pos a45, eI]
      obtain ⟨q1, q2, q3⟩ := step_m s2
      have e301 : tkF t 103 (300 + (i + 1)) = 45 := (s3 _ (by omega)).trans ((hcd _ h1).trans e1)
      have r2 : runs (tkF t 103) (i + 1) 1 (tkF (tkF t 103) 45) := by
        have := runs_1 (t := tkF t 103) (i := i + 1) (by rw [e301]; exact q1)
        rw [e301] at this
        exact this
      have hlst2 : lst (tkF (tkF t 103) 45) = 1 := by rw [lst_of q2]; decide
      have hmst2 : mst (tkF (tkF t 103) 45) = 99 := by rw [mst_of q2]; decide
      obtain ⟨k, t', d2, a1, a2, a3, a4, a5, a6⟩ := num_run (tx := tx) hl6 (by decide) hm99 htx (61 - (i + 1 + 1)) (i + 1 + 1) 0 0 (tkF (tkF t 103) 45) q2 (by omega) h1 ⟨by decide, by decide⟩ ⟨fun _ => rfl, fun _ => rfl⟩ (Or.inl hlst2) hmst2 (fun j hj => ((q3.tr s3) _ (by omega)).trans (hcd j hj))
      have hb := nuJ_b (tx := tx) (mo := 99) (show i + 1 + 1 ≤ len from h1)
      have hVr := nuV_b (tx := tx) (len := len) (i := i + 1 + 1) hm99
      change i + 1 + 1 + k = nuJ tx len 99 (i + 1 + 1) at a1
      change St t' 103 1 d2 (nuV tx len 99 (i + 1 + 1)) at a3
      change d2 + (i + 1 + 1) = nuJ tx len 99 (i + 1 + 1) + 0 at a4
      change nuV tx len 99 (i + 1 + 1) = 0 ↔ d2 = 0 at a5
      have hd2 : d2 < 1000 := by omega
      have hw : whole t' = nuO tx len 99 (i + 1 + 1) := by
        rw [whole_of a3 hd2 (by decide), nuO]
        congr 1
        rw [decide_eq_decide]
        exact a5.symm
      refine ⟨1 + (1 + k), t', by rw [eJ]; omega, runs_app r1 (runs_app r2 a2), a6.tr (q3.tr s3), by rw [hw, eO], fun hlt hn => ?_, fun ho => ?_⟩
      · rw [eJ] at hlt hn ⊢
        exact no_next a3 (by decide) hd2 ⟨hVr.1, by have := hVr.2; omega⟩ a5 (Or.inl (by rw [lst_of a3]; decide)) (by rw [mst_of a3]; decide) hlt (htx _ hlt) (rn_stop _ _ _ (by omega)) (fun _ => mB_no a3 hd2 (Or.inr (Or.inl (by decide)))) (fun e => hn (by rw [eO, ← hw]; exact e))
      · rw [hk, eV, a3.1, a3.2.1, a3.2.2.2]
        exact ⟨rfl, by decide, if_neg (by decide)⟩
    · have eI : ruI tx len (i + 1) = i + 1 := by rw [ruI, if_neg a45]
      have eJ : rpJ tx len i = nuJ tx len 99 (i + 1) := by rw [hJ, ruJ, if_neg a48, eI]
      have eO : rpO tx len i = nuO tx len 99 (i + 1) := by rw [hO, ruO, if_neg a48, eI]
      have eV : rpV tx len i = nuV tx len 99 (i + 1) := by rw [hV, ruV, if_neg a48, if_neg a45, eI]
      obtain ⟨k, t', d2, a1, a2, a3, a4, a5, a6⟩ := num_run (tx := tx) hl6 (by decide) hm99 htx (61 - (i + 1)) (i + 1) 0 0 (tkF t 103) s2 (by omega) hi ⟨by decide, by decide⟩ ⟨fun _ => rfl, fun _ => rfl⟩ (Or.inr ⟨hlst, fun _ => a48⟩) hmst (fun j hj => (s3 _ (by omega)).trans (hcd j hj))
      have hb := nuJ_b (tx := tx) (mo := 99) (show i + 1 ≤ len from hi)
      have hVr := nuV_b (tx := tx) (len := len) (i := i + 1) hm99
      change i + 1 + k = nuJ tx len 99 (i + 1) at a1
      change St t' 103 0 d2 (nuV tx len 99 (i + 1)) at a3
      change d2 + (i + 1) = nuJ tx len 99 (i + 1) + 0 at a4
      change nuV tx len 99 (i + 1) = 0 ↔ d2 = 0 at a5
      have hd2 : d2 < 1000 := by omega
      have hw : whole t' = nuO tx len 99 (i + 1) := by
        rw [whole_of a3 hd2 (by decide), nuO]
        congr 1
        rw [decide_eq_decide]
        exact a5.symm
      refine ⟨1 + k, t', by rw [eJ]; omega, runs_app r1 a2, a6.tr s3, by rw [hw, eO], fun hlt hn => ?_, fun ho => ?_⟩
      · rw [eJ] at hlt hn ⊢
        have hat : d2 = 0 → tx (nuJ tx len 99 (i + 1)) = atT tx len (i + 1) := fun e => by
          have e2 : nuJ tx len 99 (i + 1) = i + 1 := by omega
          rw [e2] at hlt ⊢
          exact (if_pos hlt).symm
        refine no_next a3 (by decide) hd2 ⟨hVr.1, by have := hVr.2; omega⟩ a5 (Or.inr ⟨by rw [lst_of a3]; decide, fun e => ?_⟩) (by rw [mst_of a3]; decide) hlt (htx _ hlt) (rn_stop _ _ _ (by omega)) (fun e45 => ?_) (fun e => hn (by rw [eO, ← hw]; exact e))
        · rw [hat (a5.mp e)]; exact a48
        · by_cases d0 : d2 = 0
          · rw [hat d0] at e45; exact absurd e45 a45
          · exact mB_no a3 hd2 (Or.inr (Or.inr d0))
      · rw [hk, eV, a3.1, a3.2.1, a3.2.2.2]
        exact ⟨rfl, by decide, if_pos rfl⟩
theorem part_dem (htx : ∀ j, j < len → inR (tx j) 33 126) (hcd : ∀ j, j < len → t (300 + j) = tx j) (h : St t 0 0 0 0) (hk : atT tx len i = 100) : ∃ k t', PE tx len i t t' k := by
  have hJ : rpJ tx len i = i + 1 := by rw [rpJ, hk]; rfl
  have hO : rpO tx len i = true := by rw [rpO, hk]; rfl
  have hV : rpV tx len i = 0 := by rw [rpV, hk]; rfl
  have hi := atT_lt hk (by decide)
  have ex : tx i = 100 := by rw [← hk]; exact (if_pos hi).symm
  obtain ⟨s1, s2, s3⟩ := step_k h (show isK 100 = true by decide)
  have r1 : runs t i 1 (tkF t 100) := by
    have := runs_1 (t := t) (i := i) (by rw [hcd i hi, ex]; exact s1)
    rw [hcd i hi, ex] at this
    exact this
  have hw : whole (tkF t 100) = true := by rw [whole, s2.1]; rfl
  refine ⟨1, tkF t 100, by rw [hJ], r1, s3, by rw [hw, hO], fun hlt hn => ?_, fun ho => ?_⟩
  · rw [hJ] at hlt hn ⊢
    have hc2 := inR_I (htx _ hlt)
    rw [show (33 : Int32).toInt = 33 by decide, show (126 : Int32).toInt = 126 by decide] at hc2
    rw [tkB, if_neg (by rw [s2.1]; decide), if_neg (hn hO)]
    split
    · exact mB_no s2 (by omega) (Or.inl (by decide))
    · have c48 : (48 : Int32).toInt = 48 := by decide
      have e5 : (tx (i + 1) - 48).toInt = (tx (i + 1)).toInt - 48 := by rw [fb_subI (by rw [c48]; omega) (by rw [c48]; omega), c48]
      have e0 : 10 * (0 : Int32) + (tx (i + 1) - 48) = tx (i + 1) - 48 := by rw [show 10 * (0 : Int32) = 0 by decide, Int32.zero_add]
      rw [dB, s2.2.2.2, s2.2.2.1, show mst (tkF t 100) = -1 by rw [mst_of s2]; decide, e0]
      rw [Bool.eq_false_iff]
      simp only [ne_eq, Bool.and_eq_true, Bool.not_eq_true', decide_eq_true_eq, decide_eq_false_iff_not, fa_lt, fa_le, e5, show (0 : Int32).toInt = 0 by decide, show (-1 : Int32).toInt = -1 by decide]
      rintro ⟨a1, a2, a3, a4, a5⟩
      omega
  · rw [hk, hV, s2.1, s2.2.1, s2.2.2.2]
    exact ⟨rfl, by decide, by decide⟩
theorem part_none (hi : i ≤ len) (hcd : ∀ j, j < len → t (300 + j) = tx j) (h : St t 0 0 0 0) (h1 : ¬ atT tx len i = 43) (h2 : ¬ atT tx len i = 100) (h3 : ¬ atT tx len i = 103) (h4 : ¬ atT tx len i = 112) (h5 : ¬ atT tx len i = 114) (h6 : ¬ atT tx len i = 119) : ∃ k t', PE tx len i t t' k := by
  have hJ : rpJ tx len i = i := by rw [rpJ, if_neg h1, if_neg h2, if_neg h3, if_neg h4, if_neg h5, if_neg h6]
  have hO : rpO tx len i = false := by rw [rpO, if_neg h1, if_neg h2, if_neg h3, if_neg h4, if_neg h5, if_neg h6]
  refine ⟨0, t, by rw [hJ]; rfl, rfl, Eq5.rf, by rw [whole_of h (by omega) (by decide), hO]; rfl, fun hlt hn => ?_, fun ho => by rw [hO] at ho; cases ho⟩
  rw [hJ] at hlt ⊢
  have ea : atT tx len i = tx i := if_pos hlt
  rw [ea] at h1 h2 h3 h4 h5 h6
  rw [tkB, if_pos h.1, isK, decide_eq_false h1, decide_eq_false h2, decide_eq_false h3, decide_eq_false h4, decide_eq_false h5, decide_eq_false h6]
  rfl
theorem part_run (hl6 : len ≤ 60) (hi : i ≤ len) (htx : ∀ j, j < len → inR (tx j) 33 126) (hcd : ∀ j, j < len → t (300 + j) = tx j) (h : St t 0 0 0 0) : ∃ k t', PE tx len i t t' k := by
  by_cases a1 : atT tx len i = 43
  · exact part_num (mo := 99) hl6 htx hcd h a1 (Or.inl rfl) rfl (by rw [rpJ, if_pos a1]) (by rw [rpO, if_pos a1]) (by rw [rpV, if_pos a1])
  · by_cases a2 : atT tx len i = 100
    · exact part_dem htx hcd h a2
    · by_cases a3 : atT tx len i = 103
      · exact part_reg hl6 htx hcd h a3
      · by_cases a4 : atT tx len i = 112
        · exact part_pose hl6 htx hcd h a4 (Or.inl rfl) (by rw [rpJ, if_neg a1, if_neg a2, if_neg a3, if_pos a4]) (by rw [rpO, if_neg a1, if_neg a2, if_neg a3, if_pos a4]) (by rw [rpV, if_neg a1, if_neg a3, if_pos a4])
        · by_cases a5 : atT tx len i = 114
          · exact part_pose hl6 htx hcd h a5 (Or.inr rfl) (by rw [rpJ, if_neg a1, if_neg a2, if_neg a3, if_neg a4, if_pos a5]) (by rw [rpO, if_neg a1, if_neg a2, if_neg a3, if_neg a4, if_pos a5]) (by rw [rpV, if_neg a1, if_neg a3, if_neg a4, if_pos a5])
          · by_cases a6 : atT tx len i = 119
            · exact part_num (mo := 48) hl6 htx hcd h a6 (Or.inr rfl) rfl (by rw [rpJ, if_neg a1, if_neg a2, if_neg a3, if_neg a4, if_neg a5, if_pos a6]) (by rw [rpO, if_neg a1, if_neg a2, if_neg a3, if_neg a4, if_neg a5, if_pos a6]) (by rw [rpV, if_neg a1, if_neg a3, if_neg a4, if_neg a5, if_pos a6])
            · exact part_none hi hcd h a1 a2 a3 a4 a5 a6
-- a part is put away
theorem end_St (t : Nat → Int32) : St (endF t) 0 0 0 0 := ⟨by rw [endF, bgn, upd_no (by decide), upd_no (by decide), upd_no (by decide), upd_is], by rw [endF, bgn, upd_no (by decide), upd_no (by decide), upd_is], by rw [endF, bgn, upd_no (by decide), upd_is]; rfl, by rw [endF, bgn, upd_is]⟩
theorem end_1 (h : t 1 = nI q) (hq : q < 60) : endF t 1 = nI (q + 1) := by
  rw [endF, bgn, upd_no (by decide), upd_no (by decide), upd_no (by decide), upd_no (by decide), upd_is, pq_eq h hq]
  exact nI_1 q
theorem end_k (h : t 1 = nI q) (hq : q < 60) : endF t (100 + q) = t 2 := by
  rw [endF, bgn, upd_no (by omega), upd_no (by omega), upd_no (by omega), upd_no (by omega), upd_no (by omega), pq_eq h hq, upd_no (by omega), upd_is]
theorem end_v (h : t 1 = nI q) (hq : q < 60) : endF t (200 + q) = if t 3 = 0 then t 5 else -(t 5) := by
  rw [endF, bgn, upd_no (by omega), upd_no (by omega), upd_no (by omega), upd_no (by omega), upd_no (by omega), pq_eq h hq, upd_is]
theorem end_o {k : Nat} (h : t 1 = nI q) (hq : q < 60) (h1 : k = 0 ∨ 6 ≤ k) (h2 : ¬ k = 100 + q) (h3 : ¬ k = 200 + q) : endF t k = t k := by
  rw [endF, bgn, upd_no (by omega), upd_no (by omega), upd_no (by omega), upd_no (by omega), upd_no (by omega), pq_eq h hq, upd_no h3, upd_no h2]
theorem nI_ge0 {a : Nat} (h : a < 2 ^ 31) : 0 ≤ nI a := by rw [fa_le, nI_toInt h, show (0 : Int32).toInt = 0 by decide]; omega
/-- what the whole text gives -/
def FIN (tx : Nat → Int32) (len m i q : Nat) (t : Nat → Int32) : Prop := scR (len - i) t i = (if 0 ≤ feR tx len m i then feR tx len m i else nI len) ∧ (∀ k, k = 0 ∨ 300 ≤ k → scF (len - i) t i k = t k) ∧
  (0 ≤ feR tx len m i → ¬ (¬ scR (len - i) t i < nI len ∧ whole (scF (len - i) t i) = true)) ∧
  (¬ 0 ≤ feR tx len m i → whole (scF (len - i) t i) = true ∧ ∃ np, endF (scF (len - i) t i) 1 = nI np ∧ q < np ∧ np ≤ 60 ∧ (∀ k, k = 0 ∨ 300 ≤ k → endF (scF (len - i) t i) k = t k) ∧ (∀ p, p < q → endF (scF (len - i) t i) (100 + p) = t (100 + p) ∧ endF (scF (len - i) t i) (200 + p) = t (200 + p)) ∧ (∀ p, q ≤ p → p < np → vtx (endF (scF (len - i) t i)) p) ∧ ∀ z, obF (endF (scF (len - i) t i)) (np - q) z q = rbF tx len m i z q ∧ obN (endF (scF (len - i) t i)) (np - q) z q = rbN tx len m i z q)
theorem ob_step {tt : Nat → Int32} {n : Nat} {z : Nat → Int32} {kd v : Int32} (h1 : tt (100 + q) = kd) (h2 : tt (200 + q) = v) : obF tt (n + 1) z q = (if doB z kd v then obF tt n (doF z (pn z) (pk z) kd v q) (q + 1) else doF z (pn z) (pk z) kd v q) ∧ obN tt (n + 1) z q = (if doB z kd v then obN tt n (doF z (pn z) (pk z) kd v q) (q + 1) else q) := by
  rw [obF, obN, h1, h2]
  exact ⟨rfl, rfl⟩
theorem vtx_of {tt : Nat → Int32} {kd v : Int32} (h1 : tt (100 + q) = kd) (h2 : tt (200 + q) = v) (h : vtY kd v) : vtx tt q := by
  unfold vtx
  rw [h1, h2]
  exact h
theorem main_run (hl6 : len ≤ 60) (htx : ∀ j, j < len → inR (tx j) 33 126) : ∀ (m i q : Nat) (t : Nat → Int32), len + 1 ≤ i + m → i ≤ len → St t 0 0 0 0 → t 1 = nI q → q ≤ i → (∀ j, j < len → t (300 + j) = tx j) → FIN tx len m i q t
  | 0, i, q, t, hm, hi, _, _, _, _ => absurd hm (by omega)
  | m + 1, i, q, t, hm, hi, hs, hq1, hqi, hcd => by
    obtain ⟨k, t', e1, e2, e3, e4, e5, e6⟩ := part_run hl6 hi htx hcd hs
    have hJ := rpJ_b (tx := tx) hi
    generalize hJe : rpJ tx len i = J at *
    have hsc := runs_sc (m := len - J) e2
    rw [show k + (len - J) = len - i by omega, e1] at hsc
    have hcd2 : ∀ j, j < len → t' (300 + j) = tx j := fun j hj => (e3 _ (by omega)).trans (hcd j hj)
    have hq1' : t' 1 = nI q := (e3 1 (by omega)).trans hq1
    -- a character that isn't taken
    have stop : J < len → tkB t' (tx J) = false → scR (len - J) t' J = nI J ∧ scF (len - J) t' J = t' := by
      intro hlt hno
      have e : len - J = (len - J - 1) + 1 := by omega
      have hno2 : tkB t' (t' (300 + J)) = false := by rw [hcd2 J hlt]; exact hno
      rw [e, scR_no hno2, scF_no hno2, tk_no hno2]
      exact ⟨rfl, rfl⟩
    have oth : ∀ k, k = 0 ∨ 300 ≤ k → t' k = t k := fun k hk => e3 k (by omega)
    have bad : feR tx len (m + 1) i = nI J → (J < len → tkB t' (tx J) = false) → (J = len → whole t' = false) → FIN tx len (m + 1) i q t := by
      intro hfe hno hwl
      have hge : 0 ≤ feR tx len (m + 1) i := by rw [hfe]; exact nI_ge0 (by omega)
      by_cases hlt : J < len
      · obtain ⟨s1, s2⟩ := stop hlt (hno hlt)
        refine ⟨?_, fun k hk => ?_, fun _ hcc => ?_, fun hn => absurd hge hn⟩
        · rw [hsc.1, s1, if_pos hge, hfe]
        · rw [hsc.2, s2]; exact oth k hk
        · rw [hsc.1, s1] at hcc
          exact hcc.1 (nI_lt hlt (by omega))
      · have hJl : J = len := by omega
        have hz : len - J = 0 := by omega
        refine ⟨?_, fun k hk => ?_, fun _ hcc => ?_, fun hn => absurd hge hn⟩
        · rw [hsc.1, hz, if_pos hge, hfe]; rfl
        · rw [hsc.2, hz]; exact oth k hk
        · rw [hsc.2, hz] at hcc
          have h2 : whole t' = true := hcc.2
          rw [hwl hJl] at h2
          cases h2
    cases hO : rpO tx len i with
    | false =>
      refine bad (by rw [feR_3 hO, hJe]) (fun hlt => e5 hlt (fun ho => by rw [hO] at ho; cases ho)) (fun _ => by rw [e4, hO])
    | true =>
      obtain ⟨g1, g2, g3⟩ := e6 hO
      obtain ⟨hvt, -, -⟩ := rpO_vt hO
      have hil : i < len := by
        refine Classical.byContradiction fun hno => ?_
        have h0 : atT tx len i = 0 := at_0 (by omega)
        rw [rpO, h0, if_neg (by decide), if_neg (by decide), if_neg (by decide), if_neg (by decide), if_neg (by decide), if_neg (by decide)] at hO
        cases hO
      have hq60 : q < 60 := by omega
      have hw : whole t' = true := by rw [e4, hO]
      have hkE : endF t' (100 + q) = atT tx len i := (end_k hq1' hq60).trans g1
      have hvE : endF t' (200 + q) = rpV tx len i := (end_v hq1' hq60).trans g3
      by_cases hJl : J = len
      · have hz : len - J = 0 := by omega
        have hfe : feR tx len (m + 1) i = -1 := feR_1 hO (hJe.trans hJl)
        have hn : ¬ 0 ≤ feR tx len (m + 1) i := by rw [hfe]; decide
        have hF : scF (len - i) t i = t' := by rw [hsc.2, hz]; rfl
        refine ⟨?_, fun k hk => by rw [hF]; exact oth k hk, fun h => absurd h hn, fun _ => ?_⟩
        · rw [hsc.1, hz, if_neg hn]; show nI J = nI len; rw [hJl]
        · rw [hF]
          refine ⟨hw, q + 1, end_1 hq1' hq60, by omega, by omega, fun k hk => (end_o hq1' hq60 (by omega) (by omega) (by omega)).trans (oth k hk), fun p hp => ⟨(end_o hq1' hq60 (by omega) (by omega) (by omega)).trans (e3 _ (by omega)), (end_o hq1' hq60 (by omega) (by omega) (by omega)).trans (e3 _ (by omega))⟩, fun p h1 h2 => ?_, fun z => ?_⟩
          · rw [show p = q by omega]
            exact vtx_of hkE hvE hvt
          · have hst := ob_step (n := 0) (z := z) hkE hvE
            rw [show q + 1 - q = 0 + 1 by omega, hst.1, hst.2, rbF, rbN, if_pos hil, if_pos hil, hJe, rbF_e (by omega), rbN_e (by omega)]
            exact ⟨rfl, rfl⟩
      · have hlt : J < len := by omega
        by_cases h59 : tx J = 59
        · have htk : tkB t' (t' (300 + J)) = true := by
            rw [hcd2 J hlt, h59, tkB, if_neg g2, if_pos rfl]; exact hw
          have htF : tkF t' (t' (300 + J)) = endF t' := by
            rw [hcd2 J hlt, h59, tkF, if_neg g2, if_pos rfl, sF, if_pos hw]
          have e : len - J = (len - (J + 1)) + 1 := by omega
          have hR : scR (len - i) t i = scR (len - (J + 1)) (endF t') (J + 1) := by rw [hsc.1, e, scR_yes htk, htF]
          have hF : scF (len - i) t i = scF (len - (J + 1)) (endF t') (J + 1) := by rw [hsc.2, e, scF_yes htk, htF]
          have hfe : feR tx len (m + 1) i = feR tx len m (J + 1) := by rw [feR_s hO (by rw [hJe]; exact hJl) (by rw [hJe]; exact h59), hJe]
          have eo : ∀ k, k = 0 ∨ 300 ≤ k → endF t' k = t k := fun k hk => (end_o hq1' hq60 (by omega) (by omega) (by omega)).trans (oth k hk)
          obtain ⟨f1, f2, f3, f4⟩ := main_run hl6 htx m (J + 1) (q + 1) (endF t') (by omega) (by omega) (end_St t') (end_1 hq1' hq60) (by omega) (fun j hj => (eo _ (by omega)).trans (hcd j hj))
          rw [← hR] at f1 f3
          rw [← hF] at f2 f3 f4
          rw [← hfe] at f1 f3 f4
          refine ⟨f1, fun k hk => (f2 k hk).trans (eo k hk), f3, fun hn => ?_⟩
          obtain ⟨w1, np, w2, w3, w4, w5, w6, w7, w8⟩ := f4 hn
          have hkQ : endF (scF (len - i) t i) (100 + q) = atT tx len i := (w6 q (by omega)).1.trans hkE
          have hvQ : endF (scF (len - i) t i) (200 + q) = rpV tx len i := (w6 q (by omega)).2.trans hvE
          refine ⟨w1, np, w2, by omega, w4, fun k hk => (w5 k hk).trans (eo k hk), fun p hp => ⟨(w6 p (by omega)).1.trans ((end_o hq1' hq60 (by omega) (by omega) (by omega)).trans (e3 _ (by omega))), (w6 p (by omega)).2.trans ((end_o hq1' hq60 (by omega) (by omega) (by omega)).trans (e3 _ (by omega)))⟩, fun p h1 h2 => ?_, fun z => ?_⟩
          · by_cases hpq : p = q
            · subst hpq; exact vtx_of hkQ hvQ hvt
            · exact w7 p (by omega) h2
          · have hst := ob_step (n := np - (q + 1)) (z := z) hkQ hvQ
            have h8 := w8 (doF z (pn z) (pk z) (atT tx len i) (rpV tx len i) q)
            rw [show np - q = np - (q + 1) + 1 by omega, hst.1, hst.2, rbF, rbN, if_pos hil, if_pos hil, hJe, h8.1, h8.2]
            exact ⟨rfl, rfl⟩
        · exact bad (by rw [feR_2 hO (by rw [hJe]; exact hJl) (by rw [hJe]; exact h59), hJe]) (fun _ => e5 hlt (fun _ => h59)) (fun h => absurd h hJl)
end PARSE2
section PS
variable {M : Int} {z t tx : Nat → Int32} {len : Nat}
theorem ps_fin (h0 : t 0 = nI len) (h6 : len ≤ 60) (h : ∀ j, j < len → tx j = t (300 + j) ∧ inR (tx j) 33 126) : FIN tx len (len + 1) 0 0 (bgn (upd t 1 0)) :=
  main_run h6 (fun j hj => (h j hj).2) (len + 1) 0 0 _ (by omega) (by omega) ⟨rfl, rfl, rfl, rfl⟩ rfl (by omega) (fun j hj => by rw [bgn, upd_no (by omega), upd_no (by omega), upd_no (by omega), upd_no (by omega), upd_no (by omega)]; exact (h j hj).1.symm)
theorem bgn_o {k : Nat} (hk : k = 0 ∨ 300 ≤ k) : bgn (upd t 1 0) k = t k := by rw [bgn, upd_no (by omega), upd_no (by omega), upd_no (by omega), upd_no (by omega), upd_no (by omega)]
theorem ps_err (h0 : t 0 = nI len) (h6 : len ≤ 60) (h : ∀ j, j < len → tx j = t (300 + j) ∧ inR (tx j) 33 126) : scR len (bgn (upd t 1 0)) 0 = ferR tx len := (ps_fin h0 h6 h).1
theorem ps_t (h0 : t 0 = nI len) (h6 : len ≤ 60) (h : ∀ j, j < len → tx j = t (300 + j) ∧ inR (tx j) 33 126) : scF len (bgn (upd t 1 0)) 0 0 = nI len ∧ ∀ j, j < len → tx j = scF len (bgn (upd t 1 0)) 0 (300 + j) ∧ inR (tx j) 33 126 := by
  have hf := (ps_fin h0 h6 h).2.1
  exact ⟨(hf 0 (by omega)).trans ((bgn_o (by omega)).trans h0), fun j hj => ⟨(h j hj).1.trans ((hf (300 + j) (by omega)).trans (bgn_o (by omega))).symm, (h j hj).2⟩⟩
theorem ps_cm (h0 : t 0 = nI len) (h6 : len ≤ 60) (h : ∀ j, j < len → tx j = t (300 + j) ∧ inR (tx j) 33 126) : cmB len t = true ↔ ¬ 0 ≤ feR tx len (len + 1) 0 := by
  obtain ⟨f1, f2, f3, f4⟩ := ps_fin h0 h6 h
  constructor
  · intro hc hge
    rw [cmB, Bool.and_eq_true, Bool.not_eq_true', decide_eq_false_iff_not] at hc
    exact f3 hge hc
  · intro hn
    have h1 : scR len (bgn (upd t 1 0)) 0 = nI len := f1.trans (if_neg hn)
    exact cm_w (by rw [h1, fa_lt]; omega) (f4 hn).1
theorem cmF_y (hc : cmB len t = true) : cmF len t = endF (scF len (bgn (upd t 1 0)) 0) := if_pos hc
theorem ps_ct (h0 : t 0 = nI len) (h6 : len ≤ 60) (h : ∀ j, j < len → tx j = t (300 + j) ∧ inR (tx j) 33 126) : cmF len t 0 = nI len ∧ ∀ j, j < len → tx j = cmF len t (300 + j) ∧ inR (tx j) 33 126 := by
  by_cases hc : cmB len t = true
  · obtain ⟨f1, f2, f3, f4⟩ := ps_fin h0 h6 h
    obtain ⟨-, np, -, -, -, w5, -⟩ := f4 ((ps_cm h0 h6 h).mp hc)
    rw [cmF_y hc]
    exact ⟨(w5 0 (by omega)).trans ((bgn_o (by omega)).trans h0), fun j hj => ⟨(h j hj).1.trans ((w5 (300 + j) (by omega)).trans (bgn_o (by omega))).symm, (h j hj).2⟩⟩
  · have e : cmF len t = scF len (bgn (upd t 1 0)) 0 := if_neg hc
    rw [e]
    exact ps_t h0 h6 h
theorem ps_np (h0 : t 0 = nI len) (h6 : len ≤ 60) (h : ∀ j, j < len → tx j = t (300 + j) ∧ inR (tx j) 33 126) (c : cmB len t = true) : ∃ np, np ≤ 60 ∧ cmF len t 1 = nI np ∧ ∀ q, q < np → vtx (cmF len t) q := by
  obtain ⟨f1, f2, f3, f4⟩ := ps_fin h0 h6 h
  obtain ⟨-, np, w2, w3, w4, w5, w6, w7, w8⟩ := f4 ((ps_cm h0 h6 h).mp c)
  rw [cmF_y c]
  exact ⟨np, w4, w2, fun q hq => w7 q (Nat.zero_le _) hq⟩
theorem ps_ob {np : Nat} (h0 : t 0 = nI len) (h6 : len ≤ 60) (h : ∀ j, j < len → tx j = t (300 + j) ∧ inR (tx j) 33 126) (c : cmB len t = true) (hn : cmF len t 1 = nI np) (hn6 : np ≤ 60) (g : good M z) : obF (cmF len t) np (fst0 z) 0 = rbF tx len (len + 1) 0 (fst0 z) 0 ∧ obN (cmF len t) np (fst0 z) 0 = rbN tx len (len + 1) 0 (fst0 z) 0 := by
  obtain ⟨f1, f2, f3, f4⟩ := ps_fin h0 h6 h
  obtain ⟨-, np2, w2, w3, w4, w5, w6, w7, w8⟩ := f4 ((ps_cm h0 h6 h).mp c)
  rw [cmF_y c] at hn ⊢
  have e : np2 = np := nI_ij (by omega) (by omega) (w2.symm.trans hn)
  subst e
  exact w8 (fst0 z)
end PS
