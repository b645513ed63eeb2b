/-! The doubles: a share of the run is zero or a number from a little above nothing up to one. -/
theorem fx_dec {E t : Nat} (h1 : 1 ≤ E) (h2 : E ≤ 2046) (ht : t < 4503599627370496) : FP.Core.decode FP.Core.b64 (E * 4503599627370496 + t) = .fin false (4503599627370496 + t) ((E : Int) - 1075) := by
  have e1 : FP.Core.b64.tails = 4503599627370496 := rfl
  have e2 : FP.Core.b64.exps = 2048 := rfl
  have e3 : FP.Core.b64.qmin = -1074 := rfl
  have d1 : (E * 4503599627370496 + t) / 4503599627370496 = E := by omega
  have d2 : (E * 4503599627370496 + t) % 4503599627370496 = t := by omega
  have f1 : FP.Core.fieldE FP.Core.b64 (E * 4503599627370496 + t) = E := by
    unfold FP.Core.fieldE; rw [e1, e2, d1]; omega
  have f2 : FP.Core.fieldT FP.Core.b64 (E * 4503599627370496 + t) = t := by
    unfold FP.Core.fieldT; rw [e1, d2]
  have f3 : FP.Core.fieldS FP.Core.b64 (E * 4503599627370496 + t) = false := by
    unfold FP.Core.fieldS; rw [e1, e2, d1, Nat.div_eq_of_lt (by omega)]; rfl
  unfold FP.Core.decode
  rw [f1, f2, f3, e1, e2, e3, if_neg (by omega), if_neg (by omega)]
  congr 1
  omega
theorem fx_dec0 : FP.Core.decode FP.Core.b64 0 = .fin false 0 (-1074) := by decide
theorem fx_enc {E t : Nat} {q : Int} (h1 : q = (E : Int) - 1075) (h2 : 1 ≤ E) : FP.Core.encode FP.Core.b64 (.fin false (4503599627370496 + t) q) = E * 4503599627370496 + t := by
  have e1 : FP.Core.b64.tails = 4503599627370496 := rfl
  have e2 : FP.Core.b64.exps = 2048 := rfl
  have e3 : FP.Core.b64.qmin = -1074 := rfl
  unfold FP.Core.encode FP.Core.assemble
  simp only [e1, e2, e3]
  rw [if_neg (by omega)]
  have : (q - -1074).toNat + 1 = E := by omega
  rw [this]
  simp
theorem fx_enc0 : FP.Core.encode FP.Core.b64 (.fin false 0 (-1074)) = 0 := by decide
theorem fx_lead {m l : Nat} (h1 : 2 ^ l ≤ m) (h2 : m < 2 ^ (l + 1)) : FP.Core.leading m 1 = (l : Int) := by
  have hm : m ≠ 0 := by have := Nat.two_pow_pos l; omega
  have hl : m.log2 = l := (Nat.log2_eq_iff hm).mpr ⟨h1, h2⟩
  have h0 : Nat.log2 1 = 0 := by decide
  unfold FP.Core.leading
  simp only [hl, h0]
  have a1 : ((l : Int) - ((0 : Nat) : Int)).toNat = l := by omega
  have a2 : (-((l : Int) - ((0 : Nat) : Int))).toNat = 0 := by omega
  rw [a1, a2, if_pos (by simpa using h1)]
  omega
theorem fx_near {c d : Nat} (h : 0 < d) : FP.Core.nearest (c * d) d = c := by
  unfold FP.Core.nearest
  rw [Nat.mul_mod_left, Nat.mul_div_cancel c h, if_pos (by omega)]
theorem fx_settle {c : Nat} {q : Int} (h1 : c < 9007199254740992) (h2 : q ≤ 971) : FP.Core.settle FP.Core.b64 false c q = .fin false c q := by
  unfold FP.Core.settle FP.Core.bound
  rw [if_pos (by exact h1), if_pos (by exact h2)]
theorem fx_settle2 {q : Int} (h2 : q ≤ 970) : FP.Core.settle FP.Core.b64 false 9007199254740992 q = .fin false 4503599627370496 (q + 1) := by
  unfold FP.Core.settle FP.Core.bound
  rw [if_neg (by decide), if_pos (by show q + 1 ≤ 971; omega)]
  rfl
theorem fx_rq {num den : Nat} {e L : Int} {n : Nat} (h0 : num ≠ 0) (hL : FP.Core.leading num den = L) (hq : -1074 ≤ L + e - 52) (hn : FP.Core.nearest (num * 2 ^ (52 - L).toNat) (den * 2 ^ (L - 52).toNat) = n) : FP.Core.roundRatio FP.Core.b64 false num den e = FP.Core.settle FP.Core.b64 false n (L + e - 52) := by
  have e3 : FP.Core.b64.qmin = -1074 := rfl
  have e4 : ((FP.Core.b64.p : Nat) : Int) = 53 := rfl
  have q1 : FP.Core.quantum FP.Core.b64 num den e = L + e - 52 := by
    unfold FP.Core.quantum; rw [hL, e3, e4]; omega
  unfold FP.Core.roundRatio FP.Core.roundAt FP.Core.unitsNum FP.Core.unitsDen
  rw [if_neg h0, q1, show e - (L + e - 52) = 52 - L by omega, show L + e - 52 - e = L - 52 by omega, hn]
theorem fx_r104 {c : Nat} {e : Int} (h1 : 4503599627370496 ≤ c) (h2 : c < 9007199254740992) (h3 : -1074 ≤ e + 52) (h4 : e + 52 ≤ 971) : FP.Core.round FP.Core.b64 (.fin false (c * 4503599627370496) e) = .fin false c (e + 52) := by
  show FP.Core.roundRatio FP.Core.b64 false (c * 4503599627370496) 1 e = _
  rw [fx_rq (L := 104) (n := c) (by omega) (fx_lead (l := 104) (by omega) (by omega)) (by omega) ?_]
  · rw [fx_settle h2 (by omega)]; congr 1; omega
  · have := fx_near (c := c) (d := 4503599627370496) (by decide)
    simpa using this
theorem fx_shift {m l : Nat} (h1 : 2 ^ l ≤ m) (h2 : m < 2 ^ (l + 1)) (h3 : l ≤ 52) : 4503599627370496 ≤ m * 2 ^ (52 - l) ∧ m * 2 ^ (52 - l) < 9007199254740992 := by
  have a : 2 ^ l * 2 ^ (52 - l) = 4503599627370496 := by rw [← Nat.pow_add, show l + (52 - l) = 52 by omega]
  have b : 2 ^ (l + 1) * 2 ^ (52 - l) = 9007199254740992 := by rw [← Nat.pow_add, show l + 1 + (52 - l) = 53 by omega]
  refine ⟨a ▸ Nat.mul_le_mul_right _ h1, b ▸ Nat.mul_lt_mul_of_pos_right h2 (Nat.two_pow_pos _)⟩
theorem fx_rshort {m l : Nat} {e : Int} (h1 : 2 ^ l ≤ m) (h2 : m < 2 ^ (l + 1)) (h3 : l ≤ 52) (h4 : -1074 ≤ l + e - 52) (h5 : l + e - 52 ≤ 971) : FP.Core.round FP.Core.b64 (.fin false m e) = .fin false (m * 2 ^ (52 - l)) (l + e - 52) := by
  show FP.Core.roundRatio FP.Core.b64 false m 1 e = _
  have hm : m ≠ 0 := by have := Nat.two_pow_pos l; omega
  rw [fx_rq (L := l) (n := m * 2 ^ (52 - l)) hm (fx_lead h1 h2) h4 ?_]
  · exact fx_settle (fx_shift h1 h2 h3).2 h5
  · rw [show ((52 : Int) - (l : Int)).toNat = 52 - l by omega, show ((l : Int) - 52).toNat = 0 by omega, Nat.pow_zero, Nat.mul_one]
    have := fx_near (c := m * 2 ^ (52 - l)) (d := 1) (by decide)
    simpa using this
theorem fx_r0 {e : Int} : FP.Core.round FP.Core.b64 (.fin false 0 e) = .fin false 0 (-1074) := rfl
theorem fx_nat {E t : Nat} (h2 : E ≤ 2046) (ht : t < 4503599627370496) : (UInt64.ofNat (E * 4503599627370496 + t)).toNat = E * 4503599627370496 + t := UInt64.toNat_ofNat_of_lt' (by show _ < 2 ^ 64; omega)
theorem fx_decb {E t : Nat} (h1 : 1 ≤ E) (h2 : E ≤ 2046) (ht : t < 4503599627370496) : FP.Core.decode FP.Core.b64 (UInt64.ofNat (E * 4503599627370496 + t)).toNat = .fin false (4503599627370496 + t) ((E : Int) - 1075) := by rw [fx_nat h2 ht, fx_dec h1 h2 ht]
theorem fx_mul {E t K : Nat} (h1 : 1 ≤ E) (h2 : E ≤ 2046) (ht : t < 4503599627370496) (k1 : 1 ≤ K) (k2 : K ≤ 2046) (h3 : 1024 ≤ E + K) (h4 : E + K ≤ 3069) : FP.dmul (UInt64.ofNat (E * 4503599627370496 + t)) (UInt64.ofNat (K * 4503599627370496 + 0)) = UInt64.ofNat ((E + K - 1023) * 4503599627370496 + t) := by
  show UInt64.ofNat (FP.Core.mul FP.Core.b64 _ _) = _
  unfold FP.Core.mul
  rw [fx_decb h1 h2 ht, fx_decb k1 k2 (by decide)]
  show UInt64.ofNat (FP.Core.encode FP.Core.b64 (FP.Core.round FP.Core.b64 (.fin false ((4503599627370496 + t) * 4503599627370496) (((E : Int) - 1075) + ((K : Int) - 1075))))) = _
  rw [fx_r104 (by omega) (by omega) (by omega) (by omega), fx_enc (E := E + K - 1023) (by omega) (by omega)]
theorem fx_mul0 {K : Nat} (k1 : 1 ≤ K) (k2 : K ≤ 2046) : FP.dmul 0 (UInt64.ofNat (K * 4503599627370496 + 0)) = 0 := by
  show UInt64.ofNat (FP.Core.mul FP.Core.b64 0 _) = _
  unfold FP.Core.mul
  rw [fx_decb k1 k2 (by decide), fx_dec0]
  show UInt64.ofNat (FP.Core.encode FP.Core.b64 (FP.Core.round FP.Core.b64 (.fin false (0 * 4503599627370496) _))) = _
  rw [Nat.zero_mul, fx_r0, fx_enc0]; rfl
theorem fx_two : (4611686018427387904 : UInt64) = UInt64.ofNat (1024 * 4503599627370496 + 0) := by decide
theorem fx_big : (4841369599423283200 : UInt64) = UInt64.ofNat (1075 * 4503599627370496 + 0) := by decide
theorem fx_one : FP.dconst1 = UInt64.ofNat (1023 * 4503599627370496 + 0) := by decide
theorem fx_dbl {E t : Nat} (h1 : 1 ≤ E) (h2 : E ≤ 2045) (ht : t < 4503599627370496) : FP.dmul (UInt64.ofNat (E * 4503599627370496 + t)) 4611686018427387904 = UInt64.ofNat ((E + 1) * 4503599627370496 + t) := by
  rw [fx_two, fx_mul h1 (by omega) ht (by decide) (by decide) (by omega) (by omega), show E + 1024 - 1023 = E + 1 by omega]
theorem fx_cmp {a b : Int} : (a < b → compare a b = .lt) ∧ (a = b → compare a b = .eq) ∧ (b < a → compare a b = .gt) := by
  have k : compare a b = if a < b then .lt else if a = b then .eq else .gt := rfl
  rw [k]
  refine ⟨fun h => if_pos h, fun h => ?_, fun h => ?_⟩
  · rw [if_neg (by omega), if_pos h]
  · rw [if_neg (by omega), if_neg (by omega)]
theorem fx_small {E t : Nat} (h1 : 1 ≤ E) (h2 : E ≤ 1022) (ht : t < 4503599627370496) : FP.dcmp (UInt64.ofNat (E * 4503599627370496 + t)) FP.dconst1 = some .lt := by
  show FP.Core.order (FP.Core.decode FP.Core.b64 _) (FP.Core.decode FP.Core.b64 _) = _
  rw [fx_one, fx_decb h1 (by omega) ht, fx_decb (E := 1023) (t := 0) (by decide) (by decide) (by decide)]
  show some (compare (((4503599627370496 + t) * 2 ^ (((E : Int) - 1075) - min ((E : Int) - 1075) (((1023 : Nat) : Int) - 1075)).toNat : Nat) : Int) (((4503599627370496 + 0) * 2 ^ ((((1023 : Nat) : Int) - 1075) - min ((E : Int) - 1075) (((1023 : Nat) : Int) - 1075)).toNat : Nat) : Int)) = _
  rw [show (((E : Int) - 1075) - min ((E : Int) - 1075) (((1023 : Nat) : Int) - 1075)).toNat = 0 by omega, show ((((1023 : Nat) : Int) - 1075) - min ((E : Int) - 1075) (((1023 : Nat) : Int) - 1075)).toNat = (1022 - E) + 1 by omega]
  have hp := Nat.two_pow_pos (1022 - E)
  rw [fx_cmp.1 (by rw [Nat.pow_succ]; omega)]
theorem fx_ge {t : Nat} (ht : t < 4503599627370496) : FP.dcmp (UInt64.ofNat (1023 * 4503599627370496 + t)) FP.dconst1 = some .gt ∨ FP.dcmp (UInt64.ofNat (1023 * 4503599627370496 + t)) FP.dconst1 = some .eq := by
  have key : FP.dcmp (UInt64.ofNat (1023 * 4503599627370496 + t)) FP.dconst1 = some (compare (((4503599627370496 + t) * 2 ^ 0 : Nat) : Int) (((4503599627370496 + 0) * 2 ^ 0 : Nat) : Int)) := by
    show FP.Core.order (FP.Core.decode FP.Core.b64 _) (FP.Core.decode FP.Core.b64 _) = _
    rw [fx_one, fx_decb (E := 1023) (by decide) (by omega) ht, fx_decb (E := 1023) (t := 0) (by decide) (by decide) (by decide)]
    rfl
  rw [key]
  by_cases h : t = 0
  · right; rw [fx_cmp.2.1 (by subst h; rfl)]
  · left; rw [fx_cmp.2.2 (by omega)]
theorem fx_pos {E t : Nat} (h1 : 1 ≤ E) (h2 : E ≤ 2046) (ht : t < 4503599627370496) : FP.dcmp (UInt64.ofNat (E * 4503599627370496 + t)) FP.dconst0 = some .gt := by
  show FP.Core.order (FP.Core.decode FP.Core.b64 _) (FP.Core.decode FP.Core.b64 0) = _
  rw [fx_decb h1 h2 ht, fx_dec0]
  show some (compare (((4503599627370496 + t) * 2 ^ (((E : Int) - 1075) - min ((E : Int) - 1075) (-1074)).toNat : Nat) : Int) ((0 * _ : Nat) : Int)) = _
  rw [Nat.zero_mul]
  have hp := Nat.mul_pos (show 0 < 4503599627370496 + t by omega) (Nat.two_pow_pos (((E : Int) - 1075) - min ((E : Int) - 1075) (-1074)).toNat)
  rw [fx_cmp.2.2 (by omega)]
theorem fx_self {E t : Nat} (h1 : 1 ≤ E) (h2 : E ≤ 2046) (ht : t < 4503599627370496) : FP.dcmp (UInt64.ofNat (E * 4503599627370496 + t)) (UInt64.ofNat (E * 4503599627370496 + t)) = some .eq := by
  show FP.Core.order (FP.Core.decode FP.Core.b64 _) (FP.Core.decode FP.Core.b64 _) = _
  rw [fx_decb h1 h2 ht]
  exact congrArg some (fx_cmp.2.1 rfl)
theorem fx_nn {E t : Nat} (h2 : E ≤ 2046) (ht : t < 4503599627370496) : vf_n64 (UInt64.ofNat (E * 4503599627370496 + t)) := by
  unfold vf_n64
  rw [UInt64.le_iff_toNat_le, UInt64.toNat_and, fx_nat h2 ht]
  exact Nat.le_trans Nat.and_le_left (show _ ≤ 9218868437227405312 by omega)
-- the share less one, and what it holds of whole units
theorem fx_log {t : Nat} (h0 : t ≠ 0) (ht : t < 4503599627370496) : ∃ l, l ≤ 51 ∧ 2 ^ l ≤ t ∧ t < 2 ^ (l + 1) := by
  refine ⟨t.log2, ?_, Nat.log2_self_le h0, Nat.lt_log2_self⟩
  have := (Nat.log2_lt (n := t) (k := 52) h0).mpr ht
  omega
theorem fx_sub0 : FP.dsub (UInt64.ofNat (1023 * 4503599627370496 + 0)) FP.dconst1 = 0 := by decide
theorem fx_sub {t l : Nat} (l1 : 2 ^ l ≤ t) (l2 : t < 2 ^ (l + 1)) (l3 : l ≤ 51) (ht : t < 4503599627370496) : FP.dsub (UInt64.ofNat (1023 * 4503599627370496 + t)) FP.dconst1 = UInt64.ofNat ((l + 971) * 4503599627370496 + (t * 2 ^ (52 - l) - 4503599627370496)) := by
  have hs := fx_shift l1 l2 (by omega)
  have tp := Nat.two_pow_pos l
  show UInt64.ofNat (FP.Core.sub FP.Core.b64 _ _) = _
  unfold FP.Core.sub
  rw [fx_one, fx_decb (E := 1023) (by decide) (by omega) ht, fx_decb (E := 1023) (t := 0) (by decide) (by decide) (by decide)]
  have key : FP.Core.exactSum (.fin false (4503599627370496 + t) (((1023 : Nat) : Int) - 1075)) (FP.Core.negate (.fin false (4503599627370496 + 0) (((1023 : Nat) : Int) - 1075))) = .fin false t (-52) := by
    show FP.Core.Datum.fin (FP.Core.sumSign false true (((4503599627370496 + t) * 2 ^ 0 : Nat) + -(((4503599627370496 + 0) * 2 ^ 0 : Nat) : Int))) (((4503599627370496 + t) * 2 ^ 0 : Nat) + -(((4503599627370496 + 0) * 2 ^ 0 : Nat) : Int)).natAbs (-52) = _
    rw [show (((4503599627370496 + t) * 2 ^ 0 : Nat) + -(((4503599627370496 + 0) * 2 ^ 0 : Nat) : Int)) = (t : Int) by omega]
    unfold FP.Core.sumSign
    rw [if_neg (by omega), Int.natAbs_natCast, decide_eq_false (by omega)]
  rw [key, fx_rshort l1 l2 (by omega) (by omega) (by omega)]
  obtain ⟨u, hu⟩ : ∃ u, t * 2 ^ (52 - l) = 4503599627370496 + u := ⟨t * 2 ^ (52 - l) - 4503599627370496, by omega⟩
  rw [hu, fx_enc (E := l + 971) (by omega) (by omega), Nat.add_sub_cancel_left]
theorem fx_d2l {t l : Nat} (l1 : 2 ^ l ≤ t) (l2 : t < 2 ^ (l + 1)) (l3 : l ≤ 51) (ht : t < 4503599627370496) : FP.d2l (UInt64.ofNat ((l + 1023) * 4503599627370496 + (t * 2 ^ (52 - l) - 4503599627370496))) = Int64.ofInt t := by
  have hs := fx_shift l1 l2 (by omega)
  obtain ⟨u, hu⟩ : ∃ u, t * 2 ^ (52 - l) = 4503599627370496 + u := ⟨t * 2 ^ (52 - l) - 4503599627370496, by omega⟩
  show FP.Core.toL (FP.Core.decode FP.Core.b64 _) = _
  rw [fx_decb (by omega) (by omega) (by omega)]
  unfold FP.Core.toL FP.Core.toInt FP.Core.truncate FP.Core.signed
  simp only [Bool.false_eq_true, if_false]
  rw [show (((l + 1023 : Nat) : Int) - 1075).toNat = 0 by omega, show (-(((l + 1023 : Nat) : Int) - 1075)).toNat = 52 - l by omega, show 4503599627370496 + (t * 2 ^ (52 - l) - 4503599627370496) = t * 2 ^ (52 - l) by omega, Nat.pow_zero, Nat.mul_one, Nat.mul_div_cancel _ (Nat.two_pow_pos _)]
  congr 1
  omega
/-- at one and up to two: what is told of it is its tail, and nothing on the way is out of place -/
theorem fx_tail {t : Nat} (ht : t < 4503599627370496) : vf_n64 (FP.dsub (UInt64.ofNat (1023 * 4503599627370496 + t)) FP.dconst1) ∧ vf_n64 (FP.dmul (FP.dsub (UInt64.ofNat (1023 * 4503599627370496 + t)) FP.dconst1) 4841369599423283200) ∧ FP.d2l (FP.dmul (FP.dsub (UInt64.ofNat (1023 * 4503599627370496 + t)) FP.dconst1) 4841369599423283200) = Int64.ofInt t := by
  by_cases h0 : t = 0
  · subst h0
    rw [fx_sub0, fx_big, fx_mul0 (by decide) (by decide)]
    refine ⟨by unfold vf_n64; decide, by unfold vf_n64; decide, ?_⟩
    show FP.Core.toL (FP.Core.decode FP.Core.b64 0) = _
    rw [fx_dec0]
    show Int64.ofInt (max _ (min _ (((0 * 2 ^ (-1074 : Int).toNat / 2 ^ (-(-1074) : Int).toNat : Nat) : Int)))) = _
    rw [Nat.zero_mul, Nat.zero_div]
    rfl
  · obtain ⟨l, l3, l1, l2⟩ := fx_log h0 ht
    have hs := fx_shift l1 l2 (by omega)
    rw [fx_sub l1 l2 l3 ht, fx_big, fx_mul (by omega) (by omega) (by omega) (by decide) (by decide) (by omega) (by omega), show l + 971 + 1075 - 1023 = l + 1023 by omega]
    exact ⟨fx_nn (by omega) (by omega), fx_nn (by omega) (by omega), fx_d2l l1 l2 l3 ht⟩
theorem fx_near_b {num den : Nat} : num / den ≤ FP.Core.nearest num den ∧ FP.Core.nearest num den ≤ num / den + 1 := by
  unfold FP.Core.nearest
  have := Nat.mod_lt (num / den) (show 0 < 2 by decide)
  split
  · omega
  · split <;> omega
theorem fx_fin {n : Nat} {q : Int} (n1 : 4503599627370496 ≤ n) (n2 : n ≤ 9007199254740992) (hq : -112 ≤ q) (hh : q ≤ -53 ∨ n = 4503599627370496 ∧ q = -52) : ∃ E t, 963 ≤ E ∧ E ≤ 1023 ∧ t < 4503599627370496 ∧ FP.Core.encode FP.Core.b64 (FP.Core.settle FP.Core.b64 false n q) = E * 4503599627370496 + t := by
  by_cases h : n = 9007199254740992
  · subst h
    refine ⟨(q + 1076).toNat, 0, by omega, by omega, by decide, ?_⟩
    rw [fx_settle2 (by omega)]
    exact fx_enc (t := 0) (by omega) (by omega)
  · obtain ⟨t, rfl⟩ : ∃ t, n = 4503599627370496 + t := ⟨n - 4503599627370496, by omega⟩
    refine ⟨(q + 1075).toNat, t, by omega, by omega, by omega, ?_⟩
    rw [fx_settle (by omega) (by omega)]
    exact fx_enc (by omega) (by omega)
theorem fx_quot {c d : Nat} {D : Int} (c1 : 4503599627370496 ≤ c) (c2 : c < 9007199254740992) (d1 : 4503599627370496 ≤ d) (d2 : d < 9007199254740992) (h1 : -50 ≤ D) (h2 : D ≤ 0) (h3 : D = 0 → c ≤ d) : ∃ E t, 963 ≤ E ∧ E ≤ 1023 ∧ t < 4503599627370496 ∧ FP.Core.encode FP.Core.b64 (FP.Core.roundRatio FP.Core.b64 false c d D) = E * 4503599627370496 + t := by
  have lc : c.log2 = 52 := (Nat.log2_eq_iff (by omega)).mpr ⟨by omega, by omega⟩
  have ld : d.log2 = 52 := (Nat.log2_eq_iff (by omega)).mpr ⟨by omega, by omega⟩
  have hL : FP.Core.leading c d = if d ≤ c then 0 else -1 := by
    unfold FP.Core.leading
    simp only [lc, ld, Int.sub_self]
    rw [show ((0 : Int)).toNat = 0 from rfl, show (-(0 : Int)).toNat = 0 from rfl, Nat.pow_zero, Nat.mul_one, Nat.mul_one]
    rfl
  by_cases h : d ≤ c
  · rw [if_pos h] at hL
    rw [fx_rq (L := 0) (n := FP.Core.nearest (c * 4503599627370496) (d * 1)) (by omega) hL (by omega) rfl]
    obtain ⟨b1, b2⟩ := fx_near_b (num := c * 4503599627370496) (den := d * 1)
    rw [Nat.mul_one] at b1 b2 ⊢
    have q1 : 4503599627370496 ≤ c * 4503599627370496 / d := (Nat.le_div_iff_mul_le (by omega)).mpr (by omega)
    have q2 : c * 4503599627370496 / d < 9007199254740992 := (Nat.div_lt_iff_lt_mul (by omega)).mpr (by omega)
    refine fx_fin (by omega) (by omega) (by omega) ?_
    by_cases h0 : D = 0
    · right
      have e : c = d := by have := h3 h0; omega
      subst e
      have k := fx_near (c := 4503599627370496) (d := c) (by omega)
      rw [Nat.mul_comm] at k
      exact ⟨k, by omega⟩
    · left; omega
  · rw [if_neg h] at hL
    rw [fx_rq (L := -1) (n := FP.Core.nearest (c * 9007199254740992) (d * 1)) (by omega) hL (by omega) rfl]
    obtain ⟨b1, b2⟩ := fx_near_b (num := c * 9007199254740992) (den := d * 1)
    rw [Nat.mul_one] at b1 b2 ⊢
    have q1 : 4503599627370496 ≤ c * 9007199254740992 / d := (Nat.le_div_iff_mul_le (by omega)).mpr (by omega)
    have q2 : c * 9007199254740992 / d < 9007199254740992 := (Nat.div_lt_iff_lt_mul (by omega)).mpr (by omega)
    exact fx_fin (by omega) (by omega) (by omega) (Or.inl (by omega))
theorem fx_i2d {v : Int32} {m l : Nat} (h : v.toInt = m) (l1 : 2 ^ l ≤ m) (l2 : m < 2 ^ (l + 1)) (l3 : l ≤ 51) : FP.i2d v = UInt64.ofNat ((l + 1023) * 4503599627370496 + (m * 2 ^ (52 - l) - 4503599627370496)) := by
  have hs := fx_shift l1 l2 (by omega)
  obtain ⟨u, hu⟩ : ∃ u, m * 2 ^ (52 - l) = 4503599627370496 + u := ⟨m * 2 ^ (52 - l) - 4503599627370496, by omega⟩
  show UInt64.ofNat (FP.Core.encode FP.Core.b64 (FP.Core.round FP.Core.b64 (FP.Core.ofInt v.toInt))) = _
  rw [h]
  unfold FP.Core.ofInt
  rw [decide_eq_false (by omega), Int.natAbs_natCast, fx_rshort l1 l2 (by omega) (by omega) (by omega), hu, fx_enc (E := l + 1023) (by omega) (by omega), Nat.add_sub_cancel_left]
theorem fx_i2d0 {v : Int32} (h : v.toInt = 0) : FP.i2d v = 0 := by
  show UInt64.ofNat (FP.Core.encode FP.Core.b64 (FP.Core.round FP.Core.b64 (FP.Core.ofInt v.toInt))) = _
  rw [h]; decide
theorem fx_logm {m : Nat} (h0 : m ≠ 0) (hm : m < 16777216) : ∃ l, l ≤ 23 ∧ 2 ^ l ≤ m ∧ m < 2 ^ (l + 1) := by
  refine ⟨m.log2, ?_, Nat.log2_self_le h0, Nat.lt_log2_self⟩
  have := (Nat.log2_lt (n := m) (k := 24) h0).mpr hm
  omega
theorem fx_ddiv {v w : Int32} {a b : Nat} (ha : v.toInt = a) (hb : w.toInt = b) (h0 : a ≠ 0) (h1 : a ≤ b) (h2 : b < 16777216) : ∃ E t, 963 ≤ E ∧ E ≤ 1023 ∧ t < 4503599627370496 ∧ FP.ddiv (FP.i2d v) (FP.i2d w) = UInt64.ofNat (E * 4503599627370496 + t) := by
  obtain ⟨l, l3, l1, l2⟩ := fx_logm h0 (by omega)
  obtain ⟨k, k3, k1, k2⟩ := fx_logm (m := b) (by omega) h2
  have s1 := fx_shift l1 l2 (by omega)
  have s2 := fx_shift k1 k2 (by omega)
  have hlk : l < k + 1 := (Nat.pow_lt_pow_iff_right (a := 2) (by decide)).mp (by omega)
  have hle : ((l : Int) - k) = 0 → a * 2 ^ (52 - l) ≤ b * 2 ^ (52 - k) := by
    intro e
    have : l = k := by omega
    subst this
    exact Nat.mul_le_mul_right _ h1
  rw [fx_i2d ha l1 l2 (by omega), fx_i2d hb k1 k2 (by omega)]
  have key := fx_quot s1.1 s1.2 s2.1 s2.2 (D := (l : Int) - k) (by omega) (by omega) hle
  obtain ⟨E, t, e1, e2, e3, e4⟩ := key
  refine ⟨E, t, e1, e2, e3, ?_⟩
  show UInt64.ofNat (FP.Core.encode FP.Core.b64 (FP.Core.quotient FP.Core.b64 (FP.Core.decode FP.Core.b64 _) (FP.Core.decode FP.Core.b64 _))) = _
  rw [fx_decb (by omega) (by omega) (by omega), fx_decb (by omega) (by omega) (by omega)]
  unfold FP.Core.quotient
  simp only []
  rw [if_neg (by omega), show 4503599627370496 + (a * 2 ^ (52 - l) - 4503599627370496) = a * 2 ^ (52 - l) by omega, show 4503599627370496 + (b * 2 ^ (52 - k) - 4503599627370496) = b * 2 ^ (52 - k) by omega, show ((l + 1023 : Nat) : Int) - 1075 - (((k + 1023 : Nat) : Int) - 1075) = (l : Int) - k by omega]
  exact congrArg UInt64.ofNat e4
theorem fx_ddiv0 {v w : Int32} {b : Nat} (ha : v.toInt = 0) (hb : w.toInt = b) (h0 : b ≠ 0) (h2 : b < 16777216) : FP.ddiv (FP.i2d v) (FP.i2d w) = 0 := by
  obtain ⟨k, k3, k1, k2⟩ := fx_logm (m := b) (by omega) h2
  have s2 := fx_shift k1 k2 (by omega)
  rw [fx_i2d0 ha, fx_i2d hb k1 k2 (by omega)]
  show UInt64.ofNat (FP.Core.encode FP.Core.b64 (FP.Core.quotient FP.Core.b64 (FP.Core.decode FP.Core.b64 0) (FP.Core.decode FP.Core.b64 _))) = _
  rw [fx_dec0, fx_decb (by omega) (by omega) (by omega)]
  unfold FP.Core.quotient
  simp only []
  rw [if_neg (by omega)]
  show UInt64.ofNat (FP.Core.encode FP.Core.b64 (.fin false 0 (-1074))) = _
  rw [fx_enc0]; rfl
theorem fx_loop {t : Nat} (ht : t < 4503599627370496) : ∀ (n E : Nat), 1023 ≤ E + n → 1 ≤ E → E ≤ 1023 → bsx n (UInt64.ofNat (E * 4503599627370496 + t)) = UInt64.ofNat (1023 * 4503599627370496 + t) ∧ (∀ e : Int, bse n (UInt64.ofNat (E * 4503599627370496 + t)) (Int64.ofInt e) = Int64.ofInt (e - (1023 - E))) ∧ bsok n (UInt64.ofNat (E * 4503599627370496 + t)) := by
  obtain ⟨t1, t2, -⟩ := fx_tail ht
  have ge : 0 ≤ Op.cmpValue (FP.dcmp (UInt64.ofNat (1023 * 4503599627370496 + t)) FP.dconst1) CmpOp.g := by
    rcases fx_ge ht with h | h <;> rw [h] <;> decide
  intro n
  induction n with
  | zero =>
    intro E h1 h2 h3
    have e : E = 1023 := by omega
    subst e
    refine ⟨rfl, fun e => ?_, t1, t2⟩
    show Int64.ofInt e = _
    congr 1
    omega
  | succ n ih =>
    intro E h1 h2 h3
    by_cases h : E = 1023
    · subst h
      refine ⟨bsx_e ge, fun e => ?_, ?_⟩
      · rw [bse_e ge]; congr 1; omega
      · rw [bsok, if_pos ge]; exact ⟨t1, t2⟩
    · have lt : ¬ 0 ≤ Op.cmpValue (FP.dcmp (UInt64.ofNat (E * 4503599627370496 + t)) FP.dconst1) CmpOp.g := by
        rw [fx_small h2 (by omega) ht]; decide
      obtain ⟨i1, i2, i3⟩ := ih (E + 1) (by omega) (by omega) (by omega)
      refine ⟨?_, fun e => ?_, ?_⟩
      · rw [bsx_s lt, fx_dbl h2 (by omega) ht, i1]
      · rw [bse_s lt, fx_dbl h2 (by omega) ht, show Int64.ofInt e - 1 = Int64.ofInt (e - 1) from (Int64.ofInt_sub e 1).symm, i2]; congr 1; omega
      · rw [bsok, if_neg lt, fx_dbl h2 (by omega) ht]
        exact ⟨fx_nn (by omega) ht, i3⟩
theorem fx_shl {E t : Nat} : (Int64.ofInt (E : Int)) <<< ((52 : Int32).toInt64 &&& 63) + Int64.ofInt (t : Int) = (UInt64.ofNat (E * 4503599627370496 + t)).toInt64 := by
  have hs : (52 : Int32).toInt64 &&& 63 = 52 := by decide
  have k : ((52 : Int64).toBitVec.smod 64) = 52#64 := by decide
  have a1 : (Int64.ofInt (E : Int)).toBitVec = BitVec.ofNat 64 E := by
    rw [Int64.toBitVec_ofInt, BitVec.ofInt_natCast]
  have a2 : (Int64.ofInt (t : Int)).toBitVec = BitVec.ofNat 64 t := by
    rw [Int64.toBitVec_ofInt, BitVec.ofInt_natCast]
  have a3 : (UInt64.ofNat (E * 4503599627370496 + t)).toInt64.toBitVec = BitVec.ofNat 64 (E * 4503599627370496 + t) := rfl
  apply Int64.toBitVec_inj.mp
  rw [hs, Int64.toBitVec_add, Int64.toBitVec_shiftLeft, k, a1, a2, a3]
  have b : BitVec.ofNat 64 E <<< (52#64) = BitVec.ofNat 64 (E * 4503599627370496) := by
    apply BitVec.eq_of_toNat_eq
    rw [BitVec.shiftLeft_eq', BitVec.toNat_shiftLeft, BitVec.toNat_ofNat, BitVec.toNat_ofNat, BitVec.toNat_ofNat, Nat.shiftLeft_eq, show 2 ^ (52 % 2 ^ 64) = 4503599627370496 by decide]
    omega
  rw [b, BitVec.ofNat_add]
theorem fx_bts {E t : Nat} (h1 : 963 ≤ E) (h2 : E ≤ 1023) (ht : t < 4503599627370496) : (UInt64.ofNat (E * 4503599627370496 + t)).toInt64 = bts (UInt64.ofNat (E * 4503599627370496 + t)) := by
  obtain ⟨i1, i2, i3⟩ := fx_loop ht 60 E (by omega) (by omega) h2
  have i2 := i2 1023
  rw [show (1023 : Int) - (1023 - (E : Int)) = (E : Int) by omega] at i2
  unfold bts
  rw [if_pos (by rw [fx_pos (by omega) (by omega) ht]; decide), i1, show (1023 : Int64) = Int64.ofInt 1023 from rfl, i2, (fx_tail ht).2.2, fx_shl]
theorem fx_share {M : Int} {z : Nat → Int32} (g : 0 ≤ (z 9).toInt ∧ (z 9).toInt ≤ (z 0).toInt ∧ (z 0).toInt ≤ M) (hM : M ≤ 10000000) (hz : ¬ z 0 ≤ 0) : FP.ddiv (FP.i2d (z 9)) (FP.i2d (z 0)) = 0 ∨ ∃ E t, 963 ≤ E ∧ E ≤ 1023 ∧ t < 4503599627370496 ∧ FP.ddiv (FP.i2d (z 9)) (FP.i2d (z 0)) = UInt64.ofNat (E * 4503599627370496 + t) := by
  obtain ⟨g1, g2, g3⟩ := g
  have hz' : ¬ (z 0).toInt ≤ 0 := fun h => hz (Int32.le_iff_toInt_le.mpr h)
  obtain ⟨b, hb⟩ : ∃ b : Nat, (z 0).toInt = b := ⟨(z 0).toInt.toNat, by omega⟩
  obtain ⟨a, ha⟩ : ∃ a : Nat, (z 9).toInt = a := ⟨(z 9).toInt.toNat, by omega⟩
  by_cases h0 : a = 0
  · subst h0
    exact Or.inl (fx_ddiv0 ha hb (by omega) (by omega))
  · exact Or.inr (fx_ddiv ha hb h0 (by omega) (by omega))
theorem fx_share2 {M : Int} {z : Nat → Int32} (g : 0 ≤ (z 9).toInt ∧ (z 9).toInt ≤ (z 0).toInt ∧ (z 0).toInt ≤ M) (hM : M ≤ 10000000) : share z = 0 ∨ ∃ E t, 963 ≤ E ∧ E ≤ 1023 ∧ t < 4503599627370496 ∧ share z = UInt64.ofNat (E * 4503599627370496 + t) := by
  unfold share
  by_cases hz : z 0 ≤ 0
  · rw [if_pos hz]
    exact Or.inr ⟨1023, 0, by decide, by decide, by decide, fx_one⟩
  · rw [if_neg hz]
    exact fx_share g hM hz
theorem good_nn {M : Int} {z : Nat → Int32} (g : good M z) (hM : M ≤ 10000000) : ¬ z 0 ≤ 0 → vf_n64 (FP.ddiv (FP.i2d (z 9)) (FP.i2d (z 0))) := by
  intro hz
  rcases fx_share g.2.2.1 hM hz with h | ⟨E, t, -, e2, e3, h⟩
  · rw [h]; unfold vf_n64; decide
  · rw [h]; exact fx_nn (by omega) e3
theorem good_dd {M : Int} {z : Nat → Int32} (g : good M z) (hM : M ≤ 10000000) : Op.cmpValue (FP.dcmp (share z) (share z)) CmpOp.l = 0 := by
  rcases fx_share2 g.2.2.1 hM with h | ⟨E, t, e1, e2, e3, h⟩
  · rw [h]; decide
  · rw [h, fx_self (by omega) (by omega) e3]; rfl
theorem good_bs {M : Int} {z : Nat → Int32} (g : good M z) (hM : M ≤ 10000000) : 0 < Op.cmpValue (FP.dcmp (share z) FP.dconst0) CmpOp.g → bsok 60 (share z) := by
  intro hp
  rcases fx_share2 g.2.2.1 hM with h | ⟨E, t, e1, e2, e3, h⟩
  · rw [h] at hp; exact absurd hp (by decide)
  · rw [h]; exact (fx_loop e3 60 E (by omega) (by omega) e2).2.2
theorem good_bt {M : Int} {z : Nat → Int32} (g : good M z) (hM : M ≤ 10000000) : (share z).toInt64 = bts (share z) := by
  rcases fx_share2 g.2.2.1 hM with h | ⟨E, t, e1, e2, e3, h⟩
  · rw [h]; unfold bts; rw [if_neg (by decide)]; decide
  · rw [h]; exact fx_bts e1 e2 e3
