/-! Every call keeps what holds of a state. -/
section GOODS
variable {M : Int} {z : Nat → Int32} {k n : Nat} {v w : Int32}
theorem in_k (h : k < 6) : inR (nI k) 0 5 := sorry
theorem pass_nat (h : inR v 1 99) : ∃ N, N < 100 ∧ v = nI N := sorry
theorem set_in (hk : k < 4) : inR v (lsF k) (msF k) ↔ inR v (lsS (nI k)) (msS (nI k)) := sorry
theorem set_no (h : ¬ inR v 0 3) : ¬ (¬ v < 0 ∧ v < 4) := sorry
theorem good_wind (g : good M z) (h : inR v 1 48) : good (M + 6000) (upd z 1 (mn48 (z 1 + v))) := sorry
theorem good_weigh (g : good M z) (hk : k < 6) (h : inR v (-60) 60) : good (M + 6000) (upd z (19 + k) v) := sorry
theorem good_adjust (g : good M z) (h : inR v (-99) 99) (h2 : inR w (-50) 50) : good (M + 6000) (upd (upd z 2 v) 3 w) := sorry
theorem good_magnetise (g : good M z) (h : inR v 1 100) : good (M + 6000) (upd z 4 (mn100 (z 4 + v))) := sorry
theorem good_demagnetise (g : good M z) : good (M + 6000) (upd z 4 0) := sorry
theorem good_clean (g : good M z) : good (M + 6000) (upd z 5 0) := sorry
theorem good_lay (g : good M z) (hk : k < 6) : good (M + 6000) (upd z 6 (nI k)) := sorry
theorem good_pass {N : Nat} (g : good M z) (hz : z 6 = nI k) (hk : k < 6) (hN : N < 100) (hM : M ≤ 10000000) : good (M + 6000) (hoursF N z k) := sorry
theorem rate_readF (hk : k < 6) (hn : n < 40) : rate (readF z n k) k = rate z k := sorry
theorem good_read (g : good M z) (hk : k < 6) (hn : z 10 = nI n) (hn4 : n < 40) : good (M + 6000) (readF z n k) := sorry
theorem good_renew (g : good M z) : good (M + 6000) (upd z 10 0) := sorry
theorem good_set (g : good M z) (hk : k < 4) : good (M + 6000) (upd z (12 + k) v) := sorry
theorem good_okp (g : good M z) (hM : M ≤ 10000000) (hn : z 10 = nI n) (hn4 : n ≤ 40) : okp z n := sorry
theorem good_dr (g : good M z) (hM : M ≤ 10000000) (hn : z 10 = nI n) (hn4 : n ≤ 40) : dr1 z n = dr2 z n := sorry
theorem good_E (g : good M z) (hM : M ≤ 10000000) : ¬ 2000000000 ≤ am (wz1 z 0 7) := sorry
theorem good_0 (g : good M z) : 0 ≤ (z 0).toInt := sorry
theorem good_nn (g : good M z) (hM : M ≤ 10000000) : ¬ z 0 ≤ 0 → vf_n64 (FP.ddiv (FP.i2d (z 9)) (FP.i2d (z 0))) := sorry
theorem good_dd (g : good M z) (hM : M ≤ 10000000) : Op.cmpValue (FP.dcmp (share z) (share z)) CmpOp.l = 0 := sorry
end GOODS
section STUBS
variable {M : Int} {z zk t y yr yr' sd kp tx : Nat → Int32} {zs : Nat → Nat → Int32} {hf : Int32} {i q len : Nat}
theorem ps_err (h0 : t 0 = nI len) (h6 : len ≤ 60) (h : ∀ j, j < len → tx j = t (300 + j) ∧ inR (tx j) 33 126) : scR len (bgn (upd t 1 0)) 0 = ferR tx len := sorry
theorem ps_t (h0 : t 0 = nI len) (h6 : len ≤ 60) (h : ∀ j, j < len → tx j = t (300 + j) ∧ inR (tx j) 33 126) : scF len (bgn (upd t 1 0)) 0 0 = nI len ∧ ∀ j, j < len → tx j = scF len (bgn (upd t 1 0)) 0 (300 + j) ∧ inR (tx j) 33 126 := sorry
theorem ps_ct (h0 : t 0 = nI len) (h6 : len ≤ 60) (h : ∀ j, j < len → tx j = t (300 + j) ∧ inR (tx j) 33 126) : cmF len t 0 = nI len ∧ ∀ j, j < len → tx j = cmF len t (300 + j) ∧ inR (tx j) 33 126 := sorry
theorem ps_cm (h0 : t 0 = nI len) (h6 : len ≤ 60) (h : ∀ j, j < len → tx j = t (300 + j) ∧ inR (tx j) 33 126) : cmB len t = true ↔ ¬ 0 ≤ feR tx len (len + 1) 0 := sorry
theorem ps_np (h0 : t 0 = nI len) (h6 : len ≤ 60) (h : ∀ j, j < len → tx j = t (300 + j) ∧ inR (tx j) 33 126) (c : cmB len t = true) : ∃ np, np ≤ 60 ∧ cmF len t 1 = nI np ∧ ∀ q, q < np → vtx (cmF len t) q := sorry
theorem ps_ob {np : Nat} (h0 : t 0 = nI len) (h6 : len ≤ 60) (h : ∀ j, j < len → tx j = t (300 + j) ∧ inR (tx j) 33 126) (c : cmB len t = true) (hn : cmF len t 1 = nI np) (hn6 : np ≤ 60) (g : good M z) : obF (cmF len t) np (fst0 z) 0 = rbF tx len (len + 1) 0 (fst0 z) 0 ∧ obN (cmF len t) np (fst0 z) 0 = rbN tx len (len + 1) 0 (fst0 z) 0 := sorry
theorem good_rb (g : good M z) (hM : M ≤ 10000000) (h6 : len ≤ 60) (hfe : ¬ 0 ≤ feR tx len (len + 1) 0) : good (M + 6000) (rbF tx len (len + 1) 0 (fst0 z) 0) := sorry
theorem rbY_q {k : Nat} (h4 : ¬ k = 4) (h5 : ¬ k = 5) : ∀ (m j : Nat) (z : Nat → Int32) (q : Nat) (y : Nat → Int32), rbY tx len m j z q y k = y k := sorry
theorem good_bs (g : good M z) (hM : M ≤ 10000000) : 0 < Op.cmpValue (FP.dcmp (share z) FP.dconst0) CmpOp.g → bsok 60 (share z) := sorry
theorem good_bt (g : good M z) (hM : M ≤ 10000000) : (share z).toInt64 = bts (share z) := sorry
theorem INV_obey {z' t' : Nat → Int32} (iv : INV M z zk t y zs hf yr sd kp tx) (hi6 : i < 6) (hq : q ≤ 6) (hy : y 0 = nI i) (hy1 : y 1 = nI q) (hrg : ∀ j, j < q → ∀ k, k < 225 → sd (225 * j + k) = zs ((i + 6 - q + j) % 6) k) (hgs : ∀ j, j < q → good M (zs ((i + 6 - q + j) % 6))) (hg : good (M + 6000) z') (h1 : yr' 1 = nI (recN q)) (h2 : yr' 2 = yr 2) (h3 : yr' 3 = 0) (ht : t' 0 = 0) : INV (M + 6000) z' zk t' (pushY y) (va_up zs i z) hf yr' (recS sd z q) kp tx := by
  obtain ⟨g, ⟨k1, k2⟩, -, -⟩ := iv
  obtain ⟨r1, r2⟩ := push_ring hi6 hq g hrg hgs
  exact ⟨hg, ⟨h2.trans k1, kept_mono (by omega) k2⟩, ⟨(i + 1) % 6, recN q, Nat.mod_lt _ (by decide), recN_le hq, pushY_0 hi6 hy, pushY_1 hq hy1, h1, r1, ring_mono (by omega) r2⟩, 0, ht, by omega, h3, fun j hj => absurd hj (Nat.not_lt_zero j)⟩
end STUBS
