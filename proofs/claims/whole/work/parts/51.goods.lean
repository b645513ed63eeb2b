/-! Every call keeps what holds of a state. -/
section GOODS
variable {M : Int} {z : Nat → Int32} {k n : Nat} {v w : Int32}
theorem in_k (h : k < 6) : inR (nI k) 0 5 := sorry
theorem pass_nat (h : inR v 1 99) : ∃ N, N < 100 ∧ v = nI N := sorry
theorem set_in (hk : k < 4) : inR v (lsF k) (msF k) ↔ inR v (lsS (nI k)) (msS (nI k)) := sorry
theorem set_no (h : ¬ inR v 0 3) : ¬ (¬ v < 0 ∧ v < 4) := sorry
theorem good_wind (g : good M z) (h : inR v 1 48) : good (M + 6000) (upd z 1 (mn48 (z 1 + v))) := sorry
theorem good_weigh (g : good M z) (hk : k < 6) (h : inR v (-60) 60) : good (M + 6000) (upd z (19 + k) v) := sorry
theorem good_adjust (g : good M z) (h : inR v (-99) 99) (h2 : inR w (-50) 50) : good (M + 6000) (upd (upd z 2 v) 3 w) := sorry
theorem good_magnetise (g : good M z) (h : inR v 1 100) : good (M + 6000) (upd z 4 (mn100 (z 4 + v))) := sorry
theorem good_demagnetise (g : good M z) : good (M + 6000) (upd z 4 0) := sorry
theorem good_clean (g : good M z) : good (M + 6000) (upd z 5 0) := sorry
theorem good_lay (g : good M z) (hk : k < 6) : good (M + 6000) (upd z 6 (nI k)) := sorry
theorem good_pass {N : Nat} (g : good M z) (hz : z 6 = nI k) (hk : k < 6) (hN : N < 100) (hM : M ≤ 10000000) : good (M + 6000) (hoursF N z k) := sorry
theorem rate_readF (hk : k < 6) (hn : n < 40) : rate (readF z n k) k = rate z k := sorry
theorem good_read (g : good M z) (hk : k < 6) (hn : z 10 = nI n) (hn4 : n < 40) : good (M + 6000) (readF z n k) := sorry
theorem good_renew (g : good M z) : good (M + 6000) (upd z 10 0) := sorry
theorem good_set (g : good M z) (hk : k < 4) : good (M + 6000) (upd z (12 + k) v) := sorry
theorem good_okp (g : good M z) (hM : M ≤ 10000000) (hn : z 10 = nI n) (hn4 : n ≤ 40) : okp z n := sorry
theorem good_dr (g : good M z) (hM : M ≤ 10000000) (hn : z 10 = nI n) (hn4 : n ≤ 40) : dr1 z n = dr2 z n := sorry
theorem good_E (g : good M z) (hM : M ≤ 10000000) : ¬ 2000000000 ≤ am (wz1 z 0 7) := sorry
theorem good_0 (g : good M z) : 0 ≤ (z 0).toInt := sorry
theorem good_nn (g : good M z) (hM : M ≤ 10000000) : ¬ z 0 ≤ 0 → vf_n64 (FP.ddiv (FP.i2d (z 9)) (FP.i2d (z 0))) := sorry
theorem good_dd (g : good M z) (hM : M ≤ 10000000) : Op.cmpValue (FP.dcmp (share z) (share z)) CmpOp.l = 0 := sorry
end GOODS
