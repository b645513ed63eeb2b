/-! What an order keeps. -/
section STUBS
variable {M : Int} {z zk t y yr yr' sd kp tx : Nat → Int32} {zs : Nat → Nat → Int32} {hf : Int32} {i q len : Nat}
theorem INV_obey {z' t' : Nat → Int32} (iv : INV M z zk t y zs hf yr sd kp tx) (hi6 : i < 6) (hq : q ≤ 6) (hy : y 0 = nI i) (hy1 : y 1 = nI q) (hrg : ∀ j, j < q → ∀ k, k < 225 → sd (225 * j + k) = zs ((i + 6 - q + j) % 6) k) (hgs : ∀ j, j < q → good M (zs ((i + 6 - q + j) % 6))) (hg : good (M + 6000) z') (h1 : yr' 1 = nI (recN q)) (h2 : yr' 2 = yr 2) (h3 : yr' 3 = 0) (ht : t' 0 = 0) : INV (M + 6000) z' zk t' (pushY y) (va_up zs i z) hf yr' (recS sd z q) kp tx := by
  obtain ⟨g, ⟨k1, k2⟩, -, -⟩ := iv
  obtain ⟨r1, r2⟩ := push_ring hi6 hq g hrg hgs
  exact ⟨hg, ⟨h2.trans k1, kept_mono (by omega) k2⟩, ⟨(i + 1) % 6, recN q, Nat.mod_lt _ (by decide), recN_le hq, pushY_0 hi6 hy, pushY_1 hq hy1, h1, r1, ring_mono (by omega) r2⟩, 0, ht, by omega, h3, fun j hj => absurd hj (Nat.not_lt_zero j)⟩
end STUBS
