section LOOP
variable {p : Program} {l : Launch} {e : Env} {s : State} {m : MethodId} {below : List Frame} {meth : Method} {c : Code} {Q : State → Prop} {A : Nat → Prop} {D : va_G} {cI cJ cO : ClassId} {o : Nat → Nat} {bs L : Nat} {xs : Nat → Int32}
  {xx ak b tr an w1n wan pan ran san w1k wak pak rak sak tc tk tn twa sv rr ga aa ba da : Nat} {hf : Int32} {rg : Nat → Nat → Nat} {zk t : Nat → Int32}
set_option maxHeartbeats 8000000 in
set_option maxRecDepth 100000 in
theorem law_loop (hst : l.stackTraces = false) (X : cx p m c cL_law 10 s #[.ref bs] wsL_law RL D (TY cI cJ cO)) (hA : ∀ q : Nat, s.heap.size ≤ q → A q) (ox : OX o cI A s s.heap) (hX : va_X bs L xs s s.heap) (hbl : bs < s.heap.size) (hbA : ¬ A bs) (hL : L ≤ 260)
    (fin : ∀ (ws : va_W) (H : Heap) (locs : List Loc) (ls : Array Slot) (cells slots : Nat), wd D A s.heap H locs ws → cells ≤ 723167 → slots ≤ 6932124 → W p l e room_1 s m #[.ref bs] below meth c H locs cells slots Q (F0 m 335 ls [.int 1])) :
    ∀ (n : Nat) (tN : Nat) (z y zt : Nat → Int32) (zs : Nat → Nat → Int32) (i : Nat) (H : Heap) (locs : List Loc) (ls : Array Slot) (cells slots : Nat), tN + n = 56 → good (6000 * (tN : Int)) z → goodQ z → i < 6 → y 0 = nI i → cells + 6 * n ≤ 723167 → slots + 68 * n ≤ 6932124 → wd D A s.heap H locs ([oX xx an ak sv b tr hf, oS an w1n pan san z, aI cI san 4 12 z, oW w1n wan z, aI cI wan 6 19 z, oP pan ran z, aI cI ran 200 25 z, oS ak w1k pak sak zk, aI cI sak 4 12 zk, oW w1k wak zk, aI cI wak 6 19 zk, oP pak rak zk, aI cI rak 200 25 zk, oT b tc tk tn t, aI cI tc 60 300 t, aI cI tk 60 100 t, aI cI tn 60 200 t, oW tr twa zt, aI cI twa 6 19 zt, oV sv rr y, aO cO rr (rgA rg), aI cI ga 22 0 (gz z), aI cI aa 40 0 (pA z), aI cI ba 40 0 (pB z), aI cI da 40 0 (pD z)] ++ rgS cI rg zs) → lv_has ls 10 [(6, .int (nI tN)), (0, .ref bs), (1, .ref xx), (2, .ref ga), (3, .ref aa), (4, .ref ba), (5, .ref da)] → W p l e room_1 s m #[.ref bs] below meth c H locs cells slots Q (F0 m 197 ls []) := by
  obtain ⟨hx, hb, hml, hown, hts⟩ := id X.1
  intro n
  induction n with
  | zero =>
    intro tN z y zt zs i H locs ls cells slots hi hgd hQ hi6 hy hcb1 hcb2 w hl
    have e : tN = 56 := hi
    subst e
    refine lv_iload hx hb dL_law_197 (lv_at hl 0 rfl) ?_
    refine lv_bipush (v := 56) hx hb dL_law_199 (by decide) ?_
    refine lv_icmp_ge (tgt := 334) hx hb dL_law_201 (by decide) (fun c1 => ?_) (fun c1 => absurd c1 (by decide))
    refine lv_iconst (v := 1) hx hb dL_law_334 (by decide) ?_
    exact fin _ _ _ _ _ _ w (by omega) (by omega)
  | succ n ih =>
    intro tN z y zt zs i H locs ls cells slots hi hgd hQ hi6 hy hcb1 hcb2 w hl
    refine lv_iload hx hb dL_law_197 (lv_at hl 0 rfl) ?_
    refine lv_bipush (v := 56) hx hb dL_law_199 (by decide) ?_
    refine lv_icmp_ge (tgt := 334) hx hb dL_law_201 (by decide) (fun c1 => absurd c1 (nI_ge (a := tN) (b := 56) (by omega) (by decide))) (fun c1 => ?_)
    refine lv_aload_n hx hb dL_law_204 rfl (lv_at hl 1 rfl) ?_
    refine lv_iconst (v := 2) hx hb dL_law_205 (by decide) ?_
    refine lv_iload hx hb dL_law_206 (lv_at hl 0 rfl) ?_
    refine lv_imul hx hb dL_law_208 ?_
    rw [show 2 * (nI tN) = nI (2 * tN) from (nI_mulp rfl rfl)]
    refine k_cis (k_runSC X w hX hbl hbA (met_L_cell l D cI cJ cO bs L xs (2 * tN) (by omega) (by omega) H.size) gL_law_L_cell rfl rfl rfl 2 hdL_cell ⟨Nat.le_of_ble_eq_true rfl, Nat.le_of_ble_eq_true rfl⟩ rfl hl.1 rfl (Nat.le_of_ble_eq_true rfl) dL_law_209 ⟨show _ ≤ 723167 by omega, show _ ≤ 6932124 by omega⟩) w hA (fun xv H locs w => ?_)
    refine lv_istore (lv' := [(7, .int xv), (6, .int (nI tN)), (0, .ref bs), (1, .ref xx), (2, .ref ga), (3, .ref aa), (4, .ref ba), (5, .ref da)]) hx hb dL_law_212 hl (by decide) rfl (fun ls hl => ?_)
    refine lv_aload_n hx hb dL_law_214 rfl (lv_at hl 2 rfl) ?_
    refine lv_iconst (v := 2) hx hb dL_law_215 (by decide) ?_
    refine lv_iload hx hb dL_law_216 (lv_at hl 1 rfl) ?_
    refine lv_imul hx hb dL_law_218 ?_
    refine lv_iconst (v := 1) hx hb dL_law_219 (by decide) ?_
    refine lv_iadd hx hb dL_law_220 ?_
    rw [show (2 * (nI tN)) + 1 = nI (2 * tN + 1) from (nI_addp (nI_mulp rfl rfl) rfl)]
    refine k_cis (k_runSC X w hX hbl hbA (met_L_cell l D cI cJ cO bs L xs (2 * tN + 1) (by omega) (by omega) H.size) gL_law_L_cell rfl rfl rfl 2 hdL_cell ⟨Nat.le_of_ble_eq_true rfl, Nat.le_of_ble_eq_true rfl⟩ rfl hl.1 rfl (Nat.le_of_ble_eq_true rfl) dL_law_221 ⟨show _ ≤ 723167 by omega, show _ ≤ 6932124 by omega⟩) w hA (fun yv H locs w => ?_)
    refine lv_istore (lv' := [(8, .int yv), (7, .int xv), (6, .int (nI tN)), (0, .ref bs), (1, .ref xx), (2, .ref ga), (3, .ref aa), (4, .ref ba), (5, .ref da)]) hx hb dL_law_224 hl (by decide) rfl (fun ls hl => ?_)
    refine lv_iload hx hb dL_law_226 (lv_at hl 2 rfl) ?_
    refine lv_if_ne (tgt := 247) hx hb dL_law_228 (by decide) (fun c2 => ?_) (fun c2 => ?_)
    · refine lv_iload hx hb dL_law_247 (lv_at hl 2 rfl) ?_
      refine lv_bipush (v := 7) hx hb dL_law_249 (by decide) ?_
      refine lv_icmp_ge (tgt := 272) hx hb dL_law_251 (by decide) (fun c3 => ?_) (fun c3 => ?_)
      · refine lv_aload_n hx hb dL_law_272 rfl (lv_at hl 4 rfl) ?_
        refine lv_iload hx hb dL_law_273 (lv_at hl 1 rfl) ?_
        refine lv_iload hx hb dL_law_275 (lv_at hl 0 rfl) ?_
        refine lv_aload_n hx hb dL_law_277 rfl (lv_at hl 5 rfl) ?_
        refine lv_aload_n hx hb dL_law_278 rfl (lv_at hl 6 rfl) ?_
        refine lv_aload hx hb dL_law_279 (lv_at hl 7 rfl) ?_
        refine lv_aload hx hb dL_law_281 (lv_at hl 8 rfl) ?_
        refine k_act hst X hA ox xv yv w dL_law_283 hl ⟨by omega, by omega⟩ (by omega) hgd hQ hi6 hy (fun z2 i2 y2 zs2 H locs g1 q1 hi2 hy2 w => ?_)
        exact k_tail hst X hA ox xv yv w hl ⟨by omega, by omega⟩ (by omega) (by omega) g1 q1 (fun zt2 H locs ls w hl => ih (tN + 1) z2 y2 zt2 zs2 i2 H locs ls _ _ (by omega) (good_mono (by omega) g1) q1 hi2 hy2 (by omega) (by omega) w hl)
      · refine lv_aload_n hx hb dL_law_254 rfl (lv_at hl 4 rfl) ?_
        refine lv_iconst (v := 3) hx hb dL_law_255 (by decide) ?_
        refine lv_iload hx hb dL_law_256 (lv_at hl 2 rfl) ?_
        refine lv_iconst (v := 1) hx hb dL_law_258 (by decide) ?_
        refine lv_isub hx hb dL_law_259 ?_
        refine lv_aload_n hx hb dL_law_260 rfl (lv_at hl 5 rfl) ?_
        refine lv_aload_n hx hb dL_law_261 rfl (lv_at hl 6 rfl) ?_
        refine lv_aload hx hb dL_law_262 (lv_at hl 7 rfl) ?_
        refine lv_aload hx hb dL_law_264 (lv_at hl 8 rfl) ?_
        refine k_act hst X hA ox 3 ((nI tN) - 1) w dL_law_266 hl ⟨by omega, by omega⟩ (by omega) hgd hQ hi6 hy (fun z2 i2 y2 zs2 H locs g1 q1 hi2 hy2 w => ?_)
        refine lv_goto (tgt := 286) hx hb dL_law_269 (by decide) ?_
        exact k_tail hst X hA ox xv yv w hl ⟨by omega, by omega⟩ (by omega) (by omega) g1 q1 (fun zt2 H locs ls w hl => ih (tN + 1) z2 y2 zt2 zs2 i2 H locs ls _ _ (by omega) (good_mono (by omega) g1) q1 hi2 hy2 (by omega) (by omega) w hl)
    · refine lv_aload_n hx hb dL_law_231 rfl (lv_at hl 4 rfl) ?_
      refine lv_iconst (v := 0) hx hb dL_law_232 (by decide) ?_
      refine lv_iload hx hb dL_law_233 (lv_at hl 0 rfl) ?_
      refine lv_aload_n hx hb dL_law_235 rfl (lv_at hl 5 rfl) ?_
      refine lv_aload_n hx hb dL_law_236 rfl (lv_at hl 6 rfl) ?_
      refine lv_aload hx hb dL_law_237 (lv_at hl 7 rfl) ?_
      refine lv_aload hx hb dL_law_239 (lv_at hl 8 rfl) ?_
      refine k_act hst X hA ox 0 yv w dL_law_241 hl ⟨by omega, by omega⟩ (by omega) hgd hQ hi6 hy (fun z2 i2 y2 zs2 H locs g1 q1 hi2 hy2 w => ?_)
      refine lv_goto (tgt := 286) hx hb dL_law_244 (by decide) ?_
      exact k_tail hst X hA ox xv yv w hl ⟨by omega, by omega⟩ (by omega) (by omega) g1 q1 (fun zt2 H locs ls w hl => ih (tN + 1) z2 y2 zt2 zs2 i2 H locs ls _ _ (by omega) (good_mono (by omega) g1) q1 hi2 hy2 (by omega) (by omega) w hl)
end LOOP
