section TURN
variable {p : Program} {l : Launch} {e : Env} {s : State} {m : MethodId} {below : List Frame} {meth : Method} {c : Code} {Q : State → Prop} {A : Nat → Prop} {D : va_G} {cI cJ cO : ClassId} {o : Nat → Nat} {bs L : Nat} {xs : Nat → Int32}
  {xx ak b tr an w1n wan pan ran san w1k wak pak rak sak tc tk tn twa sv rr ga aa ba da : Nat} {hf : Int32} {rg : Nat → Nat → Nat} {zk t : Nat → Int32}
set_option maxHeartbeats 8000000 in
set_option maxRecDepth 100000 in
theorem k_tail (hst : l.stackTraces = false) (X : cx p m c cL_law 10 s #[.ref bs] wsL_law RL D (TY cI cJ cO)) (hA : ∀ q : Nat, s.heap.size ≤ q → A q) (ox : OX o cI A s s.heap) {H : Heap} {locs : List Loc} {cells slots tN : Nat} {z y zt : Nat → Int32} {zs : Nat → Nat → Int32} {ls : Array Slot} {M : Int} (xv yv : Int32) (w : wd D A s.heap H locs ([oX xx an ak sv b tr hf, oS an w1n pan san z, aI cI san 4 12 z, oW w1n wan z, aI cI wan 6 19 z, oP pan ran z, aI cI ran 200 25 z, oS ak w1k pak sak zk, aI cI sak 4 12 zk, oW w1k wak zk, aI cI wak 6 19 zk, oP pak rak zk, aI cI rak 200 25 zk, oT b tc tk tn t, aI cI tc 60 300 t, aI cI tk 60 100 t, aI cI tn 60 200 t, oW tr twa zt, aI cI twa 6 19 zt, oV sv rr y, aO cO rr (rgA rg), aI cI ga 22 0 (gz z), aI cI aa 40 0 (pA z), aI cI ba 40 0 (pB z), aI cI da 40 0 (pD z)] ++ rgS cI rg zs)) (hl : lv_has ls 10 [(8, .int yv), (7, .int xv), (6, .int (nI tN)), (0, .ref bs), (1, .ref xx), (2, .ref ga), (3, .ref aa), (4, .ref ba), (5, .ref da)]) (hcb : cells + 2 ≤ 723167 ∧ slots + 44 ≤ 6932124) (ht : tN < 56) (hM : M ≤ 10000000) (hgd : good M z) (hQ : goodQ z)
    (cont : ∀ (zt2 : Nat → Int32) (H : Heap) (locs : List Loc) (ls : Array Slot), wd D A s.heap H locs ([oX xx an ak sv b tr hf, oS an w1n pan san z, aI cI san 4 12 z, oW w1n wan z, aI cI wan 6 19 z, oP pan ran z, aI cI ran 200 25 z, oS ak w1k pak sak zk, aI cI sak 4 12 zk, oW w1k wak zk, aI cI wak 6 19 zk, oP pak rak zk, aI cI rak 200 25 zk, oT b tc tk tn t, aI cI tc 60 300 t, aI cI tk 60 100 t, aI cI tn 60 200 t, oW tr twa zt2, aI cI twa 6 19 zt2, oV sv rr y, aO cO rr (rgA rg), aI cI ga 22 0 (gz z), aI cI aa 40 0 (pA z), aI cI ba 40 0 (pB z), aI cI da 40 0 (pD z)] ++ rgS cI rg zs) → lv_has ls 10 [(6, .int (nI (tN + 1))), (0, .ref bs), (1, .ref xx), (2, .ref ga), (3, .ref aa), (4, .ref ba), (5, .ref da)] → W p l e room_1 s m #[.ref bs] below meth c H locs (cells + 2) (slots + 44) Q (F0 m 197 ls [])) :
    W p l e room_1 s m #[.ref bs] below meth c H locs cells slots Q (F0 m 286 ls [.int 1]) := by
  obtain ⟨hx, hb, hml, hown, hts⟩ := id X.1
  obtain ⟨hcb1, hcb2⟩ := hcb
  obtain ⟨⟨len, hn, hn4⟩, k6, hz6, hk6⟩ := id hgd.2.1
  refine lv_istore (lv' := [(9, .int 1), (8, .int yv), (7, .int xv), (6, .int (nI tN)), (0, .ref bs), (1, .ref xx), (2, .ref ga), (3, .ref aa), (4, .ref ba), (5, .ref da)]) hx hb dL_law_286 hl (by decide) rfl (fun ls hl => ?_)
  refine lv_iload hx hb dL_law_288 (lv_at hl 0 rfl) ?_
  refine lv_if_eq (tgt := 326) hx hb dL_law_290 (by decide) (fun c1 => absurd c1 (by decide)) (fun c1 => ?_)
  refine lv_aload_n hx hb dL_law_293 rfl (lv_at hl 5 rfl) ?_
  refine lv_aload_n hx hb dL_law_294 rfl (lv_at hl 6 rfl) ?_
  refine lv_aload_n hx hb dL_law_295 rfl (lv_at hl 7 rfl) ?_
  refine lv_aload hx hb dL_law_296 (lv_at hl 8 rfl) ?_
  refine lv_aload hx hb dL_law_298 (lv_at hl 9 rfl) ?_
  refine k_ciTm (wr := [oS ak w1k pak sak zk, aI cI sak 4 12 zk, oW w1k wak zk, aI cI wak 6 19 zk, oP pak rak zk, aI cI rak 200 25 zk, oT b tc tk tn t, aI cI tc 60 300 t, aI cI tk 60 100 t, aI cI tn 60 200 t, aO cO rr (rgA rg)]) (es2 := [oX xx an ak sv b tr hf, oS an w1n pan san z, aI cI san 4 12 z, oW w1n wan z, aI cI wan 6 19 z, oP pan ran z, aI cI ran 200 25 z, oS ak w1k pak sak zk, aI cI sak 4 12 zk, oW w1k wak zk, aI cI wak 6 19 zk, oP pak rak zk, aI cI rak 200 25 zk, oT b tc tk tn t, aI cI tc 60 300 t, aI cI tk 60 100 t, aI cI tn 60 200 t, oW tr twa (utrs z zt 6), aI cI twa 6 19 (utrs z zt 6), oV sv rr y, aO cO rr (rgA rg), aI cI ga 22 0 (gz z), aI cI aa 40 0 (pA z), aI cI ba 40 0 (pB z), aI cI da 40 0 (pD z)]) (k_runSM X w ox hA (met_L_isSo l D cI cJ cO o xx ak b tr hf sv an w1n wan pan ran san z twa zt rr y ga aa ba len k6 M da hgd hM hQ hn hn4 hz6 H.size) gL_law_L_isSo rfl rfl rfl 5 hdL_isSo ⟨Nat.le_of_ble_eq_true rfl, Nat.le_of_ble_eq_true rfl⟩ [0, 1, 2, 3, 4, 5, 6, 19, 17, 18, 21, 22, 23, 24] (tl_C rfl) rfl rfl hl.1 rfl (Nat.le_of_ble_eq_true rfl) dL_law_300 ⟨show _ ≤ 723167 by omega, show _ ≤ 6932124 by omega⟩) w hA [0, 1, 2, 3, 4, 5, 6, 19, 17, 18, 21, 22, 23, 24] [7, 8, 9, 10, 11, 12, 13, 14, 15, 16, 20] rfl rfl rfl (by decide) [11, 12, 13, 14, 15, 16, 17, 0, 1, 2, 3, 4, 5, 6, 7, 8, 9, 19, 20, 18, 10, 21, 22, 23, 24] rfl rfl (fun H locs w => ?_)
  refine lv_if_eq (tgt := 326) hx hb dL_law_303 (by decide) (fun c2 => absurd c2 (by decide)) (fun c2 => ?_)
  refine lv_iload hx hb dL_law_306 (lv_at hl 3 rfl) ?_
  refine lv_iconst (v := 4) hx hb dL_law_308 (by decide) ?_
  refine lv_irem hx hb dL_law_309 (by decide) ?_
  refine lv_iconst (v := 3) hx hb dL_law_310 (by decide) ?_
  refine lv_icmp_ne (tgt := 328) hx hb dL_law_311 (by decide) (fun c3 => ?_) (fun c3 => ?_)
  · refine lv_iinc (v := nI (tN + 1)) (lv' := [(6, .int (nI (tN + 1))), (9, .int 1), (8, .int yv), (7, .int xv), (0, .ref bs), (1, .ref xx), (2, .ref ga), (3, .ref aa), (4, .ref ba), (5, .ref da)]) hx hb dL_law_328 hl (k := 3) rfl (nI_1 _) (by decide) rfl (fun ls hl => ?_)
    refine lv_goto (tgt := 197) hx hb dL_law_331 (by decide) ?_
    refine W.wide (by omega) (by omega) (cont (utrs z zt 6) _ _ _ w (lv_sub hl [0, 4, 5, 6, 7, 8, 9] rfl))
  · refine lv_aload_n hx hb dL_law_314 rfl (lv_at hl 5 rfl) ?_
    refine lv_aload_n hx hb dL_law_315 rfl (lv_at hl 6 rfl) ?_
    refine lv_iload hx hb dL_law_316 (lv_at hl 2 rfl) ?_
    refine lv_iconst (v := 5) hx hb dL_law_318 (by decide) ?_
    refine lv_ishr hx hb dL_law_319 ?_
    refine k_ciTm (wr := [oS ak w1k pak sak zk, aI cI sak 4 12 zk, oW w1k wak zk, aI cI wak 6 19 zk, oP pak rak zk, aI cI rak 200 25 zk, oT b tc tk tn t, aI cI tc 60 300 t, aI cI tk 60 100 t, aI cI tn 60 200 t, oV sv rr y, aO cO rr (rgA rg), aI cI aa 40 0 (pA z), aI cI ba 40 0 (pB z), aI cI da 40 0 (pD z)]) (es2 := [oX xx an ak sv b tr hf, oS an w1n pan san z, aI cI san 4 12 z, oW w1n wan z, aI cI wan 6 19 z, oP pan ran z, aI cI ran 200 25 z, oS ak w1k pak sak zk, aI cI sak 4 12 zk, oW w1k wak zk, aI cI wak 6 19 zk, oP pak rak zk, aI cI rak 200 25 zk, oT b tc tk tn t, aI cI tc 60 300 t, aI cI tk 60 100 t, aI cI tn 60 200 t, oW tr twa (ntr z (utrs z zt 6) 6), aI cI twa 6 19 (ntr z (utrs z zt 6) 6), oV sv rr y, aO cO rr (rgA rg), aI cI ga 22 0 (gz z), aI cI aa 40 0 (pA z), aI cI ba 40 0 (pB z), aI cI da 40 0 (pD z)]) (k_runSM X w ox hA (met_L_isAhead l D cI cJ cO o xx ak b tr hf sv an w1n wan pan ran san z twa (utrs z zt 6) ga (xv >>> (5 &&& 31)) M hgd hM H.size) gL_law_L_isAhead rfl rfl rfl 3 hdL_isAhead ⟨Nat.le_of_ble_eq_true rfl, Nat.le_of_ble_eq_true rfl⟩ [0, 1, 2, 3, 4, 5, 6, 17, 18, 21] (tl_C rfl) rfl rfl hl.1 rfl (Nat.le_of_ble_eq_true rfl) dL_law_320 ⟨show _ ≤ 723167 by omega, show _ ≤ 6932124 by omega⟩) w hA [0, 1, 2, 3, 4, 5, 6, 17, 18, 21] [7, 8, 9, 10, 11, 12, 13, 14, 15, 16, 19, 20, 22, 23, 24] rfl rfl rfl (by decide) [15, 16, 17, 18, 19, 20, 21, 0, 1, 2, 3, 4, 5, 6, 7, 8, 9, 22, 23, 10, 11, 24, 12, 13, 14] rfl rfl (fun H locs w => ?_)
    refine lv_if_ne (tgt := 328) hx hb dL_law_323 (by decide) (fun c4 => ?_) (fun c4 => absurd c4 (by decide))
    refine lv_iinc (v := nI (tN + 1)) (lv' := [(6, .int (nI (tN + 1))), (9, .int 1), (8, .int yv), (7, .int xv), (0, .ref bs), (1, .ref xx), (2, .ref ga), (3, .ref aa), (4, .ref ba), (5, .ref da)]) hx hb dL_law_328 hl (k := 3) rfl (nI_1 _) (by decide) rfl (fun ls hl => ?_)
    refine lv_goto (tgt := 197) hx hb dL_law_331 (by decide) ?_
    refine W.wide (by omega) (by omega) (cont (ntr z (utrs z zt 6) 6) _ _ _ w (lv_sub hl [0, 4, 5, 6, 7, 8, 9] rfl))
end TURN
