theorem INV_z0 : INV 0 z0 z0 (fun _ => 0) (fun _ => 0) (fun _ => z0) 0 (fun _ => 0) (fun _ => 0) (fun _ => 0) (fun _ => 0) :=
  ⟨good_z0, ⟨rfl, Or.inl rfl⟩, ⟨0, 0, by omega, by omega, rfl, rfl, rfl, fun j hj => absurd hj (Nat.not_lt_zero j), fun j hj => absurd hj (Nat.not_lt_zero j)⟩, 0, rfl, by omega, rfl, fun j hj => absurd hj (Nat.not_lt_zero j)⟩
theorem mix_perm {E R C B : va_W} : (((E ++ R) ++ C) ++ B).Perm ((B ++ (E ++ C)) ++ R) := by
  refine List.perm_append_comm.trans ?_
  rw [List.append_assoc B]
  refine List.Perm.append_left B ?_
  rw [List.append_assoc, List.append_assoc]
  exact List.Perm.append_left E List.perm_append_comm
set_option maxHeartbeats 8000000 in
set_option maxRecDepth 100000 in
theorem whole_start {p : Program} {e : Env} {s : State} {m : MethodId} {below : List Frame} {meth : Method} {c : Code} (l : Launch) (hflags : l.flags = flags0) {b L : Nat} {xs : Nat → Int32} (hL : L ≤ 2560) (C0 : lw_At p s m meth c b L xs) : W p l e room_1 s m #[Value.ref b] below meth c s.heap [] 0 0 (lw_Z below #[Value.ref b] s) (entryFrame m ([Value.ref b] : List Value).toArray 9) := by
  have hst : l.stackTraces = false := by
    unfold Launch.stackTraces
    rw [hflags]
    decide +kernel
  obtain ⟨D, cI, cJ, cO, o, hK, hT, ox⟩ := start_facts C0
  obtain ⟨hx, hb, hr, hml, hown, hts, hX, hbl, hlocks, hgv⟩ := id C0
  have hA : ∀ q : Nat, s.heap.size ≤ q → (fun q : Nat => s.heap.size ≤ q) q := fun _ h => h
  have hbA : ¬ (fun q : Nat => s.heap.size ≤ q) b := Nat.not_le.mpr hbl
  have X : cx p m c cL_law 9 s #[Value.ref b] wsL_law RL D (TY cI cJ cO) := ⟨⟨hx, hb, hml, hown, fun w hw => hts w (wsL_law_in w hw)⟩, hK, hT⟩
  obtain ⟨-, -, -, -, hts2⟩ := id X.1
  have w : wd D (fun q : Nat => s.heap.size ≤ q) s.heap s.heap [] [] := ⟨fun k q h => by simp at h, ⟨fun i j p q h => by simp at h, fun k q h => by simp at h⟩, va_S.rf⟩
  have hl := lv_entry ([.ref b]) (n := 9) (Nat.le_of_ble_eq_true rfl)
  rw [lg_entry_eq]
  generalize (lg_sl ([.ref b]) ++ List.replicate (9 - (lg_sl ([.ref b])).length) Slot.unset).toArray = ls at hl ⊢
  have hl : lv_has ls 9 [(0, .ref b)] := hl
  refine k_new (ci := 5) (fs := [.null, .null, .null, .null, .null, .int 0]) X w hA inlX5 tyX5_ok (List.mem_of_getElem? (i := 0) rfl) (List.mem_of_getElem? (i := 1) rfl) (List.mem_of_getElem? (i := 2) rfl) rfl (fun j hj => by rcases (show j = 0 ∨ j = 1 ∨ j = 2 ∨ j = 3 ∨ j = 4 ∨ j = 5 by omega) with rfl | rfl | rfl | rfl | rfl | rfl <;> rfl) ⟨Nat.le_of_ble_eq_true rfl, Nat.le_of_ble_eq_true rfl⟩ dL_law_0 (fun qx H w => ?_)
  have w := w.to (show _ = [(qx, .inr (5, [.null, .null, .null, .null, .null, .int 0]))] from rfl)
  refine lv_dup hx hb dL_law_3 rfl ?_
  refine k_cn (wr := []) (ws3 := fun u5 => [oX qx (u5 0) (u5 6) (u5 18) (u5 12) (u5 16) 0, oS (u5 0) (u5 1) (u5 3) (u5 5) z0, aI cI (u5 5) 4 12 z0, oW (u5 1) (u5 2) z0, aI cI (u5 2) 6 19 z0, oP (u5 3) (u5 4) z0, aI cI (u5 4) 200 25 z0, oS (u5 6) (u5 7) (u5 9) (u5 11) z0, aI cI (u5 11) 4 12 z0, oW (u5 7) (u5 8) z0, aI cI (u5 8) 6 19 z0, oP (u5 9) (u5 10) z0, aI cI (u5 10) 200 25 z0, oT (u5 12) (u5 13) (u5 14) (u5 15) (fun _ => 0), aI cI (u5 13) 60 300 (fun _ => 0), aI cI (u5 14) 60 100 (fun _ => 0), aI cI (u5 15) 60 200 (fun _ => 0), oW (u5 16) (u5 17) z0, aI cI (u5 17) 6 19 z0, oV (u5 18) (u5 19) (fun _ => 0), aO cO (u5 19) (rgA (fun i j => u5 (20 + (6 * i + j))))] ++ rgS cI (fun i j => u5 (20 + (6 * i + j))) (fun _ => z0)) (k_runI X w ox hA (met_X5_init l D cI cJ cO o qx H.size) gL_law_X5_init (List.mem_of_getElem? (i := 7) rfl) (List.mem_of_getElem? (i := 2) rfl) (List.mem_of_getElem? (i := 8) rfl) rfl rfl rfl rfl hdX5_init ⟨Nat.le_of_ble_eq_true rfl, Nat.le_of_ble_eq_true rfl⟩ [0] rfl rfl hl.1 (Nat.le_of_ble_eq_true rfl) dL_law_4 ⟨Nat.le_of_ble_eq_true rfl, Nat.le_of_ble_eq_true rfl⟩) w hA [0] [] rfl rfl rfl (by decide) (fun _ => rfl) (fun u5 H locs w => ?_)
  refine lv_astore_n (lv' := [(1, .ref qx), (0, .ref b)]) hx hb dL_law_7 rfl hl (by decide) rfl (fun ls hl => ?_)
  refine k_new (ci := 6) (fs := [.int 0, .null, .null, .null, .int 0, .null, .int 0, .null, .int 0, .int 0, .int 0]) X w hA inlX6 tyX6_ok (List.mem_of_getElem? (i := 3) rfl) (List.mem_of_getElem? (i := 4) rfl) (List.mem_of_getElem? (i := 5) rfl) rfl (fun j hj => by rcases (show j = 0 ∨ j = 1 ∨ j = 2 ∨ j = 3 ∨ j = 4 ∨ j = 5 ∨ j = 6 ∨ j = 7 ∨ j = 8 ∨ j = 9 ∨ j = 10 by omega) with rfl | rfl | rfl | rfl | rfl | rfl | rfl | rfl | rfl | rfl | rfl <;> rfl) ⟨Nat.le_of_ble_eq_true rfl, Nat.le_of_ble_eq_true rfl⟩ dL_law_8 (fun qm H w => ?_)
  have w := w.perm List.perm_append_comm
  have w : wd D (fun q : Nat => s.heap.size ≤ q) s.heap H locs ((qm, .inr (6, [.int 0, .null, .null, .null, .int 0, .null, .int 0, .null, .int 0, .int 0, .int 0])) :: ([oX qx (u5 0) (u5 6) (u5 18) (u5 12) (u5 16) 0, oS (u5 0) (u5 1) (u5 3) (u5 5) z0, aI cI (u5 5) 4 12 z0, oW (u5 1) (u5 2) z0, aI cI (u5 2) 6 19 z0, oP (u5 3) (u5 4) z0, aI cI (u5 4) 200 25 z0, oS (u5 6) (u5 7) (u5 9) (u5 11) z0, aI cI (u5 11) 4 12 z0, oW (u5 7) (u5 8) z0, aI cI (u5 8) 6 19 z0, oP (u5 9) (u5 10) z0, aI cI (u5 10) 200 25 z0, oT (u5 12) (u5 13) (u5 14) (u5 15) (fun _ => 0), aI cI (u5 13) 60 300 (fun _ => 0), aI cI (u5 14) 60 100 (fun _ => 0), aI cI (u5 15) 60 200 (fun _ => 0), oW (u5 16) (u5 17) z0, aI cI (u5 17) 6 19 z0, oV (u5 18) (u5 19) (fun _ => 0), aO cO (u5 19) (rgA (fun i j => u5 (20 + (6 * i + j))))] ++ rgS cI (fun i j => u5 (20 + (6 * i + j))) (fun _ => z0))) := w
  refine lv_dup hx hb dL_law_11 rfl ?_
  refine k_cn (wr := [oX qx (u5 0) (u5 6) (u5 18) (u5 12) (u5 16) 0, oS (u5 0) (u5 1) (u5 3) (u5 5) z0, aI cI (u5 5) 4 12 z0, oW (u5 1) (u5 2) z0, aI cI (u5 2) 6 19 z0, oP (u5 3) (u5 4) z0, aI cI (u5 4) 200 25 z0, oS (u5 6) (u5 7) (u5 9) (u5 11) z0, aI cI (u5 11) 4 12 z0, oW (u5 7) (u5 8) z0, aI cI (u5 8) 6 19 z0, oP (u5 9) (u5 10) z0, aI cI (u5 10) 200 25 z0, oT (u5 12) (u5 13) (u5 14) (u5 15) (fun _ => 0), aI cI (u5 13) 60 300 (fun _ => 0), aI cI (u5 14) 60 100 (fun _ => 0), aI cI (u5 15) 60 200 (fun _ => 0), oW (u5 16) (u5 17) z0, aI cI (u5 17) 6 19 z0, oV (u5 18) (u5 19) (fun _ => 0), aO cO (u5 19) (rgA (fun i j => u5 (20 + (6 * i + j))))] ++ rgS cI (fun i j => u5 (20 + (6 * i + j))) (fun _ => z0)) (ws3 := fun u6 => ([oX qx (u5 0) (u5 6) (u5 18) (u5 12) (u5 16) 0, oS (u5 0) (u5 1) (u5 3) (u5 5) z0, aI cI (u5 5) 4 12 z0, oW (u5 1) (u5 2) z0, aI cI (u5 2) 6 19 z0, oP (u5 3) (u5 4) z0, aI cI (u5 4) 200 25 z0, oS (u5 6) (u5 7) (u5 9) (u5 11) z0, aI cI (u5 11) 4 12 z0, oW (u5 7) (u5 8) z0, aI cI (u5 8) 6 19 z0, oP (u5 9) (u5 10) z0, aI cI (u5 10) 200 25 z0, oT (u5 12) (u5 13) (u5 14) (u5 15) (fun _ => 0), aI cI (u5 13) 60 300 (fun _ => 0), aI cI (u5 14) 60 100 (fun _ => 0), aI cI (u5 15) 60 200 (fun _ => 0), oW (u5 16) (u5 17) z0, aI cI (u5 17) 6 19 z0, oV (u5 18) (u5 19) (fun _ => 0), aO cO (u5 19) (rgA (fun i j => u5 (20 + (6 * i + j))))] ++ rgS cI (fun i j => u5 (20 + (6 * i + j))) (fun _ => z0)) ++ [oM qm (u6 0) (u6 1) (u6 2) (u6 3) (u6 4) (fun _ => 0), aI cI (u6 0) 225 0 z0, aI cI (u6 1) 225 0 (fun _ => 0), aI cI (u6 2) 1350 0 (fun _ => 0), aI cI (u6 3) 225 0 (fun _ => 0), aI cI (u6 4) 60 0 (fun _ => 0)]) (k_runI X w ox hA (met_X6_init l D cI cJ cO o qm H.size) gL_law_X6_init (List.mem_of_getElem? (i := 95) rfl) (List.mem_of_getElem? (i := 5) rfl) (List.mem_of_getElem? (i := 96) rfl) rfl rfl rfl rfl hdX6_init ⟨Nat.le_of_ble_eq_true rfl, Nat.le_of_ble_eq_true rfl⟩ [0] rfl rfl hl.1 (Nat.le_of_ble_eq_true rfl) dL_law_12 ⟨Nat.le_of_ble_eq_true rfl, Nat.le_of_ble_eq_true rfl⟩) w hA [0] [1, 2, 3, 4, 5, 6, 7, 8, 9, 10, 11, 12, 13, 14, 15, 16, 17, 18, 19, 20, 21, 22, 23, 24, 25, 26, 27, 28, 29, 30, 31, 32, 33, 34, 35, 36, 37, 38, 39, 40, 41, 42, 43, 44, 45, 46, 47, 48, 49, 50, 51, 52, 53, 54, 55, 56, 57] rfl rfl rfl (by decide) (fun _ => rfl) (fun u6 H locs w => ?_)
  refine lv_astore_n (lv' := [(2, .ref qm), (1, .ref qx), (0, .ref b)]) hx hb dL_law_15 rfl hl (by decide) rfl (fun ls hl => ?_)
  refine lv_iconst (v := 1) hx hb dL_law_16 (by decide) ?_
  refine k_newl X w hA rfl (List.mem_of_getElem? (i := 6) rfl) ⟨Nat.le_of_ble_eq_true rfl, Nat.le_of_ble_eq_true rfl⟩ dL_law_17 (fun ob H w => ?_)
  have w := w.perm mix_perm
  refine lv_astore_n (lv' := [(3, .ref ob), (2, .ref qm), (1, .ref qx), (0, .ref b)]) hx hb dL_law_19 rfl hl (by decide) rfl (fun ls hl => ?_)
  refine lv_iconst (v := 0) hx hb dL_law_20 (by decide) ?_
  refine lv_istore (lv' := [(4, .int 0), (3, .ref ob), (2, .ref qm), (1, .ref qx), (0, .ref b)]) hx hb dL_law_21 hl (by decide) rfl (fun ls hl => ?_)
  refine law_loop (A := fun q : Nat => s.heap.size ≤ q) hst X hA ox hX hbl hbA hL ?_ 512 0 _ _ 0 z0 z0 (fun _ => 0) z0 (fun _ => 0) (fun _ => z0) 0 0 (fun _ => 0) (fun _ => 0) (fun _ => 0) (fun _ => 0) (fun _ => 0) (by omega) (by omega) (Nat.le_of_ble_eq_true rfl) (Nat.le_of_ble_eq_true rfl) (by decide) INV_z0 _ _ _ w (lv_sub hl [4, 3, 2, 1, 0] rfl)
  intro z zk t zt y zs hf ov yr sd kp tx ad H locs ls cells slots w hc hs
  refine lv_iconst (v := 1) hx hb dL_law_1397 (by decide) ?_
  refine va_forget (fun q hq => w.2.2.2.2 q hq) ?_
  refine W.wide hc hs ?_
  exact lw_ret (d0 := s.drawn) (Drawn.sameBut.refl s.drawn lw_cs) hx hb hr hlocks dL_law_1398
