theorem mix4 {E R A1 A2 A3 A4 : va_W} : (((((E ++ R) ++ A1) ++ A2) ++ A3) ++ A4).Perm ((E ++ (A1 ++ (A2 ++ (A3 ++ A4)))) ++ R) := by
  simp only [List.append_assoc]
  refine List.Perm.append_left E ?_
  have h := List.perm_append_comm (l₁ := R) (l₂ := A1 ++ (A2 ++ (A3 ++ A4)))
  simp only [List.append_assoc] at h
  exact h
set_option maxHeartbeats 8000000 in
set_option maxRecDepth 100000 in
theorem whole_start {p : Program} {e : Env} {s : State} {m : MethodId} {below : List Frame} {meth : Method} {c : Code} (l : Launch) (hflags : l.flags = flags0) {b L : Nat} {xs : Nat → Int32} (hL : L ≤ 260) (C0 : lw_At p s m meth c b L xs) : W p l e room_1 s m #[Value.ref b] below meth c s.heap [] 0 0 (lw_Z below #[Value.ref b] s) (entryFrame m ([Value.ref b] : List Value).toArray 10) := by
  have hst : l.stackTraces = false := by
    unfold Launch.stackTraces
    rw [hflags]
    decide +kernel
  obtain ⟨D, cI, cJ, cO, o, hK, hT, ox⟩ := start_facts C0
  obtain ⟨hx, hb, hr, hml, hown, hts, hX, hbl, hlocks, hgv⟩ := id C0
  have hA : ∀ q : Nat, s.heap.size ≤ q → (fun q : Nat => s.heap.size ≤ q) q := fun _ h => h
  have hbA : ¬ (fun q : Nat => s.heap.size ≤ q) b := Nat.not_le.mpr hbl
  have X : cx p m c cL_law 10 s #[Value.ref b] wsL_law RL D (TY cI cJ cO) := ⟨⟨hx, hb, hml, hown, fun w hw => hts w (wsL_law_in w hw)⟩, hK, hT⟩
  obtain ⟨-, -, -, -, hts2⟩ := id X.1
  have w : wd D (fun q : Nat => s.heap.size ≤ q) s.heap s.heap [] [] := ⟨fun k q h => by simp at h, ⟨fun i j p q h => by simp at h, fun k q h => by simp at h⟩, va_S.rf⟩
  have hl := lv_entry ([.ref b]) (n := 10) (Nat.le_of_ble_eq_true rfl)
  rw [lg_entry_eq]
  generalize (lg_sl ([.ref b]) ++ List.replicate (10 - (lg_sl ([.ref b])).length) Slot.unset).toArray = ls at hl ⊢
  have hl : lv_has ls 10 [(0, .ref b)] := hl
  refine k_new (ci := 5) (fs := [.null, .null, .null, .null, .null, .int 0]) X w hA inlX5 tyX5_ok (List.mem_of_getElem? (i := 0) rfl) (List.mem_of_getElem? (i := 1) rfl) (List.mem_of_getElem? (i := 2) rfl) rfl (fun j hj => by rcases (show j = 0 ∨ j = 1 ∨ j = 2 ∨ j = 3 ∨ j = 4 ∨ j = 5 by omega) with rfl | rfl | rfl | rfl | rfl | rfl <;> rfl) ⟨Nat.le_of_ble_eq_true rfl, Nat.le_of_ble_eq_true rfl⟩ dL_law_0 (fun qx H w => ?_)
  have w := w.to (show _ = [(qx, .inr (5, [.null, .null, .null, .null, .null, .int 0]))] from rfl)
  refine lv_dup hx hb dL_law_3 rfl ?_
  refine k_cn (wr := []) (ws3 := fun u5 => [oX qx (u5 0) (u5 6) (u5 18) (u5 12) (u5 16) 0, oS (u5 0) (u5 1) (u5 3) (u5 5) z0, aI cI (u5 5) 4 12 z0, oW (u5 1) (u5 2) z0, aI cI (u5 2) 6 19 z0, oP (u5 3) (u5 4) z0, aI cI (u5 4) 200 25 z0, oS (u5 6) (u5 7) (u5 9) (u5 11) z0, aI cI (u5 11) 4 12 z0, oW (u5 7) (u5 8) z0, aI cI (u5 8) 6 19 z0, oP (u5 9) (u5 10) z0, aI cI (u5 10) 200 25 z0, oT (u5 12) (u5 13) (u5 14) (u5 15) (fun _ => 0), aI cI (u5 13) 60 300 (fun _ => 0), aI cI (u5 14) 60 100 (fun _ => 0), aI cI (u5 15) 60 200 (fun _ => 0), oW (u5 16) (u5 17) z0, aI cI (u5 17) 6 19 z0, oV (u5 18) (u5 19) (fun _ => 0), aO cO (u5 19) (rgA (fun i j => u5 (20 + (6 * i + j))))] ++ rgS cI (fun i j => u5 (20 + (6 * i + j))) (fun _ => z0)) (k_runI X w ox hA (met_X5_init l D cI cJ cO o qx H.size) gL_law_X5_init (List.mem_of_getElem? (i := 4) rfl) (List.mem_of_getElem? (i := 2) rfl) (List.mem_of_getElem? (i := 5) rfl) rfl rfl rfl rfl hdX5_init ⟨Nat.le_of_ble_eq_true rfl, Nat.le_of_ble_eq_true rfl⟩ [0] rfl rfl hl.1 (Nat.le_of_ble_eq_true rfl) dL_law_4 ⟨Nat.le_of_ble_eq_true rfl, Nat.le_of_ble_eq_true rfl⟩) w hA [0] [] rfl rfl rfl (by decide) (fun _ => rfl) (fun u5 H locs w => ?_)
  refine lv_astore_n (lv' := [(1, .ref qx), (0, .ref b)]) hx hb dL_law_7 rfl hl (by decide) rfl (fun ls hl => ?_)
  refine lv_bipush (v := 22) hx hb dL_law_8 (by decide) ?_
  refine k_newa (n := 22) (k := 0) X w hA rfl (List.mem_of_getElem? (i := 3) rfl) rfl (by decide) ⟨Nat.le_of_ble_eq_true rfl, Nat.le_of_ble_eq_true rfl⟩ dL_law_10 (fun qg H w => ?_)
  refine lv_astore_n (lv' := [(2, .ref qg), (1, .ref qx), (0, .ref b)]) hx hb dL_law_12 rfl hl (by decide) rfl (fun ls hl => ?_)
  refine lv_bipush (v := 40) hx hb dL_law_13 (by decide) ?_
  refine k_newa (n := 40) (k := 0) X w hA rfl (List.mem_of_getElem? (i := 3) rfl) rfl (by decide) ⟨Nat.le_of_ble_eq_true rfl, Nat.le_of_ble_eq_true rfl⟩ dL_law_15 (fun qa H w => ?_)
  refine lv_astore_n (lv' := [(3, .ref qa), (2, .ref qg), (1, .ref qx), (0, .ref b)]) hx hb dL_law_17 rfl hl (by decide) rfl (fun ls hl => ?_)
  refine lv_bipush (v := 40) hx hb dL_law_18 (by decide) ?_
  refine k_newa (n := 40) (k := 0) X w hA rfl (List.mem_of_getElem? (i := 3) rfl) rfl (by decide) ⟨Nat.le_of_ble_eq_true rfl, Nat.le_of_ble_eq_true rfl⟩ dL_law_20 (fun qb H w => ?_)
  refine lv_astore (lv' := [(4, .ref qb), (3, .ref qa), (2, .ref qg), (1, .ref qx), (0, .ref b)]) hx hb dL_law_22 hl (by decide) rfl (fun ls hl => ?_)
  refine lv_bipush (v := 40) hx hb dL_law_24 (by decide) ?_
  refine k_newa (n := 40) (k := 0) X w hA rfl (List.mem_of_getElem? (i := 3) rfl) rfl (by decide) ⟨Nat.le_of_ble_eq_true rfl, Nat.le_of_ble_eq_true rfl⟩ dL_law_26 (fun qd H w => ?_)
  refine lv_astore (lv' := [(5, .ref qd), (4, .ref qb), (3, .ref qa), (2, .ref qg), (1, .ref qx), (0, .ref b)]) hx hb dL_law_28 hl (by decide) rfl (fun ls hl => ?_)
  have w := w.perm mix4
  have w : wd D (fun q : Nat => s.heap.size ≤ q) s.heap H locs ([oX qx (u5 0) (u5 6) (u5 18) (u5 12) (u5 16) 0, oS (u5 0) (u5 1) (u5 3) (u5 5) z0, aI cI (u5 5) 4 12 z0, oW (u5 1) (u5 2) z0, aI cI (u5 2) 6 19 z0, oP (u5 3) (u5 4) z0, aI cI (u5 4) 200 25 z0, oS (u5 6) (u5 7) (u5 9) (u5 11) z0, aI cI (u5 11) 4 12 z0, oW (u5 7) (u5 8) z0, aI cI (u5 8) 6 19 z0, oP (u5 9) (u5 10) z0, aI cI (u5 10) 200 25 z0, oT (u5 12) (u5 13) (u5 14) (u5 15) (fun _ => 0), aI cI (u5 13) 60 300 (fun _ => 0), aI cI (u5 14) 60 100 (fun _ => 0), aI cI (u5 15) 60 200 (fun _ => 0), oW (u5 16) (u5 17) z0, aI cI (u5 17) 6 19 z0, oV (u5 18) (u5 19) (fun _ => 0), aO cO (u5 19) (rgA (fun i j => u5 (20 + (6 * i + j)))), aI cI qg 22 0 (fun _ => 0), aI cI qa 40 0 (fun _ => 0), aI cI qb 40 0 (fun _ => 0), aI cI qd 40 0 (fun _ => 0)] ++ rgS cI (fun i j => u5 (20 + (6 * i + j))) (fun _ => z0)) := w
  refine law_mid (A := fun q : Nat => s.heap.size ≤ q) hst X hA ox hX hbl hbA hL ?_ ⟨Nat.le_of_ble_eq_true rfl, Nat.le_of_ble_eq_true rfl⟩ w hl
  intro ws H locs ls cells slots w hc hs
  refine va_forget (fun q hq => w.2.2.2.2 q hq) ?_
  refine W.wide hc hs ?_
  exact lw_ret (d0 := s.drawn) (Drawn.sameBut.refl s.drawn lw_cs) hx hb hr hlocks dL_law_335
