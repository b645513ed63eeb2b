set_option maxHeartbeats 4000000 in
set_option maxRecDepth 100000 in
theorem met_X5_demandRange_x (l : Launch) (hst : l.stackTraces = false) (D : va_G) (cI cJ cO : ClassId) (o : Nat → Nat) (v : Int32) (lo : Int32) (hi : Int32) (hr : ¬ inR v lo hi) : CX l D (TY cI cJ cO) o cI yX5_demandRange wsX5_demandRange ({ frames := 6, cells := 1, slots := 6, locals := 90 }) [.int v, .int lo, .int hi] [] [] "java/lang/IllegalArgumentException" := by
  refine CX.of hst (by decide) rfl rfl (Nat.le_of_ble_eq_true rfl) (fun p e s m below meth c A ls Q X hA w ox hl thr out => ?_)
  obtain ⟨hx, hb, hml, hown, hts⟩ := id X.1
  have hl : lv_has ls 3 [(0, .int v), (1, .int lo), (2, .int hi)] := hl
  refine lv_iload_n hx hb dX5_demandRange_0 rfl (lv_at hl 0 rfl) ?_
  refine lv_iload_n hx hb dX5_demandRange_1 rfl (lv_at hl 1 rfl) ?_
  refine lv_icmp_lt (tgt := 10) hx hb dX5_demandRange_2 (by decide) (fun c1 => ?_) (fun c1 => ?_)
  · exact thr _ _ _ _ _ 152 249 156 _ w thW_a (List.mem_of_getElem? (i := 1) rfl) (List.mem_of_getElem? (i := 2) rfl) (fun _ h => List.mem_cons_of_mem _ (List.mem_append_right _ h)) (List.mem_of_getElem? (i := 6) rfl) hl.1 dX5_demandRange_10 dX5_demandRange_13 dX5_demandRange_14 dX5_demandRange_16 dX5_demandRange_19 ⟨Nat.le_of_ble_eq_true rfl, Nat.le_of_ble_eq_true rfl, Nat.le_of_ble_eq_true rfl, Nat.le_of_ble_eq_true rfl⟩ (Nat.le_of_ble_eq_true rfl)
  · refine lv_iload_n hx hb dX5_demandRange_5 rfl (lv_at hl 0 rfl) ?_
    refine lv_iload_n hx hb dX5_demandRange_6 rfl (lv_at hl 2 rfl) ?_
    refine lv_icmp_le (tgt := 20) hx hb dX5_demandRange_7 (by decide) (fun c2 => absurd (And.intro c1 c2) hr) (fun c2 => ?_)
    exact thr _ _ _ _ _ 152 249 156 _ w thW_a (List.mem_of_getElem? (i := 1) rfl) (List.mem_of_getElem? (i := 2) rfl) (fun _ h => List.mem_cons_of_mem _ (List.mem_append_right _ h)) (List.mem_of_getElem? (i := 6) rfl) hl.1 dX5_demandRange_10 dX5_demandRange_13 dX5_demandRange_14 dX5_demandRange_16 dX5_demandRange_19 ⟨Nat.le_of_ble_eq_true rfl, Nat.le_of_ble_eq_true rfl, Nat.le_of_ble_eq_true rfl, Nat.le_of_ble_eq_true rfl⟩ (Nat.le_of_ble_eq_true rfl)
set_option maxHeartbeats 4000000 in
set_option maxRecDepth 100000 in
theorem met_X5_demandPose_x (l : Launch) (hst : l.stackTraces = false) (D : va_G) (cI cJ cO : ClassId) (o : Nat → Nat) (x : Int32) (hp : bI (isP x) = 0) : CX l D (TY cI cJ cO) o cI yX5_demandPose wsX5_demandPose ({ frames := 6, cells := 1, slots := 6, locals := 90 }) [.int x] [] [] "java/lang/IndexOutOfBoundsException" := by
  refine CX.of hst (by decide) rfl rfl (Nat.le_of_ble_eq_true rfl) (fun p e s m below meth c A ls Q X hA w ox hl thr out => ?_)
  obtain ⟨hx, hb, hml, hown, hts⟩ := id X.1
  have hl : lv_has ls 1 [(0, .int x)] := hl
  refine lv_iload_n hx hb dX5_demandPose_0 rfl (lv_at hl 0 rfl) ?_
  refine k_ciR (k_runS X w (met_X5_isPose l D cI cJ cO x  s.heap.size) gX5_demandPose_X5_isPose rfl rfl rfl 1 hdX5_isPose ⟨Nat.le_of_ble_eq_true rfl, Nat.le_of_ble_eq_true rfl⟩ [] rfl rfl rfl hl.1 rfl (Nat.le_of_ble_eq_true rfl) dX5_demandPose_1 ⟨Nat.le_of_ble_eq_true rfl, Nat.le_of_ble_eq_true rfl⟩) w hA [] rfl (fun H locs w => ?_)
  refine lv_if_ne (tgt := 17) hx hb dX5_demandPose_4 (by decide) (fun c1 => absurd hp c1) (fun c1 => ?_)
  exact thr _ _ _ _ _ 123 247 127 _ w thW_b (List.mem_of_getElem? (i := 1) rfl) (List.mem_of_getElem? (i := 2) rfl) (fun _ h => List.mem_cons_of_mem _ (List.mem_append_right _ h)) (List.mem_of_getElem? (i := 5) rfl) hl.1 dX5_demandPose_7 dX5_demandPose_10 dX5_demandPose_11 dX5_demandPose_13 dX5_demandPose_16 ⟨Nat.le_of_ble_eq_true rfl, Nat.le_of_ble_eq_true rfl, Nat.le_of_ble_eq_true rfl, Nat.le_of_ble_eq_true rfl⟩ (Nat.le_of_ble_eq_true rfl)
set_option maxHeartbeats 4000000 in
set_option maxRecDepth 100000 in
theorem met_X5_wind_x (l : Launch) (hst : l.stackTraces = false) (D : va_G) (cI cJ cO : ClassId) (o : Nat → Nat) (xx : Nat) (ak : Nat) (b : Nat) (tr : Nat) (hf : Int32) (an : Nat) (w1n : Nat) (wan : Nat) (pan : Nat) (ran : Nat) (san : Nat) (z : Nat → Int32) (sv : Nat) (rr : Nat) (rg : Nat → Nat → Nat) (y : Nat → Int32) (zs : Nat → Nat → Int32) (i : Nat) (v : Int32) (hr : ¬ inR v 1 48) : CX l D (TY cI cJ cO) o cI yX5_wind wsX5_wind ({ frames := 7, cells := 1, slots := 6, locals := 112 }) [.ref xx, .int v] ([oX xx an ak sv b tr hf, oS an w1n pan san z, aI cI san 4 12 z, oW w1n wan z, aI cI wan 6 19 z, oP pan ran z, aI cI ran 200 25 z, oV sv rr y, aO cO rr (rgA rg)] ++ rgS cI rg zs) ([oX xx an ak sv b tr hf, oS an w1n pan san z, aI cI san 4 12 z, oW w1n wan z, aI cI wan 6 19 z, oP pan ran z, aI cI ran 200 25 z, oV sv rr y, aO cO rr (rgA rg)] ++ rgS cI rg zs) "java/lang/IllegalArgumentException" := by
  refine CX.of hst (by decide) rfl rfl (Nat.le_of_ble_eq_true rfl) (fun p e s m below meth c A ls Q X hA w ox hl thr out => ?_)
  obtain ⟨hx, hb, hml, hown, hts⟩ := id X.1
  have hl : lv_has ls 2 [(0, .ref xx), (1, .int v)] := hl
  refine lv_iload_n hx hb dX5_wind_0 rfl (lv_at hl 1 rfl) ?_
  refine lv_iconst (v := 1) hx hb dX5_wind_1 (by decide) ?_
  refine lv_bipush (v := 48) hx hb dX5_wind_2 (by decide) ?_
  refine k_cxR (fun _ _ _ h => h) (k_runSX X w ox hA (met_X5_demandRange_x l hst D cI cJ cO o v 1 48 hr s.heap.size) gX5_wind_X5_demandRange rfl rfl rfl 3 hdX5_demandRange ⟨Nat.le_of_ble_eq_true rfl, Nat.le_of_ble_eq_true rfl⟩ [] (tl_C rfl) rfl rfl hl.1 rfl (Nat.le_of_ble_eq_true rfl) dX5_wind_4 ⟨Nat.le_of_ble_eq_true rfl, Nat.le_of_ble_eq_true rfl⟩) w hA [] (tl_C rfl) (fun H locs q9 ce w h1 h2 h3 => ?_)
  exact out _ _ _ _ _ _ _ w h1 h2 h3
set_option maxHeartbeats 4000000 in
set_option maxRecDepth 100000 in
theorem met_X5_weigh_p (l : Launch) (hst : l.stackTraces = false) (D : va_G) (cI cJ cO : ClassId) (o : Nat → Nat) (xx : Nat) (ak : Nat) (b : Nat) (tr : Nat) (hf : Int32) (an : Nat) (w1n : Nat) (wan : Nat) (pan : Nat) (ran : Nat) (san : Nat) (z : Nat → Int32) (sv : Nat) (rr : Nat) (rg : Nat → Nat → Nat) (y : Nat → Int32) (zs : Nat → Nat → Int32) (i : Nat) (v : Int32) (x : Int32) (hp : bI (isP x) = 0) : CX l D (TY cI cJ cO) o cI yX5_weigh wsX5_weigh ({ frames := 7, cells := 1, slots := 6, locals := 110 }) [.ref xx, .int x, .int v] ([oX xx an ak sv b tr hf, oS an w1n pan san z, aI cI san 4 12 z, oW w1n wan z, aI cI wan 6 19 z, oP pan ran z, aI cI ran 200 25 z, oV sv rr y, aO cO rr (rgA rg)] ++ rgS cI rg zs) ([oX xx an ak sv b tr hf, oS an w1n pan san z, aI cI san 4 12 z, oW w1n wan z, aI cI wan 6 19 z, oP pan ran z, aI cI ran 200 25 z, oV sv rr y, aO cO rr (rgA rg)] ++ rgS cI rg zs) "java/lang/IndexOutOfBoundsException" := by
  refine CX.of hst (by decide) rfl rfl (Nat.le_of_ble_eq_true rfl) (fun p e s m below meth c A ls Q X hA w ox hl thr out => ?_)
  obtain ⟨hx, hb, hml, hown, hts⟩ := id X.1
  have hl : lv_has ls 4 [(0, .ref xx), (1, .int x), (2, .int v)] := hl
  refine lv_iload_n hx hb dX5_weigh_0 rfl (lv_at hl 1 rfl) ?_
  refine k_cxR (fun _ _ _ h => h) (k_runSX X w ox hA (met_X5_demandPose_x l hst D cI cJ cO o x hp s.heap.size) gX5_weigh_X5_demandPose rfl rfl rfl 1 hdX5_demandPose ⟨Nat.le_of_ble_eq_true rfl, Nat.le_of_ble_eq_true rfl⟩ [] (tl_C rfl) rfl rfl hl.1 rfl (Nat.le_of_ble_eq_true rfl) dX5_weigh_1 ⟨Nat.le_of_ble_eq_true rfl, Nat.le_of_ble_eq_true rfl⟩) w hA [] (tl_C rfl) (fun H locs q9 ce w h1 h2 h3 => ?_)
  exact out _ _ _ _ _ _ _ w h1 h2 h3
set_option maxHeartbeats 4000000 in
set_option maxRecDepth 100000 in
theorem met_X5_weigh_x (l : Launch) (hst : l.stackTraces = false) (D : va_G) (cI cJ cO : ClassId) (o : Nat → Nat) (xx : Nat) (ak : Nat) (b : Nat) (tr : Nat) (hf : Int32) (an : Nat) (w1n : Nat) (wan : Nat) (pan : Nat) (ran : Nat) (san : Nat) (z : Nat → Int32) (sv : Nat) (rr : Nat) (rg : Nat → Nat → Nat) (y : Nat → Int32) (zs : Nat → Nat → Int32) (i : Nat) (k : Nat) (v : Int32) (hk : k < 6) (hr : ¬ inR v (-60) 60) : CX l D (TY cI cJ cO) o cI yX5_weigh wsX5_weigh ({ frames := 7, cells := 1, slots := 6, locals := 112 }) [.ref xx, .int (nI k), .int v] ([oX xx an ak sv b tr hf, oS an w1n pan san z, aI cI san 4 12 z, oW w1n wan z, aI cI wan 6 19 z, oP pan ran z, aI cI ran 200 25 z, oV sv rr y, aO cO rr (rgA rg)] ++ rgS cI rg zs) ([oX xx an ak sv b tr hf, oS an w1n pan san z, aI cI san 4 12 z, oW w1n wan z, aI cI wan 6 19 z, oP pan ran z, aI cI ran 200 25 z, oV sv rr y, aO cO rr (rgA rg)] ++ rgS cI rg zs) "java/lang/IllegalArgumentException" := by
  refine CX.of hst (by decide) rfl rfl (Nat.le_of_ble_eq_true rfl) (fun p e s m below meth c A ls Q X hA w ox hl thr out => ?_)
  obtain ⟨hx, hb, hml, hown, hts⟩ := id X.1
  have hl : lv_has ls 4 [(0, .ref xx), (1, .int (nI k)), (2, .int v)] := hl
  refine lv_iload_n hx hb dX5_weigh_0 rfl (lv_at hl 1 rfl) ?_
  refine k_cvR (k_runS X w (met_X5_demandPose l D cI cJ cO (nI k) (isP_b hk) s.heap.size) gX5_weigh_X5_demandPose rfl rfl rfl 1 hdX5_demandPose ⟨Nat.le_of_ble_eq_true rfl, Nat.le_of_ble_eq_true rfl⟩ [] (tl_C rfl) rfl rfl hl.1 rfl (Nat.le_of_ble_eq_true rfl) dX5_weigh_1 ⟨Nat.le_of_ble_eq_true rfl, Nat.le_of_ble_eq_true rfl⟩) w hA [] (tl_C rfl) (fun H locs w => ?_)
  refine lv_iload_n hx hb dX5_weigh_4 rfl (lv_at hl 2 rfl) ?_
  refine lv_bipush (v := (-60)) hx hb dX5_weigh_5 (by decide) ?_
  refine lv_bipush (v := 60) hx hb dX5_weigh_7 (by decide) ?_
  refine k_cxR (fun _ _ _ h => h) (k_runSX X w ox hA (met_X5_demandRange_x l hst D cI cJ cO o v (-60) 60 hr H.size) gX5_weigh_X5_demandRange rfl rfl rfl 3 hdX5_demandRange ⟨Nat.le_of_ble_eq_true rfl, Nat.le_of_ble_eq_true rfl⟩ [] (tl_C rfl) rfl rfl hl.1 rfl (Nat.le_of_ble_eq_true rfl) dX5_weigh_9 ⟨Nat.le_of_ble_eq_true rfl, Nat.le_of_ble_eq_true rfl⟩) w hA [] (tl_C rfl) (fun H locs q9 ce w h1 h2 h3 => ?_)
  exact out _ _ _ _ _ _ _ w h1 h2 h3
set_option maxHeartbeats 4000000 in
set_option maxRecDepth 100000 in
theorem met_X5_adjust_x (l : Launch) (hst : l.stackTraces = false) (D : va_G) (cI cJ cO : ClassId) (o : Nat → Nat) (xx : Nat) (ak : Nat) (b : Nat) (tr : Nat) (hf : Int32) (an : Nat) (w1n : Nat) (wan : Nat) (pan : Nat) (ran : Nat) (san : Nat) (z : Nat → Int32) (sv : Nat) (rr : Nat) (rg : Nat → Nat → Nat) (y : Nat → Int32) (zs : Nat → Nat → Int32) (i : Nat) (r : Int32) (st : Int32) (hr : ¬ inR r (-99) 99) : CX l D (TY cI cJ cO) o cI yX5_adjust wsX5_adjust ({ frames := 7, cells := 1, slots := 6, locals := 112 }) [.ref xx, .int r, .int st] ([oX xx an ak sv b tr hf, oS an w1n pan san z, aI cI san 4 12 z, oW w1n wan z, aI cI wan 6 19 z, oP pan ran z, aI cI ran 200 25 z, oV sv rr y, aO cO rr (rgA rg)] ++ rgS cI rg zs) ([oX xx an ak sv b tr hf, oS an w1n pan san z, aI cI san 4 12 z, oW w1n wan z, aI cI wan 6 19 z, oP pan ran z, aI cI ran 200 25 z, oV sv rr y, aO cO rr (rgA rg)] ++ rgS cI rg zs) "java/lang/IllegalArgumentException" := by
  refine CX.of hst (by decide) rfl rfl (Nat.le_of_ble_eq_true rfl) (fun p e s m below meth c A ls Q X hA w ox hl thr out => ?_)
  obtain ⟨hx, hb, hml, hown, hts⟩ := id X.1
  have hl : lv_has ls 4 [(0, .ref xx), (1, .int r), (2, .int st)] := hl
  refine lv_iload_n hx hb dX5_adjust_0 rfl (lv_at hl 1 rfl) ?_
  refine lv_bipush (v := (-99)) hx hb dX5_adjust_1 (by decide) ?_
  refine lv_bipush (v := 99) hx hb dX5_adjust_3 (by decide) ?_
  refine k_cxR (fun _ _ _ h => h) (k_runSX X w ox hA (met_X5_demandRange_x l hst D cI cJ cO o r (-99) 99 hr s.heap.size) gX5_adjust_X5_demandRange rfl rfl rfl 3 hdX5_demandRange ⟨Nat.le_of_ble_eq_true rfl, Nat.le_of_ble_eq_true rfl⟩ [] (tl_C rfl) rfl rfl hl.1 rfl (Nat.le_of_ble_eq_true rfl) dX5_adjust_5 ⟨Nat.le_of_ble_eq_true rfl, Nat.le_of_ble_eq_true rfl⟩) w hA [] (tl_C rfl) (fun H locs q9 ce w h1 h2 h3 => ?_)
  exact out _ _ _ _ _ _ _ w h1 h2 h3
set_option maxHeartbeats 4000000 in
set_option maxRecDepth 100000 in
theorem met_X5_adjust_y (l : Launch) (hst : l.stackTraces = false) (D : va_G) (cI cJ cO : ClassId) (o : Nat → Nat) (xx : Nat) (ak : Nat) (b : Nat) (tr : Nat) (hf : Int32) (an : Nat) (w1n : Nat) (wan : Nat) (pan : Nat) (ran : Nat) (san : Nat) (z : Nat → Int32) (sv : Nat) (rr : Nat) (rg : Nat → Nat → Nat) (y : Nat → Int32) (zs : Nat → Nat → Int32) (i : Nat) (r : Int32) (st : Int32) (hr0 : inR r (-99) 99) (hr : ¬ inR st (-50) 50) : CX l D (TY cI cJ cO) o cI yX5_adjust wsX5_adjust ({ frames := 7, cells := 1, slots := 6, locals := 112 }) [.ref xx, .int r, .int st] ([oX xx an ak sv b tr hf, oS an w1n pan san z, aI cI san 4 12 z, oW w1n wan z, aI cI wan 6 19 z, oP pan ran z, aI cI ran 200 25 z, oV sv rr y, aO cO rr (rgA rg)] ++ rgS cI rg zs) ([oX xx an ak sv b tr hf, oS an w1n pan san z, aI cI san 4 12 z, oW w1n wan z, aI cI wan 6 19 z, oP pan ran z, aI cI ran 200 25 z, oV sv rr y, aO cO rr (rgA rg)] ++ rgS cI rg zs) "java/lang/IllegalArgumentException" := by
  refine CX.of hst (by decide) rfl rfl (Nat.le_of_ble_eq_true rfl) (fun p e s m below meth c A ls Q X hA w ox hl thr out => ?_)
  obtain ⟨hx, hb, hml, hown, hts⟩ := id X.1
  have hl : lv_has ls 4 [(0, .ref xx), (1, .int r), (2, .int st)] := hl
  refine lv_iload_n hx hb dX5_adjust_0 rfl (lv_at hl 1 rfl) ?_
  refine lv_bipush (v := (-99)) hx hb dX5_adjust_1 (by decide) ?_
  refine lv_bipush (v := 99) hx hb dX5_adjust_3 (by decide) ?_
  refine k_cvR (k_runS X w (met_X5_demandRange l D cI cJ cO r (-99) 99 hr0 s.heap.size) gX5_adjust_X5_demandRange rfl rfl rfl 3 hdX5_demandRange ⟨Nat.le_of_ble_eq_true rfl, Nat.le_of_ble_eq_true rfl⟩ [] (tl_C rfl) rfl rfl hl.1 rfl (Nat.le_of_ble_eq_true rfl) dX5_adjust_5 ⟨Nat.le_of_ble_eq_true rfl, Nat.le_of_ble_eq_true rfl⟩) w hA [] (tl_C rfl) (fun H locs w => ?_)
  refine lv_iload_n hx hb dX5_adjust_8 rfl (lv_at hl 2 rfl) ?_
  refine lv_bipush (v := (-50)) hx hb dX5_adjust_9 (by decide) ?_
  refine lv_bipush (v := 50) hx hb dX5_adjust_11 (by decide) ?_
  refine k_cxR (fun _ _ _ h => h) (k_runSX X w ox hA (met_X5_demandRange_x l hst D cI cJ cO o st (-50) 50 hr H.size) gX5_adjust_X5_demandRange rfl rfl rfl 3 hdX5_demandRange ⟨Nat.le_of_ble_eq_true rfl, Nat.le_of_ble_eq_true rfl⟩ [] (tl_C rfl) rfl rfl hl.1 rfl (Nat.le_of_ble_eq_true rfl) dX5_adjust_13 ⟨Nat.le_of_ble_eq_true rfl, Nat.le_of_ble_eq_true rfl⟩) w hA [] (tl_C rfl) (fun H locs q9 ce w h1 h2 h3 => ?_)
  exact out _ _ _ _ _ _ _ w h1 h2 h3
set_option maxHeartbeats 4000000 in
set_option maxRecDepth 100000 in
theorem met_X5_magnetise_x (l : Launch) (hst : l.stackTraces = false) (D : va_G) (cI cJ cO : ClassId) (o : Nat → Nat) (xx : Nat) (ak : Nat) (b : Nat) (tr : Nat) (hf : Int32) (an : Nat) (w1n : Nat) (wan : Nat) (pan : Nat) (ran : Nat) (san : Nat) (z : Nat → Int32) (sv : Nat) (rr : Nat) (rg : Nat → Nat → Nat) (y : Nat → Int32) (zs : Nat → Nat → Int32) (i : Nat) (v : Int32) (hr : ¬ inR v 1 100) : CX l D (TY cI cJ cO) o cI yX5_magnetise wsX5_magnetise ({ frames := 7, cells := 1, slots := 6, locals := 112 }) [.ref xx, .int v] ([oX xx an ak sv b tr hf, oS an w1n pan san z, aI cI san 4 12 z, oW w1n wan z, aI cI wan 6 19 z, oP pan ran z, aI cI ran 200 25 z, oV sv rr y, aO cO rr (rgA rg)] ++ rgS cI rg zs) ([oX xx an ak sv b tr hf, oS an w1n pan san z, aI cI san 4 12 z, oW w1n wan z, aI cI wan 6 19 z, oP pan ran z, aI cI ran 200 25 z, oV sv rr y, aO cO rr (rgA rg)] ++ rgS cI rg zs) "java/lang/IllegalArgumentException" := by
  refine CX.of hst (by decide) rfl rfl (Nat.le_of_ble_eq_true rfl) (fun p e s m below meth c A ls Q X hA w ox hl thr out => ?_)
  obtain ⟨hx, hb, hml, hown, hts⟩ := id X.1
  have hl : lv_has ls 2 [(0, .ref xx), (1, .int v)] := hl
  refine lv_iload_n hx hb dX5_magnetise_0 rfl (lv_at hl 1 rfl) ?_
  refine lv_iconst (v := 1) hx hb dX5_magnetise_1 (by decide) ?_
  refine lv_bipush (v := 100) hx hb dX5_magnetise_2 (by decide) ?_
  refine k_cxR (fun _ _ _ h => h) (k_runSX X w ox hA (met_X5_demandRange_x l hst D cI cJ cO o v 1 100 hr s.heap.size) gX5_magnetise_X5_demandRange rfl rfl rfl 3 hdX5_demandRange ⟨Nat.le_of_ble_eq_true rfl, Nat.le_of_ble_eq_true rfl⟩ [] (tl_C rfl) rfl rfl hl.1 rfl (Nat.le_of_ble_eq_true rfl) dX5_magnetise_4 ⟨Nat.le_of_ble_eq_true rfl, Nat.le_of_ble_eq_true rfl⟩) w hA [] (tl_C rfl) (fun H locs q9 ce w h1 h2 h3 => ?_)
  exact out _ _ _ _ _ _ _ w h1 h2 h3
set_option maxHeartbeats 4000000 in
set_option maxRecDepth 100000 in
theorem met_X5_lay_p (l : Launch) (hst : l.stackTraces = false) (D : va_G) (cI cJ cO : ClassId) (o : Nat → Nat) (xx : Nat) (ak : Nat) (b : Nat) (tr : Nat) (hf : Int32) (an : Nat) (w1n : Nat) (wan : Nat) (pan : Nat) (ran : Nat) (san : Nat) (z : Nat → Int32) (sv : Nat) (rr : Nat) (rg : Nat → Nat → Nat) (y : Nat → Int32) (zs : Nat → Nat → Int32) (i : Nat) (x : Int32) (hp : bI (isP x) = 0) : CX l D (TY cI cJ cO) o cI yX5_lay wsX5_lay ({ frames := 7, cells := 1, slots := 6, locals := 110 }) [.ref xx, .int x] ([oX xx an ak sv b tr hf, oS an w1n pan san z, aI cI san 4 12 z, oW w1n wan z, aI cI wan 6 19 z, oP pan ran z, aI cI ran 200 25 z, oV sv rr y, aO cO rr (rgA rg)] ++ rgS cI rg zs) ([oX xx an ak sv b tr hf, oS an w1n pan san z, aI cI san 4 12 z, oW w1n wan z, aI cI wan 6 19 z, oP pan ran z, aI cI ran 200 25 z, oV sv rr y, aO cO rr (rgA rg)] ++ rgS cI rg zs) "java/lang/IndexOutOfBoundsException" := by
  refine CX.of hst (by decide) rfl rfl (Nat.le_of_ble_eq_true rfl) (fun p e s m below meth c A ls Q X hA w ox hl thr out => ?_)
  obtain ⟨hx, hb, hml, hown, hts⟩ := id X.1
  have hl : lv_has ls 3 [(0, .ref xx), (1, .int x)] := hl
  refine lv_iload_n hx hb dX5_lay_0 rfl (lv_at hl 1 rfl) ?_
  refine k_cxR (fun _ _ _ h => h) (k_runSX X w ox hA (met_X5_demandPose_x l hst D cI cJ cO o x hp s.heap.size) gX5_lay_X5_demandPose rfl rfl rfl 1 hdX5_demandPose ⟨Nat.le_of_ble_eq_true rfl, Nat.le_of_ble_eq_true rfl⟩ [] (tl_C rfl) rfl rfl hl.1 rfl (Nat.le_of_ble_eq_true rfl) dX5_lay_1 ⟨Nat.le_of_ble_eq_true rfl, Nat.le_of_ble_eq_true rfl⟩) w hA [] (tl_C rfl) (fun H locs q9 ce w h1 h2 h3 => ?_)
  exact out _ _ _ _ _ _ _ w h1 h2 h3
set_option maxHeartbeats 4000000 in
set_option maxRecDepth 100000 in
theorem met_X5_pass_x (l : Launch) (hst : l.stackTraces = false) (D : va_G) (cI cJ cO : ClassId) (o : Nat → Nat) (xx : Nat) (ak : Nat) (b : Nat) (tr : Nat) (hf : Int32) (an : Nat) (w1n : Nat) (wan : Nat) (pan : Nat) (ran : Nat) (san : Nat) (z : Nat → Int32) (sv : Nat) (rr : Nat) (rg : Nat → Nat → Nat) (y : Nat → Int32) (zs : Nat → Nat → Int32) (i : Nat) (v : Int32) (hr : ¬ inR v 1 99) : CX l D (TY cI cJ cO) o cI yX5_pass wsX5_pass ({ frames := 7, cells := 1, slots := 6, locals := 112 }) [.ref xx, .int v] ([oX xx an ak sv b tr hf, oS an w1n pan san z, aI cI san 4 12 z, oW w1n wan z, aI cI wan 6 19 z, oP pan ran z, aI cI ran 200 25 z, oV sv rr y, aO cO rr (rgA rg)] ++ rgS cI rg zs) ([oX xx an ak sv b tr hf, oS an w1n pan san z, aI cI san 4 12 z, oW w1n wan z, aI cI wan 6 19 z, oP pan ran z, aI cI ran 200 25 z, oV sv rr y, aO cO rr (rgA rg)] ++ rgS cI rg zs) "java/lang/IllegalArgumentException" := by
  refine CX.of hst (by decide) rfl rfl (Nat.le_of_ble_eq_true rfl) (fun p e s m below meth c A ls Q X hA w ox hl thr out => ?_)
  obtain ⟨hx, hb, hml, hown, hts⟩ := id X.1
  have hl : lv_has ls 2 [(0, .ref xx), (1, .int v)] := hl
  refine lv_iload_n hx hb dX5_pass_0 rfl (lv_at hl 1 rfl) ?_
  refine lv_iconst (v := 1) hx hb dX5_pass_1 (by decide) ?_
  refine lv_bipush (v := 99) hx hb dX5_pass_2 (by decide) ?_
  refine k_cxR (fun _ _ _ h => h) (k_runSX X w ox hA (met_X5_demandRange_x l hst D cI cJ cO o v 1 99 hr s.heap.size) gX5_pass_X5_demandRange rfl rfl rfl 3 hdX5_demandRange ⟨Nat.le_of_ble_eq_true rfl, Nat.le_of_ble_eq_true rfl⟩ [] (tl_C rfl) rfl rfl hl.1 rfl (Nat.le_of_ble_eq_true rfl) dX5_pass_4 ⟨Nat.le_of_ble_eq_true rfl, Nat.le_of_ble_eq_true rfl⟩) w hA [] (tl_C rfl) (fun H locs q9 ce w h1 h2 h3 => ?_)
  exact out _ _ _ _ _ _ _ w h1 h2 h3
set_option maxHeartbeats 4000000 in
set_option maxRecDepth 100000 in
theorem met_X5_read_p (l : Launch) (hst : l.stackTraces = false) (D : va_G) (cI cJ cO : ClassId) (o : Nat → Nat) (xx : Nat) (ak : Nat) (b : Nat) (tr : Nat) (hf : Int32) (an : Nat) (w1n : Nat) (wan : Nat) (pan : Nat) (ran : Nat) (san : Nat) (z : Nat → Int32) (sv : Nat) (rr : Nat) (rg : Nat → Nat → Nat) (y : Nat → Int32) (zs : Nat → Nat → Int32) (i : Nat) (x : Int32) (hp : bI (isP x) = 0) : CX l D (TY cI cJ cO) o cI yX5_read wsX5_read ({ frames := 7, cells := 1, slots := 6, locals := 110 }) [.ref xx, .int x] ([oX xx an ak sv b tr hf, oS an w1n pan san z, aI cI san 4 12 z, oW w1n wan z, aI cI wan 6 19 z, oP pan ran z, aI cI ran 200 25 z, oV sv rr y, aO cO rr (rgA rg)] ++ rgS cI rg zs) ([oX xx an ak sv b tr hf, oS an w1n pan san z, aI cI san 4 12 z, oW w1n wan z, aI cI wan 6 19 z, oP pan ran z, aI cI ran 200 25 z, oV sv rr y, aO cO rr (rgA rg)] ++ rgS cI rg zs) "java/lang/IndexOutOfBoundsException" := by
  refine CX.of hst (by decide) rfl rfl (Nat.le_of_ble_eq_true rfl) (fun p e s m below meth c A ls Q X hA w ox hl thr out => ?_)
  obtain ⟨hx, hb, hml, hown, hts⟩ := id X.1
  have hl : lv_has ls 2 [(0, .ref xx), (1, .int x)] := hl
  refine lv_iload_n hx hb dX5_read_0 rfl (lv_at hl 1 rfl) ?_
  refine k_cxR (fun _ _ _ h => h) (k_runSX X w ox hA (met_X5_demandPose_x l hst D cI cJ cO o x hp s.heap.size) gX5_read_X5_demandPose rfl rfl rfl 1 hdX5_demandPose ⟨Nat.le_of_ble_eq_true rfl, Nat.le_of_ble_eq_true rfl⟩ [] (tl_C rfl) rfl rfl hl.1 rfl (Nat.le_of_ble_eq_true rfl) dX5_read_1 ⟨Nat.le_of_ble_eq_true rfl, Nat.le_of_ble_eq_true rfl⟩) w hA [] (tl_C rfl) (fun H locs q9 ce w h1 h2 h3 => ?_)
  exact out _ _ _ _ _ _ _ w h1 h2 h3
set_option maxHeartbeats 4000000 in
set_option maxRecDepth 100000 in
theorem met_X5_read_x (l : Launch) (hst : l.stackTraces = false) (D : va_G) (cI cJ cO : ClassId) (o : Nat → Nat) (xx : Nat) (ak : Nat) (b : Nat) (tr : Nat) (hf : Int32) (an : Nat) (w1n : Nat) (wan : Nat) (pan : Nat) (ran : Nat) (san : Nat) (z : Nat → Int32) (sv : Nat) (rr : Nat) (rg : Nat → Nat → Nat) (y : Nat → Int32) (zs : Nat → Nat → Int32) (i : Nat) (k : Nat) (hk : k < 6) (hw : ¬ why z k = 0) : CX l D (TY cI cJ cO) o cI yX5_read wsX5_read ({ frames := 6, cells := 1, slots := 6, locals := 90 }) [.ref xx, .int (nI k)] ([oX xx an ak sv b tr hf, oS an w1n pan san z, aI cI san 4 12 z, oW w1n wan z, aI cI wan 6 19 z, oP pan ran z, aI cI ran 200 25 z, oV sv rr y, aO cO rr (rgA rg)] ++ rgS cI rg zs) ([oX xx an ak sv b tr hf, oS an w1n pan san z, aI cI san 4 12 z, oW w1n wan z, aI cI wan 6 19 z, oP pan ran z, aI cI ran 200 25 z, oV sv rr y, aO cO rr (rgA rg)] ++ rgS cI rg zs) "java/lang/IllegalStateException" := by
  refine CX.of hst (by decide) rfl rfl (Nat.le_of_ble_eq_true rfl) (fun p e s m below meth c A ls Q X hA w ox hl thr out => ?_)
  obtain ⟨hx, hb, hml, hown, hts⟩ := id X.1
  have hl : lv_has ls 2 [(0, .ref xx), (1, .int (nI k))] := hl
  refine lv_iload_n hx hb dX5_read_0 rfl (lv_at hl 1 rfl) ?_
  refine k_cvR (k_runS X w (met_X5_demandPose l D cI cJ cO (nI k) (isP_b hk) s.heap.size) gX5_read_X5_demandPose rfl rfl rfl 1 hdX5_demandPose ⟨Nat.le_of_ble_eq_true rfl, Nat.le_of_ble_eq_true rfl⟩ [] (tl_C rfl) rfl rfl hl.1 rfl (Nat.le_of_ble_eq_true rfl) dX5_read_1 ⟨Nat.le_of_ble_eq_true rfl, Nat.le_of_ble_eq_true rfl⟩) w hA [] (tl_C rfl) (fun H locs w => ?_)
  refine lv_aload_n hx hb dX5_read_4 rfl (lv_at hl 0 rfl) ?_
  refine k_get X w 0 rfl rfl 0 (by decide) rfl iX5_read_X5 (List.mem_of_getElem? (i := 3) rfl) (v := .ref an) rfl dX5_read_5 ?_
  refine lv_iload_n hx hb dX5_read_8 rfl (lv_at hl 1 rfl) ?_
  refine k_ciR (k_runV X w (met_X3_whyNoReading l D cI cJ cO an w1n wan pan ran san z k hk H.size) gX5_read_X3_whyNoReading rfl rfl rfl 1 hdX3_whyNoReading ⟨Nat.le_of_ble_eq_true rfl, Nat.le_of_ble_eq_true rfl⟩ [1, 2, 3, 4, 5, 6] (tl_C rfl) rfl 1 3 rfl rfl rfl rfl hl.1 rfl (Nat.le_of_ble_eq_true rfl) dX5_read_9 ⟨Nat.le_of_ble_eq_true rfl, Nat.le_of_ble_eq_true rfl⟩) w hA [1, 2, 3, 4, 5, 6] (tl_C rfl) (fun H locs w => ?_)
  refine lv_if_eq (tgt := 25) hx hb dX5_read_12 (by decide) (fun c1 => absurd c1 hw) (fun c1 => ?_)
  exact thr _ _ _ _ _ 101 103 105 _ w thW_s (List.mem_of_getElem? (i := 1) rfl) (List.mem_of_getElem? (i := 2) rfl) (fun _ h => List.mem_cons_of_mem _ (List.mem_append_left _ (List.mem_append_right _ h))) (List.mem_of_getElem? (i := 0) rfl) hl.1 dX5_read_15 dX5_read_18 dX5_read_19 dX5_read_21 dX5_read_24 ⟨Nat.le_of_ble_eq_true rfl, Nat.le_of_ble_eq_true rfl, Nat.le_of_ble_eq_true rfl, Nat.le_of_ble_eq_true rfl⟩ (Nat.le_of_ble_eq_true rfl)
set_option maxHeartbeats 4000000 in
set_option maxRecDepth 100000 in
theorem met_X5_undo_x (l : Launch) (hst : l.stackTraces = false) (D : va_G) (cI cJ cO : ClassId) (o : Nat → Nat) (xx : Nat) (ak : Nat) (b : Nat) (tr : Nat) (hf : Int32) (an : Nat) (w1n : Nat) (wan : Nat) (pan : Nat) (ran : Nat) (san : Nat) (z : Nat → Int32) (sv : Nat) (rr : Nat) (rg : Nat → Nat → Nat) (y : Nat → Int32) (zs : Nat → Nat → Int32) (hs : y 1 = 0) : CX l D (TY cI cJ cO) o cI yX5_undo wsX5_undo ({ frames := 6, cells := 1, slots := 6, locals := 90 }) [.ref xx] ([oX xx an ak sv b tr hf, oS an w1n pan san z, aI cI san 4 12 z, oW w1n wan z, aI cI wan 6 19 z, oP pan ran z, aI cI ran 200 25 z, oV sv rr y, aO cO rr (rgA rg)] ++ rgS cI rg zs) ([oX xx an ak sv b tr hf, oS an w1n pan san z, aI cI san 4 12 z, oW w1n wan z, aI cI wan 6 19 z, oP pan ran z, aI cI ran 200 25 z, oV sv rr y, aO cO rr (rgA rg)] ++ rgS cI rg zs) "java/lang/IllegalStateException" := by
  refine CX.of hst (by decide) rfl rfl (Nat.le_of_ble_eq_true rfl) (fun p e s m below meth c A ls Q X hA w ox hl thr out => ?_)
  obtain ⟨hx, hb, hml, hown, hts⟩ := id X.1
  have hl : lv_has ls 1 [(0, .ref xx)] := hl
  refine lv_aload_n hx hb dX5_undo_0 rfl (lv_at hl 0 rfl) ?_
  refine k_get X w 0 rfl rfl 2 (by decide) rfl iX5_undo_X5 (List.mem_of_getElem? (i := 3) rfl) (v := .ref sv) rfl dX5_undo_1 ?_
  refine k_get X w 7 rfl rfl 2 (by decide) rfl iX5_undo_X2 (List.mem_of_getElem? (i := 4) rfl) (v := .int (y 1)) rfl dX5_undo_4 ?_
  refine lv_if_ne (tgt := 20) hx hb dX5_undo_7 (by decide) (fun c1 => absurd hs c1) (fun c1 => ?_)
  exact thr _ _ _ _ _ 101 173 105 _ w thW_s (List.mem_of_getElem? (i := 1) rfl) (List.mem_of_getElem? (i := 2) rfl) (fun _ h => List.mem_cons_of_mem _ (List.mem_append_right _ h)) (List.mem_of_getElem? (i := 2) rfl) hl.1 dX5_undo_10 dX5_undo_13 dX5_undo_14 dX5_undo_16 dX5_undo_19 ⟨Nat.le_of_ble_eq_true rfl, Nat.le_of_ble_eq_true rfl, Nat.le_of_ble_eq_true rfl, Nat.le_of_ble_eq_true rfl⟩ (Nat.le_of_ble_eq_true rfl)
set_option maxHeartbeats 4000000 in
set_option maxRecDepth 100000 in
theorem met_X5_restore_x (l : Launch) (hst : l.stackTraces = false) (D : va_G) (cI cJ cO : ClassId) (o : Nat → Nat) (xx : Nat) (ak : Nat) (b : Nat) (tr : Nat) (hf : Int32) (an : Nat) (w1n : Nat) (wan : Nat) (pan : Nat) (ran : Nat) (san : Nat) (z : Nat → Int32) (sv : Nat) (rr : Nat) (rg : Nat → Nat → Nat) (y : Nat → Int32) (zs : Nat → Nat → Int32) (w1k : Nat) (wak : Nat) (pak : Nat) (rak : Nat) (sak : Nat) (zk : Nat → Int32) (hs : hf = 0) : CX l D (TY cI cJ cO) o cI yX5_restore wsX5_restore ({ frames := 6, cells := 1, slots := 6, locals := 90 }) [.ref xx] ([oX xx an ak sv b tr hf, oS an w1n pan san z, aI cI san 4 12 z, oW w1n wan z, aI cI wan 6 19 z, oP pan ran z, aI cI ran 200 25 z, oS ak w1k pak sak zk, aI cI sak 4 12 zk, oW w1k wak zk, aI cI wak 6 19 zk, oP pak rak zk, aI cI rak 200 25 zk, oV sv rr y, aO cO rr (rgA rg)] ++ rgS cI rg zs) ([oX xx an ak sv b tr hf, oS an w1n pan san z, aI cI san 4 12 z, oW w1n wan z, aI cI wan 6 19 z, oP pan ran z, aI cI ran 200 25 z, oS ak w1k pak sak zk, aI cI sak 4 12 zk, oW w1k wak zk, aI cI wak 6 19 zk, oP pak rak zk, aI cI rak 200 25 zk, oV sv rr y, aO cO rr (rgA rg)] ++ rgS cI rg zs) "java/lang/IllegalStateException" := by
  refine CX.of hst (by decide) rfl rfl (Nat.le_of_ble_eq_true rfl) (fun p e s m below meth c A ls Q X hA w ox hl thr out => ?_)
  obtain ⟨hx, hb, hml, hown, hts⟩ := id X.1
  have hl : lv_has ls 1 [(0, .ref xx)] := hl
  refine lv_aload_n hx hb dX5_restore_0 rfl (lv_at hl 0 rfl) ?_
  refine k_get X w 0 rfl rfl 5 (by decide) rfl iX5_restore_X5 (List.mem_of_getElem? (i := 3) rfl) (v := .int hf) rfl dX5_restore_1 ?_
  refine lv_if_ne (tgt := 17) hx hb dX5_restore_4 (by decide) (fun c1 => absurd hs c1) (fun c1 => ?_)
  exact thr _ _ _ _ _ 101 184 105 _ w thW_s (List.mem_of_getElem? (i := 1) rfl) (List.mem_of_getElem? (i := 2) rfl) (fun _ h => List.mem_cons_of_mem _ (List.mem_append_right _ h)) (List.mem_of_getElem? (i := 3) rfl) hl.1 dX5_restore_7 dX5_restore_10 dX5_restore_11 dX5_restore_13 dX5_restore_16 ⟨Nat.le_of_ble_eq_true rfl, Nat.le_of_ble_eq_true rfl, Nat.le_of_ble_eq_true rfl, Nat.le_of_ble_eq_true rfl⟩ (Nat.le_of_ble_eq_true rfl)
set_option maxHeartbeats 4000000 in
set_option maxRecDepth 100000 in
theorem met_X5_pose_p (l : Launch) (hst : l.stackTraces = false) (D : va_G) (cI cJ cO : ClassId) (o : Nat → Nat) (xx : Nat) (ak : Nat) (b : Nat) (tr : Nat) (hf : Int32) (sv : Nat) (an : Nat) (w1n : Nat) (wan : Nat) (pan : Nat) (ran : Nat) (san : Nat) (z : Nat → Int32) (x : Int32) (v : Int32) (hp : bI (isP x) = 0) : CX l D (TY cI cJ cO) o cI yX5_pose wsX5_pose ({ frames := 7, cells := 1, slots := 6, locals := 110 }) [.ref xx, .int x, .int v] [oX xx an ak sv b tr hf, oS an w1n pan san z, aI cI san 4 12 z, oW w1n wan z, aI cI wan 6 19 z, oP pan ran z, aI cI ran 200 25 z] [oX xx an ak sv b tr hf, oS an w1n pan san z, aI cI san 4 12 z, oW w1n wan z, aI cI wan 6 19 z, oP pan ran z, aI cI ran 200 25 z] "java/lang/IndexOutOfBoundsException" := by
  refine CX.of hst (by decide) rfl rfl (Nat.le_of_ble_eq_true rfl) (fun p e s m below meth c A ls Q X hA w ox hl thr out => ?_)
  obtain ⟨hx, hb, hml, hown, hts⟩ := id X.1
  have hl : lv_has ls 3 [(0, .ref xx), (1, .int x), (2, .int v)] := hl
  refine lv_iload_n hx hb dX5_pose_0 rfl (lv_at hl 1 rfl) ?_
  refine k_cxR (fun _ _ _ h => h) (k_runSX X w ox hA (met_X5_demandPose_x l hst D cI cJ cO o x hp s.heap.size) gX5_pose_X5_demandPose rfl rfl rfl 1 hdX5_demandPose ⟨Nat.le_of_ble_eq_true rfl, Nat.le_of_ble_eq_true rfl⟩ [] rfl rfl rfl hl.1 rfl (Nat.le_of_ble_eq_true rfl) dX5_pose_1 ⟨Nat.le_of_ble_eq_true rfl, Nat.le_of_ble_eq_true rfl⟩) w hA [] rfl (fun H locs q9 ce w h1 h2 h3 => ?_)
  exact out _ _ _ _ _ _ _ w h1 h2 h3
set_option maxHeartbeats 4000000 in
set_option maxRecDepth 100000 in
theorem met_X5_pose_x (l : Launch) (hst : l.stackTraces = false) (D : va_G) (cI cJ cO : ClassId) (o : Nat → Nat) (xx : Nat) (ak : Nat) (b : Nat) (tr : Nat) (hf : Int32) (sv : Nat) (an : Nat) (w1n : Nat) (wan : Nat) (pan : Nat) (ran : Nat) (san : Nat) (z : Nat → Int32) (k : Nat) (v : Int32) (hk : k < 6) (hr : ¬ inR v 0 7) : CX l D (TY cI cJ cO) o cI yX5_pose wsX5_pose ({ frames := 7, cells := 1, slots := 6, locals := 112 }) [.ref xx, .int (nI k), .int v] [oX xx an ak sv b tr hf, oS an w1n pan san z, aI cI san 4 12 z, oW w1n wan z, aI cI wan 6 19 z, oP pan ran z, aI cI ran 200 25 z] [oX xx an ak sv b tr hf, oS an w1n pan san z, aI cI san 4 12 z, oW w1n wan z, aI cI wan 6 19 z, oP pan ran z, aI cI ran 200 25 z] "java/lang/IllegalArgumentException" := by
  refine CX.of hst (by decide) rfl rfl (Nat.le_of_ble_eq_true rfl) (fun p e s m below meth c A ls Q X hA w ox hl thr out => ?_)
  obtain ⟨hx, hb, hml, hown, hts⟩ := id X.1
  have hl : lv_has ls 3 [(0, .ref xx), (1, .int (nI k)), (2, .int v)] := hl
  refine lv_iload_n hx hb dX5_pose_0 rfl (lv_at hl 1 rfl) ?_
  refine k_cvR (k_runS X w (met_X5_demandPose l D cI cJ cO (nI k) (isP_b hk) s.heap.size) gX5_pose_X5_demandPose rfl rfl rfl 1 hdX5_demandPose ⟨Nat.le_of_ble_eq_true rfl, Nat.le_of_ble_eq_true rfl⟩ [] rfl rfl rfl hl.1 rfl (Nat.le_of_ble_eq_true rfl) dX5_pose_1 ⟨Nat.le_of_ble_eq_true rfl, Nat.le_of_ble_eq_true rfl⟩) w hA [] rfl (fun H locs w => ?_)
  refine lv_iload_n hx hb dX5_pose_4 rfl (lv_at hl 2 rfl) ?_
  refine lv_iconst (v := 0) hx hb dX5_pose_5 (by decide) ?_
  refine lv_bipush (v := 7) hx hb dX5_pose_6 (by decide) ?_
  refine k_cxR (fun _ _ _ h => h) (k_runSX X w ox hA (met_X5_demandRange_x l hst D cI cJ cO o v 0 7 hr H.size) gX5_pose_X5_demandRange rfl rfl rfl 3 hdX5_demandRange ⟨Nat.le_of_ble_eq_true rfl, Nat.le_of_ble_eq_true rfl⟩ [] rfl rfl rfl hl.1 rfl (Nat.le_of_ble_eq_true rfl) dX5_pose_8 ⟨Nat.le_of_ble_eq_true rfl, Nat.le_of_ble_eq_true rfl⟩) w hA [] rfl (fun H locs q9 ce w h1 h2 h3 => ?_)
  exact out _ _ _ _ _ _ _ w h1 h2 h3
set_option maxHeartbeats 4000000 in
set_option maxRecDepth 100000 in
theorem met_X5_reading_n (l : Launch) (hst : l.stackTraces = false) (D : va_G) (cI cJ cO : ClassId) (o : Nat → Nat) (xx : Nat) (ak : Nat) (b : Nat) (tr : Nat) (hf : Int32) (sv : Nat) (an : Nat) (w1n : Nat) (wan : Nat) (pan : Nat) (ran : Nat) (san : Nat) (z : Nat → Int32) (x : Int32) (v : Int32) (hv : ¬ 0 ≤ x) : CX l D (TY cI cJ cO) o cI yX5_reading wsX5_reading ({ frames := 6, cells := 1, slots := 6, locals := 90 }) [.ref xx, .int x, .int v] [oX xx an ak sv b tr hf, oS an w1n pan san z, aI cI san 4 12 z, oW w1n wan z, aI cI wan 6 19 z, oP pan ran z, aI cI ran 200 25 z] [oX xx an ak sv b tr hf, oS an w1n pan san z, aI cI san 4 12 z, oW w1n wan z, aI cI wan 6 19 z, oP pan ran z, aI cI ran 200 25 z] "java/lang/IllegalArgumentException" := by
  refine CX.of hst (by decide) rfl rfl (Nat.le_of_ble_eq_true rfl) (fun p e s m below meth c A ls Q X hA w ox hl thr out => ?_)
  obtain ⟨hx, hb, hml, hown, hts⟩ := id X.1
  have hl : lv_has ls 3 [(0, .ref xx), (1, .int x), (2, .int v)] := hl
  refine lv_iload_n hx hb dX5_reading_0 rfl (lv_at hl 1 rfl) ?_
  refine lv_if_ge (tgt := 14) hx hb dX5_reading_1 (by decide) (fun c1 => absurd c1 hv) (fun c1 => ?_)
  exact thr _ _ _ _ _ 152 189 156 _ w thW_a (List.mem_of_getElem? (i := 1) rfl) (List.mem_of_getElem? (i := 2) rfl) (fun _ h => List.mem_cons_of_mem _ (List.mem_append_right _ h)) (List.mem_of_getElem? (i := 4) rfl) hl.1 dX5_reading_4 dX5_reading_7 dX5_reading_8 dX5_reading_10 dX5_reading_13 ⟨Nat.le_of_ble_eq_true rfl, Nat.le_of_ble_eq_true rfl, Nat.le_of_ble_eq_true rfl, Nat.le_of_ble_eq_true rfl⟩ (Nat.le_of_ble_eq_true rfl)
set_option maxHeartbeats 4000000 in
set_option maxRecDepth 100000 in
theorem met_X5_reading_x (l : Launch) (hst : l.stackTraces = false) (D : va_G) (cI cJ cO : ClassId) (o : Nat → Nat) (xx : Nat) (ak : Nat) (b : Nat) (tr : Nat) (hf : Int32) (sv : Nat) (an : Nat) (w1n : Nat) (wan : Nat) (pan : Nat) (ran : Nat) (san : Nat) (z : Nat → Int32) (x : Int32) (v : Int32) (hv : 0 ≤ x) (hr : ¬ inR v 0 4) : CX l D (TY cI cJ cO) o cI yX5_reading wsX5_reading ({ frames := 7, cells := 1, slots := 6, locals := 112 }) [.ref xx, .int x, .int v] [oX xx an ak sv b tr hf, oS an w1n pan san z, aI cI san 4 12 z, oW w1n wan z, aI cI wan 6 19 z, oP pan ran z, aI cI ran 200 25 z] [oX xx an ak sv b tr hf, oS an w1n pan san z, aI cI san 4 12 z, oW w1n wan z, aI cI wan 6 19 z, oP pan ran z, aI cI ran 200 25 z] "java/lang/IllegalArgumentException" := by
  refine CX.of hst (by decide) rfl rfl (Nat.le_of_ble_eq_true rfl) (fun p e s m below meth c A ls Q X hA w ox hl thr out => ?_)
  obtain ⟨hx, hb, hml, hown, hts⟩ := id X.1
  have hl : lv_has ls 3 [(0, .ref xx), (1, .int x), (2, .int v)] := hl
  refine lv_iload_n hx hb dX5_reading_0 rfl (lv_at hl 1 rfl) ?_
  refine lv_if_ge (tgt := 14) hx hb dX5_reading_1 (by decide) (fun c1 => ?_) (fun c1 => absurd hv c1)
  refine lv_iload_n hx hb dX5_reading_14 rfl (lv_at hl 2 rfl) ?_
  refine lv_iconst (v := 0) hx hb dX5_reading_15 (by decide) ?_
  refine lv_iconst (v := 4) hx hb dX5_reading_16 (by decide) ?_
  refine k_cxR (fun _ _ _ h => h) (k_runSX X w ox hA (met_X5_demandRange_x l hst D cI cJ cO o v 0 4 hr s.heap.size) gX5_reading_X5_demandRange rfl rfl rfl 3 hdX5_demandRange ⟨Nat.le_of_ble_eq_true rfl, Nat.le_of_ble_eq_true rfl⟩ [] rfl rfl rfl hl.1 rfl (Nat.le_of_ble_eq_true rfl) dX5_reading_17 ⟨Nat.le_of_ble_eq_true rfl, Nat.le_of_ble_eq_true rfl⟩) w hA [] rfl (fun H locs q9 ce w h1 h2 h3 => ?_)
  exact out _ _ _ _ _ _ _ w h1 h2 h3
set_option maxHeartbeats 4000000 in
set_option maxRecDepth 100000 in
theorem met_X5_count_x (l : Launch) (hst : l.stackTraces = false) (D : va_G) (cI cJ cO : ClassId) (o : Nat → Nat) (xx : Nat) (ak : Nat) (b : Nat) (tr : Nat) (hf : Int32) (sv : Nat) (an : Nat) (w1n : Nat) (wan : Nat) (pan : Nat) (ran : Nat) (san : Nat) (z : Nat → Int32) (rr : Nat) (y : Nat → Int32) (v : Int32) (hr : ¬ inR v 0 20) : CX l D (TY cI cJ cO) o cI yX5_count wsX5_count ({ frames := 7, cells := 1, slots := 6, locals := 112 }) [.ref xx, .int v] [oX xx an ak sv b tr hf, oS an w1n pan san z, aI cI san 4 12 z, oW w1n wan z, aI cI wan 6 19 z, oP pan ran z, aI cI ran 200 25 z, oV sv rr y] [oX xx an ak sv b tr hf, oS an w1n pan san z, aI cI san 4 12 z, oW w1n wan z, aI cI wan 6 19 z, oP pan ran z, aI cI ran 200 25 z, oV sv rr y] "java/lang/IllegalArgumentException" := by
  refine CX.of hst (by decide) rfl rfl (Nat.le_of_ble_eq_true rfl) (fun p e s m below meth c A ls Q X hA w ox hl thr out => ?_)
  obtain ⟨hx, hb, hml, hown, hts⟩ := id X.1
  have hl : lv_has ls 2 [(0, .ref xx), (1, .int v)] := hl
  refine lv_iload_n hx hb dX5_count_0 rfl (lv_at hl 1 rfl) ?_
  refine lv_iconst (v := 0) hx hb dX5_count_1 (by decide) ?_
  refine lv_bipush (v := 20) hx hb dX5_count_2 (by decide) ?_
  refine k_cxR (fun _ _ _ h => h) (k_runSX X w ox hA (met_X5_demandRange_x l hst D cI cJ cO o v 0 20 hr s.heap.size) gX5_count_X5_demandRange rfl rfl rfl 3 hdX5_demandRange ⟨Nat.le_of_ble_eq_true rfl, Nat.le_of_ble_eq_true rfl⟩ [] rfl rfl rfl hl.1 rfl (Nat.le_of_ble_eq_true rfl) dX5_count_4 ⟨Nat.le_of_ble_eq_true rfl, Nat.le_of_ble_eq_true rfl⟩) w hA [] rfl (fun H locs q9 ce w h1 h2 h3 => ?_)
  exact out _ _ _ _ _ _ _ w h1 h2 h3
set_option maxHeartbeats 4000000 in
set_option maxRecDepth 100000 in
theorem met_X5_ifWorn_p (l : Launch) (hst : l.stackTraces = false) (D : va_G) (cI cJ cO : ClassId) (o : Nat → Nat) (xx : Nat) (ak : Nat) (b : Nat) (tr : Nat) (hf : Int32) (sv : Nat) (an : Nat) (w1n : Nat) (wan : Nat) (pan : Nat) (ran : Nat) (san : Nat) (z : Nat → Int32) (twa : Nat) (zt : Nat → Int32) (i1 : Int32) (i2 : Int32) (i3 : Int32) (v : Int32) (hp : bI (isP i1) = 0) : CX l D (TY cI cJ cO) o cI yX5_ifWorn wsX5_ifWorn ({ frames := 7, cells := 1, slots := 6, locals := 110 }) [.ref xx, .int i1, .int i2, .int i3, .int v] [oX xx an ak sv b tr hf, oS an w1n pan san z, aI cI san 4 12 z, oW w1n wan z, aI cI wan 6 19 z, oP pan ran z, aI cI ran 200 25 z, oW tr twa zt, aI cI twa 6 19 zt] [oX xx an ak sv b tr hf, oS an w1n pan san z, aI cI san 4 12 z, oW w1n wan z, aI cI wan 6 19 z, oP pan ran z, aI cI ran 200 25 z, oW tr twa zt, aI cI twa 6 19 zt] "java/lang/IndexOutOfBoundsException" := by
  refine CX.of hst (by decide) rfl rfl (Nat.le_of_ble_eq_true rfl) (fun p e s m below meth c A ls Q X hA w ox hl thr out => ?_)
  obtain ⟨hx, hb, hml, hown, hts⟩ := id X.1
  have hl : lv_has ls 5 [(0, .ref xx), (1, .int i1), (2, .int i2), (3, .int i3), (4, .int v)] := hl
  refine lv_iload_n hx hb dX5_ifWorn_0 rfl (lv_at hl 1 rfl) ?_
  refine k_cxR (fun _ _ _ h => h) (k_runSX X w ox hA (met_X5_demandPose_x l hst D cI cJ cO o i1 hp s.heap.size) gX5_ifWorn_X5_demandPose rfl rfl rfl 1 hdX5_demandPose ⟨Nat.le_of_ble_eq_true rfl, Nat.le_of_ble_eq_true rfl⟩ [] rfl rfl rfl hl.1 rfl (Nat.le_of_ble_eq_true rfl) dX5_ifWorn_1 ⟨Nat.le_of_ble_eq_true rfl, Nat.le_of_ble_eq_true rfl⟩) w hA [] rfl (fun H locs q9 ce w h1 h2 h3 => ?_)
  exact out _ _ _ _ _ _ _ w h1 h2 h3
set_option maxHeartbeats 4000000 in
set_option maxRecDepth 100000 in
theorem met_X5_ifWorn_q (l : Launch) (hst : l.stackTraces = false) (D : va_G) (cI cJ cO : ClassId) (o : Nat → Nat) (xx : Nat) (ak : Nat) (b : Nat) (tr : Nat) (hf : Int32) (sv : Nat) (an : Nat) (w1n : Nat) (wan : Nat) (pan : Nat) (ran : Nat) (san : Nat) (z : Nat → Int32) (twa : Nat) (zt : Nat → Int32) (i1 : Int32) (i2 : Int32) (i3 : Int32) (v : Int32) (hp1 : ¬ bI (isP i1) = 0) (hp : bI (isP i2) = 0) : CX l D (TY cI cJ cO) o cI yX5_ifWorn wsX5_ifWorn ({ frames := 7, cells := 1, slots := 6, locals := 110 }) [.ref xx, .int i1, .int i2, .int i3, .int v] [oX xx an ak sv b tr hf, oS an w1n pan san z, aI cI san 4 12 z, oW w1n wan z, aI cI wan 6 19 z, oP pan ran z, aI cI ran 200 25 z, oW tr twa zt, aI cI twa 6 19 zt] [oX xx an ak sv b tr hf, oS an w1n pan san z, aI cI san 4 12 z, oW w1n wan z, aI cI wan 6 19 z, oP pan ran z, aI cI ran 200 25 z, oW tr twa zt, aI cI twa 6 19 zt] "java/lang/IndexOutOfBoundsException" := by
  refine CX.of hst (by decide) rfl rfl (Nat.le_of_ble_eq_true rfl) (fun p e s m below meth c A ls Q X hA w ox hl thr out => ?_)
  obtain ⟨hx, hb, hml, hown, hts⟩ := id X.1
  have hl : lv_has ls 5 [(0, .ref xx), (1, .int i1), (2, .int i2), (3, .int i3), (4, .int v)] := hl
  refine lv_iload_n hx hb dX5_ifWorn_0 rfl (lv_at hl 1 rfl) ?_
  refine k_cvR (k_runS X w (met_X5_demandPose l D cI cJ cO i1 hp1 s.heap.size) gX5_ifWorn_X5_demandPose rfl rfl rfl 1 hdX5_demandPose ⟨Nat.le_of_ble_eq_true rfl, Nat.le_of_ble_eq_true rfl⟩ [] rfl rfl rfl hl.1 rfl (Nat.le_of_ble_eq_true rfl) dX5_ifWorn_1 ⟨Nat.le_of_ble_eq_true rfl, Nat.le_of_ble_eq_true rfl⟩) w hA [] rfl (fun H locs w => ?_)
  refine lv_iload_n hx hb dX5_ifWorn_4 rfl (lv_at hl 2 rfl) ?_
  refine k_cxR (fun _ _ _ h => h) (k_runSX X w ox hA (met_X5_demandPose_x l hst D cI cJ cO o i2 hp H.size) gX5_ifWorn_X5_demandPose rfl rfl rfl 1 hdX5_demandPose ⟨Nat.le_of_ble_eq_true rfl, Nat.le_of_ble_eq_true rfl⟩ [] rfl rfl rfl hl.1 rfl (Nat.le_of_ble_eq_true rfl) dX5_ifWorn_5 ⟨Nat.le_of_ble_eq_true rfl, Nat.le_of_ble_eq_true rfl⟩) w hA [] rfl (fun H locs q9 ce w h1 h2 h3 => ?_)
  exact out _ _ _ _ _ _ _ w h1 h2 h3
set_option maxHeartbeats 4000000 in
set_option maxRecDepth 100000 in
theorem met_X5_ifWorn_r (l : Launch) (hst : l.stackTraces = false) (D : va_G) (cI cJ cO : ClassId) (o : Nat → Nat) (xx : Nat) (ak : Nat) (b : Nat) (tr : Nat) (hf : Int32) (sv : Nat) (an : Nat) (w1n : Nat) (wan : Nat) (pan : Nat) (ran : Nat) (san : Nat) (z : Nat → Int32) (twa : Nat) (zt : Nat → Int32) (i1 : Int32) (i2 : Int32) (i3 : Int32) (v : Int32) (hp1 : ¬ bI (isP i1) = 0) (hp2 : ¬ bI (isP i2) = 0) (hp : bI (isP i3) = 0) : CX l D (TY cI cJ cO) o cI yX5_ifWorn wsX5_ifWorn ({ frames := 7, cells := 1, slots := 6, locals := 110 }) [.ref xx, .int i1, .int i2, .int i3, .int v] [oX xx an ak sv b tr hf, oS an w1n pan san z, aI cI san 4 12 z, oW w1n wan z, aI cI wan 6 19 z, oP pan ran z, aI cI ran 200 25 z, oW tr twa zt, aI cI twa 6 19 zt] [oX xx an ak sv b tr hf, oS an w1n pan san z, aI cI san 4 12 z, oW w1n wan z, aI cI wan 6 19 z, oP pan ran z, aI cI ran 200 25 z, oW tr twa zt, aI cI twa 6 19 zt] "java/lang/IndexOutOfBoundsException" := by
  refine CX.of hst (by decide) rfl rfl (Nat.le_of_ble_eq_true rfl) (fun p e s m below meth c A ls Q X hA w ox hl thr out => ?_)
  obtain ⟨hx, hb, hml, hown, hts⟩ := id X.1
  have hl : lv_has ls 5 [(0, .ref xx), (1, .int i1), (2, .int i2), (3, .int i3), (4, .int v)] := hl
  refine lv_iload_n hx hb dX5_ifWorn_0 rfl (lv_at hl 1 rfl) ?_
  refine k_cvR (k_runS X w (met_X5_demandPose l D cI cJ cO i1 hp1 s.heap.size) gX5_ifWorn_X5_demandPose rfl rfl rfl 1 hdX5_demandPose ⟨Nat.le_of_ble_eq_true rfl, Nat.le_of_ble_eq_true rfl⟩ [] rfl rfl rfl hl.1 rfl (Nat.le_of_ble_eq_true rfl) dX5_ifWorn_1 ⟨Nat.le_of_ble_eq_true rfl, Nat.le_of_ble_eq_true rfl⟩) w hA [] rfl (fun H locs w => ?_)
  refine lv_iload_n hx hb dX5_ifWorn_4 rfl (lv_at hl 2 rfl) ?_
  refine k_cvR (k_runS X w (met_X5_demandPose l D cI cJ cO i2 hp2 H.size) gX5_ifWorn_X5_demandPose rfl rfl rfl 1 hdX5_demandPose ⟨Nat.le_of_ble_eq_true rfl, Nat.le_of_ble_eq_true rfl⟩ [] rfl rfl rfl hl.1 rfl (Nat.le_of_ble_eq_true rfl) dX5_ifWorn_5 ⟨Nat.le_of_ble_eq_true rfl, Nat.le_of_ble_eq_true rfl⟩) w hA [] rfl (fun H locs w => ?_)
  refine lv_iload_n hx hb dX5_ifWorn_8 rfl (lv_at hl 3 rfl) ?_
  refine k_cxR (fun _ _ _ h => h) (k_runSX X w ox hA (met_X5_demandPose_x l hst D cI cJ cO o i3 hp H.size) gX5_ifWorn_X5_demandPose rfl rfl rfl 1 hdX5_demandPose ⟨Nat.le_of_ble_eq_true rfl, Nat.le_of_ble_eq_true rfl⟩ [] rfl rfl rfl hl.1 rfl (Nat.le_of_ble_eq_true rfl) dX5_ifWorn_9 ⟨Nat.le_of_ble_eq_true rfl, Nat.le_of_ble_eq_true rfl⟩) w hA [] rfl (fun H locs q9 ce w h1 h2 h3 => ?_)
  exact out _ _ _ _ _ _ _ w h1 h2 h3
set_option maxHeartbeats 4000000 in
set_option maxRecDepth 100000 in
theorem met_X5_ifWorn_x (l : Launch) (hst : l.stackTraces = false) (D : va_G) (cI cJ cO : ClassId) (o : Nat → Nat) (xx : Nat) (ak : Nat) (b : Nat) (tr : Nat) (hf : Int32) (sv : Nat) (an : Nat) (w1n : Nat) (wan : Nat) (pan : Nat) (ran : Nat) (san : Nat) (z : Nat → Int32) (twa : Nat) (zt : Nat → Int32) (i1 : Int32) (i2 : Int32) (i3 : Int32) (v : Int32) (hp1 : ¬ bI (isP i1) = 0) (hp2 : ¬ bI (isP i2) = 0) (hp3 : ¬ bI (isP i3) = 0) (hr : ¬ inR v 0 1) : CX l D (TY cI cJ cO) o cI yX5_ifWorn wsX5_ifWorn ({ frames := 7, cells := 1, slots := 6, locals := 112 }) [.ref xx, .int i1, .int i2, .int i3, .int v] [oX xx an ak sv b tr hf, oS an w1n pan san z, aI cI san 4 12 z, oW w1n wan z, aI cI wan 6 19 z, oP pan ran z, aI cI ran 200 25 z, oW tr twa zt, aI cI twa 6 19 zt] [oX xx an ak sv b tr hf, oS an w1n pan san z, aI cI san 4 12 z, oW w1n wan z, aI cI wan 6 19 z, oP pan ran z, aI cI ran 200 25 z, oW tr twa zt, aI cI twa 6 19 zt] "java/lang/IllegalArgumentException" := by
  refine CX.of hst (by decide) rfl rfl (Nat.le_of_ble_eq_true rfl) (fun p e s m below meth c A ls Q X hA w ox hl thr out => ?_)
  obtain ⟨hx, hb, hml, hown, hts⟩ := id X.1
  have hl : lv_has ls 5 [(0, .ref xx), (1, .int i1), (2, .int i2), (3, .int i3), (4, .int v)] := hl
  refine lv_iload_n hx hb dX5_ifWorn_0 rfl (lv_at hl 1 rfl) ?_
  refine k_cvR (k_runS X w (met_X5_demandPose l D cI cJ cO i1 hp1 s.heap.size) gX5_ifWorn_X5_demandPose rfl rfl rfl 1 hdX5_demandPose ⟨Nat.le_of_ble_eq_true rfl, Nat.le_of_ble_eq_true rfl⟩ [] rfl rfl rfl hl.1 rfl (Nat.le_of_ble_eq_true rfl) dX5_ifWorn_1 ⟨Nat.le_of_ble_eq_true rfl, Nat.le_of_ble_eq_true rfl⟩) w hA [] rfl (fun H locs w => ?_)
  refine lv_iload_n hx hb dX5_ifWorn_4 rfl (lv_at hl 2 rfl) ?_
  refine k_cvR (k_runS X w (met_X5_demandPose l D cI cJ cO i2 hp2 H.size) gX5_ifWorn_X5_demandPose rfl rfl rfl 1 hdX5_demandPose ⟨Nat.le_of_ble_eq_true rfl, Nat.le_of_ble_eq_true rfl⟩ [] rfl rfl rfl hl.1 rfl (Nat.le_of_ble_eq_true rfl) dX5_ifWorn_5 ⟨Nat.le_of_ble_eq_true rfl, Nat.le_of_ble_eq_true rfl⟩) w hA [] rfl (fun H locs w => ?_)
  refine lv_iload_n hx hb dX5_ifWorn_8 rfl (lv_at hl 3 rfl) ?_
  refine k_cvR (k_runS X w (met_X5_demandPose l D cI cJ cO i3 hp3 H.size) gX5_ifWorn_X5_demandPose rfl rfl rfl 1 hdX5_demandPose ⟨Nat.le_of_ble_eq_true rfl, Nat.le_of_ble_eq_true rfl⟩ [] rfl rfl rfl hl.1 rfl (Nat.le_of_ble_eq_true rfl) dX5_ifWorn_9 ⟨Nat.le_of_ble_eq_true rfl, Nat.le_of_ble_eq_true rfl⟩) w hA [] rfl (fun H locs w => ?_)
  refine lv_iload hx hb dX5_ifWorn_12 (lv_at hl 4 rfl) ?_
  refine lv_iconst (v := 0) hx hb dX5_ifWorn_14 (by decide) ?_
  refine lv_iconst (v := 1) hx hb dX5_ifWorn_15 (by decide) ?_
  refine k_cxR (fun _ _ _ h => h) (k_runSX X w ox hA (met_X5_demandRange_x l hst D cI cJ cO o v 0 1 hr H.size) gX5_ifWorn_X5_demandRange rfl rfl rfl 3 hdX5_demandRange ⟨Nat.le_of_ble_eq_true rfl, Nat.le_of_ble_eq_true rfl⟩ [] rfl rfl rfl hl.1 rfl (Nat.le_of_ble_eq_true rfl) dX5_ifWorn_16 ⟨Nat.le_of_ble_eq_true rfl, Nat.le_of_ble_eq_true rfl⟩) w hA [] rfl (fun H locs q9 ce w h1 h2 h3 => ?_)
  exact out _ _ _ _ _ _ _ w h1 h2 h3
set_option maxHeartbeats 4000000 in
set_option maxRecDepth 100000 in
theorem met_X5_stopsIn_p (l : Launch) (hst : l.stackTraces = false) (D : va_G) (cI cJ cO : ClassId) (o : Nat → Nat) (xx : Nat) (ak : Nat) (b : Nat) (tr : Nat) (hf : Int32) (sv : Nat) (an : Nat) (w1n : Nat) (wan : Nat) (pan : Nat) (ran : Nat) (san : Nat) (z : Nat → Int32) (twa : Nat) (zt : Nat → Int32) (x : Int32) (hp : bI (isP x) = 0) : CX l D (TY cI cJ cO) o cI yX5_stopsIn wsX5_stopsIn ({ frames := 7, cells := 1, slots := 6, locals := 110 }) [.ref xx, .int x] [oX xx an ak sv b tr hf, oS an w1n pan san z, aI cI san 4 12 z, oW w1n wan z, aI cI wan 6 19 z, oP pan ran z, aI cI ran 200 25 z, oW tr twa zt, aI cI twa 6 19 zt] [oX xx an ak sv b tr hf, oS an w1n pan san z, aI cI san 4 12 z, oW w1n wan z, aI cI wan 6 19 z, oP pan ran z, aI cI ran 200 25 z, oW tr twa zt, aI cI twa 6 19 zt] "java/lang/IndexOutOfBoundsException" := by
  refine CX.of hst (by decide) rfl rfl (Nat.le_of_ble_eq_true rfl) (fun p e s m below meth c A ls Q X hA w ox hl thr out => ?_)
  obtain ⟨hx, hb, hml, hown, hts⟩ := id X.1
  have hl : lv_has ls 2 [(0, .ref xx), (1, .int x)] := hl
  refine lv_iload_n hx hb dX5_stopsIn_0 rfl (lv_at hl 1 rfl) ?_
  refine k_cxR (fun _ _ _ h => h) (k_runSX X w ox hA (met_X5_demandPose_x l hst D cI cJ cO o x hp s.heap.size) gX5_stopsIn_X5_demandPose rfl rfl rfl 1 hdX5_demandPose ⟨Nat.le_of_ble_eq_true rfl, Nat.le_of_ble_eq_true rfl⟩ [] rfl rfl rfl hl.1 rfl (Nat.le_of_ble_eq_true rfl) dX5_stopsIn_1 ⟨Nat.le_of_ble_eq_true rfl, Nat.le_of_ble_eq_true rfl⟩) w hA [] rfl (fun H locs q9 ce w h1 h2 h3 => ?_)
  exact out _ _ _ _ _ _ _ w h1 h2 h3
theorem hdX5_set : yX5_set.cls = RX5 ∧ yX5_set.cls ≠ "java/lang/invoke/MethodHandle" ∧ yX5_set.cls ≠ "java/lang/invoke/VarHandle" ∧ (parseMethodDescriptor yX5_set.desc).map (fun d => d.parameters.length) = some 2 := ⟨rfl, by decide, by decide, by decide +kernel⟩
theorem iX5_set_X3 : ∀ w ∈ wsX30, w ∈ wsX5_set := fun _ h => List.mem_cons_of_mem _ (List.mem_append_left _ (List.mem_append_left _ (List.mem_append_left _ (List.mem_append_left _ (List.mem_append_left _ (List.mem_append_right _ h))))))
theorem iX5_set_X5 : ∀ w ∈ wsX50, w ∈ wsX5_set := fun _ h => List.mem_cons_of_mem _ (List.mem_append_left _ (List.mem_append_left _ (List.mem_append_left _ (List.mem_append_left _ (List.mem_append_left _ (List.mem_append_left _ (List.mem_append_right _ h)))))))
set_option maxHeartbeats 4000000 in
set_option maxRecDepth 100000 in
theorem met_X5_set (l : Launch) (D : va_G) (cI cJ cO : ClassId) (o : Nat → Nat) (xx : Nat) (ak : Nat) (b : Nat) (tr : Nat) (hf : Int32) (an : Nat) (w1n : Nat) (wan : Nat) (pan : Nat) (ran : Nat) (san : Nat) (z : Nat → Int32) (sv : Nat) (rr : Nat) (rg : Nat → Nat → Nat) (y : Nat → Int32) (zs : Nat → Nat → Int32) (i : Nat) (k : Nat) (v : Int32) (hy : y 0 = nI i) (hi6 : i < 6) (hk : k < 4) (hr : inR v (lsF k) (msF k)) : CIm l D (TY cI cJ cO) o cI yX5_set wsX5_set ({ frames := 4, cells := 0, slots := 0, locals := 123 }) 0 0 [.ref xx, .int (nI k), .int v] ([oX xx an ak sv b tr hf, oS an w1n pan san z, aI cI san 4 12 z, oW w1n wan z, aI cI wan 6 19 z, oP pan ran z, aI cI ran 200 25 z, oV sv rr y, aO cO rr (rgA rg)] ++ rgS cI rg zs) (z (12 + k)) ([oX xx an ak sv b tr hf, oS an w1n pan san (upd z (12 + k) v), aI cI san 4 12 (upd z (12 + k) v), oW w1n wan (upd z (12 + k) v), aI cI wan 6 19 (upd z (12 + k) v), oP pan ran (upd z (12 + k) v), aI cI ran 200 25 (upd z (12 + k) v), oV sv rr (pushY y), aO cO rr (rgA rg)] ++ rgS cI rg (va_up zs i z)) := by
  refine CIm.of (by decide) rfl (Nat.le_of_ble_eq_true rfl) (rfl) (fun p e s m below meth c A ls Q X hA w ox hl fin => ?_)
  obtain ⟨hx, hb, hml, hown, hts⟩ := id X.1
  have hl : lv_has ls 4 [(0, .ref xx), (1, .int (nI k)), (2, .int v)] := hl
  refine lv_iload_n hx hb dX5_set_0 rfl (lv_at hl 1 rfl) ?_
  refine lv_if_lt (tgt := 9) hx hb dX5_set_1 (by decide) (fun c1 => absurd c1 (show ¬ nI k < 0 from nI_nlt (a := k) (b := 0) (Nat.zero_le _) (by omega))) (fun c1 => ?_)
  refine lv_iload_n hx hb dX5_set_4 rfl (lv_at hl 1 rfl) ?_
  refine lv_iconst (v := 4) hx hb dX5_set_5 (by decide) ?_
  refine lv_icmp_lt (tgt := 19) hx hb dX5_set_6 (by decide) (fun c2 => ?_) (fun c2 => absurd (nI_lt (b := 4) hk (by decide)) c2)
  refine lv_iload_n hx hb dX5_set_19 rfl (lv_at hl 2 rfl) ?_
  refine k_gsA X ox.2.2.2.2.2.1 w (List.mem_of_getElem? (i := 3) rfl) dX5_set_20 ?_
  refine lv_iload_n hx hb dX5_set_23 rfl (lv_at hl 1 rfl) ?_
  refine k_iaS X ox.2.2.2.2.2.1 w (j := k) (by omega) (by decide) rfl (v := lsF k) rfl dX5_set_24 ?_
  refine k_gsA X ox.2.2.2.2.2.2.1 w (List.mem_of_getElem? (i := 4) rfl) dX5_set_25 ?_
  refine lv_iload_n hx hb dX5_set_28 rfl (lv_at hl 1 rfl) ?_
  refine k_iaS X ox.2.2.2.2.2.2.1 w (j := k) (by omega) (by decide) rfl (v := msF k) rfl dX5_set_29 ?_
  refine k_cvR (k_runS X w (met_X5_demandRange l D cI cJ cO v (lsF k) (msF k) hr s.heap.size) gX5_set_X5_demandRange rfl rfl rfl 3 hdX5_demandRange ⟨Nat.le_of_ble_eq_true rfl, Nat.le_of_ble_eq_true rfl⟩ [] (tl_C rfl) rfl rfl hl.1 rfl (Nat.le_of_ble_eq_true rfl) dX5_set_30 ⟨Nat.le_of_ble_eq_true rfl, Nat.le_of_ble_eq_true rfl⟩) w hA [] (tl_C rfl) (fun H locs w => ?_)
  refine lv_aload_n hx hb dX5_set_33 rfl (lv_at hl 0 rfl) ?_
  refine k_get X w 0 rfl rfl 2 (by decide) rfl iX5_set_X5 (List.mem_of_getElem? (i := 5) rfl) (v := .ref sv) rfl dX5_set_34 ?_
  refine lv_aload_n hx hb dX5_set_37 rfl (lv_at hl 0 rfl) ?_
  refine k_get X w 0 rfl rfl 0 (by decide) rfl iX5_set_X5 (List.mem_of_getElem? (i := 6) rfl) (v := .ref an) rfl dX5_set_38 ?_
  refine k_cvB (ce := [oV sv rr y, aO cO rr (rgA rg), oS an w1n pan san z, aI cI san 4 12 z, oW w1n wan z, aI cI wan 6 19 z, oP pan ran z, aI cI ran 200 25 z]) (co := [oV sv rr (pushY y), aO cO rr (rgA rg), oS an w1n pan san z, aI cI san 4 12 z, oW w1n wan z, aI cI wan 6 19 z, oP pan ran z, aI cI ran 200 25 z]) (wr := [oX xx an ak sv b tr hf]) (es2 := [oX xx an ak sv b tr hf, oS an w1n pan san z, aI cI san 4 12 z, oW w1n wan z, aI cI wan 6 19 z, oP pan ran z, aI cI ran 200 25 z, oV sv rr (pushY y), aO cO rr (rgA rg)]) (k_runV X w (met_X2_push l D cI cJ cO sv rr rg y zs an w1n wan pan ran san z i hy hi6 H.size) gX5_set_X2_push rfl rfl rfl 1 hdX2_push ⟨Nat.le_of_ble_eq_true rfl, Nat.le_of_ble_eq_true rfl⟩ _ (tl_R (es := [oX xx an ak sv b tr hf, oS an w1n pan san z, aI cI san 4 12 z, oW w1n wan z, aI cI wan 6 19 z, oP pan ran z, aI cI ran 200 25 z, oV sv rr y, aO cO rr (rgA rg)]) (wr := [oV sv rr y, aO cO rr (rgA rg), oS an w1n pan san z, aI cI san 4 12 z, oW w1n wan z, aI cI wan 6 19 z, oP pan ran z, aI cI ran 200 25 z]) (isR := [7, 8, 1, 2, 3, 4, 5, 6]) rfl) (tl_nR (es := [oX xx an ak sv b tr hf, oS an w1n pan san z, aI cI san 4 12 z, oW w1n wan z, aI cI wan 6 19 z, oP pan ran z, aI cI ran 200 25 z, oV sv rr y, aO cO rr (rgA rg)]) (ce := [oV sv rr y, aO cO rr (rgA rg), oS an w1n pan san z, aI cI san 4 12 z, oW w1n wan z, aI cI wan 6 19 z, oP pan ran z, aI cI ran 200 25 z]) rfl rfl) 7 2 rfl rfl rfl rfl hl.1 rfl (Nat.le_of_ble_eq_true rfl) dX5_set_41 ⟨Nat.le_of_ble_eq_true rfl, Nat.le_of_ble_eq_true rfl⟩) w hA [7, 8, 1, 2, 3, 4, 5, 6] [0] rfl rfl rfl (by decide) [0, 3, 4, 5, 6, 7, 8, 1, 2] rfl rfl (fun H locs w => ?_)
  refine lv_aload_n hx hb dX5_set_44 rfl (lv_at hl 0 rfl) ?_
  refine k_get X w 0 rfl rfl 0 (by decide) rfl iX5_set_X5 (List.mem_of_getElem? (i := 6) rfl) (v := .ref an) rfl dX5_set_45 ?_
  refine k_get X w 1 rfl rfl 2 (by decide) rfl iX5_set_X3 (List.mem_of_getElem? (i := 7) rfl) (v := .ref san) rfl dX5_set_48 ?_
  refine lv_iload_n hx hb dX5_set_51 rfl (lv_at hl 1 rfl) ?_
  refine k_iald X w 2 0 rfl rfl k (kj := 12 + k) rfl (by omega) (by decide) rfl (v := z (12 + k)) rfl dX5_set_52 ?_
  refine lv_istore_n (lv' := [(3, .int (z (12 + k))), (0, .ref xx), (1, .int (nI k)), (2, .int v)]) hx hb dX5_set_53 rfl hl (by decide) rfl (fun ls hl => ?_)
  refine lv_aload_n hx hb dX5_set_54 rfl (lv_at hl 1 rfl) ?_
  refine k_get X w 0 rfl rfl 0 (by decide) rfl iX5_set_X5 (List.mem_of_getElem? (i := 6) rfl) (v := .ref an) rfl dX5_set_55 ?_
  refine k_get X w 1 rfl rfl 2 (by decide) rfl iX5_set_X3 (List.mem_of_getElem? (i := 7) rfl) (v := .ref san) rfl dX5_set_58 ?_
  refine lv_iload_n hx hb dX5_set_61 rfl (lv_at hl 2 rfl) ?_
  refine lv_iload_n hx hb dX5_set_62 rfl (lv_at hl 3 rfl) ?_
  refine k_iast X w 2 0 rfl rfl k (kj := 12 + k) rfl (by omega) (by decide) rfl (ws2 := [oX xx an ak sv b tr hf, oS an w1n pan san z, aI cI san 4 12 (upd z (12 + k) v), oW w1n wan z, aI cI wan 6 19 z, oP pan ran z, aI cI ran 200 25 z, oV sv rr (pushY y), aO cO rr (rgA rg)] ++ rgS cI rg (va_up zs i z)) rfl dX5_set_63 (fun H locs w => ?_)
  refine lv_iload_n hx hb dX5_set_64 rfl (lv_at hl 0 rfl) ?_
  have w := w.to (show [oX xx an ak sv b tr hf, oS an w1n pan san z, aI cI san 4 12 (upd z (12 + k) v), oW w1n wan z, aI cI wan 6 19 z, oP pan ran z, aI cI ran 200 25 z, oV sv rr (pushY y), aO cO rr (rgA rg)] ++ rgS cI rg (va_up zs i z) = [oX xx an ak sv b tr hf, oS an w1n pan san (upd z (12 + k) v), aI cI san 4 12 (upd z (12 + k) v), oW w1n wan (upd z (12 + k) v), aI cI wan 6 19 (upd z (12 + k) v), oP pan ran (upd z (12 + k) v), aI cI ran 200 25 (upd z (12 + k) v), oV sv rr (pushY y), aO cO rr (rgA rg)] ++ rgS cI rg (va_up zs i z) by rw [show oS an w1n pan san z = oS an w1n pan san (upd z (12 + k) v) from oS_p (((upd_no (by omega)).trans rfl)).symm (((upd_no (by omega)).trans rfl)).symm (((upd_no (by omega)).trans rfl)).symm (((upd_no (by omega)).trans rfl)).symm, show oW w1n wan z = oW w1n wan (upd z (12 + k) v) from oW_c (fun k h1 h2 => (((upd_no (by omega)).trans rfl)).symm), show aI cI wan 6 19 z = aI cI wan 6 19 (upd z (12 + k) v) from aI_c (fun k h1 h2 => (((upd_no (by omega)).trans rfl)).symm), show oP pan ran z = oP pan ran (upd z (12 + k) v) from oP_c (fun k h1 h2 => (((upd_no (by omega)).trans rfl)).symm), show aI cI ran 200 25 z = aI cI ran 200 25 (upd z (12 + k) v) from aI_c (fun k h1 h2 => (((upd_no (by omega)).trans rfl)).symm)])
  exact fin _ _ _ _ _ w rfl dX5_set_65
set_option maxHeartbeats 4000000 in
set_option maxRecDepth 100000 in
theorem met_X5_set_p (l : Launch) (hst : l.stackTraces = false) (D : va_G) (cI cJ cO : ClassId) (o : Nat → Nat) (xx : Nat) (ak : Nat) (b : Nat) (tr : Nat) (hf : Int32) (an : Nat) (w1n : Nat) (wan : Nat) (pan : Nat) (ran : Nat) (san : Nat) (z : Nat → Int32) (sv : Nat) (rr : Nat) (rg : Nat → Nat → Nat) (y : Nat → Int32) (zs : Nat → Nat → Int32) (v : Int32) (x : Int32) (hv : ¬ (¬ x < 0 ∧ x < 4)) : CX l D (TY cI cJ cO) o cI yX5_set wsX5_set ({ frames := 6, cells := 1, slots := 6, locals := 90 }) [.ref xx, .int x, .int v] ([oX xx an ak sv b tr hf, oS an w1n pan san z, aI cI san 4 12 z, oW w1n wan z, aI cI wan 6 19 z, oP pan ran z, aI cI ran 200 25 z, oV sv rr y, aO cO rr (rgA rg)] ++ rgS cI rg zs) ([oX xx an ak sv b tr hf, oS an w1n pan san z, aI cI san 4 12 z, oW w1n wan z, aI cI wan 6 19 z, oP pan ran z, aI cI ran 200 25 z, oV sv rr y, aO cO rr (rgA rg)] ++ rgS cI rg zs) "java/lang/IndexOutOfBoundsException" := by
  refine CX.of hst (by decide) rfl rfl (Nat.le_of_ble_eq_true rfl) (fun p e s m below meth c A ls Q X hA w ox hl thr out => ?_)
  obtain ⟨hx, hb, hml, hown, hts⟩ := id X.1
  have hl : lv_has ls 4 [(0, .ref xx), (1, .int x), (2, .int v)] := hl
  refine lv_iload_n hx hb dX5_set_0 rfl (lv_at hl 1 rfl) ?_
  refine lv_if_lt (tgt := 9) hx hb dX5_set_1 (by decide) (fun c1 => ?_) (fun c1 => ?_)
  · exact thr _ _ _ _ _ 123 125 127 _ w thW_b (List.mem_of_getElem? (i := 1) rfl) (List.mem_of_getElem? (i := 2) rfl) (fun _ h => List.mem_cons_of_mem _ (List.mem_append_left _ (List.mem_append_right _ h))) (List.mem_of_getElem? (i := 1) rfl) hl.1 dX5_set_9 dX5_set_12 dX5_set_13 dX5_set_15 dX5_set_18 ⟨Nat.le_of_ble_eq_true rfl, Nat.le_of_ble_eq_true rfl, Nat.le_of_ble_eq_true rfl, Nat.le_of_ble_eq_true rfl⟩ (Nat.le_of_ble_eq_true rfl)
  · refine lv_iload_n hx hb dX5_set_4 rfl (lv_at hl 1 rfl) ?_
    refine lv_iconst (v := 4) hx hb dX5_set_5 (by decide) ?_
    refine lv_icmp_lt (tgt := 19) hx hb dX5_set_6 (by decide) (fun c2 => absurd (And.intro c1 c2) hv) (fun c2 => ?_)
    exact thr _ _ _ _ _ 123 125 127 _ w thW_b (List.mem_of_getElem? (i := 1) rfl) (List.mem_of_getElem? (i := 2) rfl) (fun _ h => List.mem_cons_of_mem _ (List.mem_append_left _ (List.mem_append_right _ h))) (List.mem_of_getElem? (i := 1) rfl) hl.1 dX5_set_9 dX5_set_12 dX5_set_13 dX5_set_15 dX5_set_18 ⟨Nat.le_of_ble_eq_true rfl, Nat.le_of_ble_eq_true rfl, Nat.le_of_ble_eq_true rfl, Nat.le_of_ble_eq_true rfl⟩ (Nat.le_of_ble_eq_true rfl)
set_option maxHeartbeats 4000000 in
set_option maxRecDepth 100000 in
theorem met_X5_set_x (l : Launch) (hst : l.stackTraces = false) (D : va_G) (cI cJ cO : ClassId) (o : Nat → Nat) (xx : Nat) (ak : Nat) (b : Nat) (tr : Nat) (hf : Int32) (an : Nat) (w1n : Nat) (wan : Nat) (pan : Nat) (ran : Nat) (san : Nat) (z : Nat → Int32) (sv : Nat) (rr : Nat) (rg : Nat → Nat → Nat) (y : Nat → Int32) (zs : Nat → Nat → Int32) (k : Nat) (v : Int32) (hk : k < 4) (hr : ¬ inR v (lsF k) (msF k)) : CX l D (TY cI cJ cO) o cI yX5_set wsX5_set ({ frames := 7, cells := 1, slots := 6, locals := 112 }) [.ref xx, .int (nI k), .int v] ([oX xx an ak sv b tr hf, oS an w1n pan san z, aI cI san 4 12 z, oW w1n wan z, aI cI wan 6 19 z, oP pan ran z, aI cI ran 200 25 z, oV sv rr y, aO cO rr (rgA rg)] ++ rgS cI rg zs) ([oX xx an ak sv b tr hf, oS an w1n pan san z, aI cI san 4 12 z, oW w1n wan z, aI cI wan 6 19 z, oP pan ran z, aI cI ran 200 25 z, oV sv rr y, aO cO rr (rgA rg)] ++ rgS cI rg zs) "java/lang/IllegalArgumentException" := by
  refine CX.of hst (by decide) rfl rfl (Nat.le_of_ble_eq_true rfl) (fun p e s m below meth c A ls Q X hA w ox hl thr out => ?_)
  obtain ⟨hx, hb, hml, hown, hts⟩ := id X.1
  have hl : lv_has ls 4 [(0, .ref xx), (1, .int (nI k)), (2, .int v)] := hl
  refine lv_iload_n hx hb dX5_set_0 rfl (lv_at hl 1 rfl) ?_
  refine lv_if_lt (tgt := 9) hx hb dX5_set_1 (by decide) (fun c1 => absurd c1 (show ¬ nI k < 0 from nI_nlt (a := k) (b := 0) (Nat.zero_le _) (by omega))) (fun c1 => ?_)
  refine lv_iload_n hx hb dX5_set_4 rfl (lv_at hl 1 rfl) ?_
  refine lv_iconst (v := 4) hx hb dX5_set_5 (by decide) ?_
  refine lv_icmp_lt (tgt := 19) hx hb dX5_set_6 (by decide) (fun c2 => ?_) (fun c2 => absurd (nI_lt (b := 4) hk (by decide)) c2)
  refine lv_iload_n hx hb dX5_set_19 rfl (lv_at hl 2 rfl) ?_
  refine k_gsA X ox.2.2.2.2.2.1 w (List.mem_of_getElem? (i := 3) rfl) dX5_set_20 ?_
  refine lv_iload_n hx hb dX5_set_23 rfl (lv_at hl 1 rfl) ?_
  refine k_iaS X ox.2.2.2.2.2.1 w (j := k) (by omega) (by decide) rfl (v := lsF k) rfl dX5_set_24 ?_
  refine k_gsA X ox.2.2.2.2.2.2.1 w (List.mem_of_getElem? (i := 4) rfl) dX5_set_25 ?_
  refine lv_iload_n hx hb dX5_set_28 rfl (lv_at hl 1 rfl) ?_
  refine k_iaS X ox.2.2.2.2.2.2.1 w (j := k) (by omega) (by decide) rfl (v := msF k) rfl dX5_set_29 ?_
  refine k_cxR (fun _ _ _ h => h) (k_runSX X w ox hA (met_X5_demandRange_x l hst D cI cJ cO o v (lsF k) (msF k) hr s.heap.size) gX5_set_X5_demandRange rfl rfl rfl 3 hdX5_demandRange ⟨Nat.le_of_ble_eq_true rfl, Nat.le_of_ble_eq_true rfl⟩ [] (tl_C rfl) rfl rfl hl.1 rfl (Nat.le_of_ble_eq_true rfl) dX5_set_30 ⟨Nat.le_of_ble_eq_true rfl, Nat.le_of_ble_eq_true rfl⟩) w hA [] (tl_C rfl) (fun H locs q9 ce w h1 h2 h3 => ?_)
  exact out _ _ _ _ _ _ _ w h1 h2 h3
