/-! Worlds with a tail that is looked at as a whole: es ++ B. -/
section TAIL
variable {p : Program} {l : Launch} {e : Env} {R : Room} {s : State} {m : MethodId} {args : Array Value} {below : List Frame} {meth : Method} {c : Code} {H H0 H1 : Heap} {locs : List Loc} {cells slots : Nat} {Q : State → Prop} {A : Nat → Prop} {D : va_G} {tys : List (ClassId × FieldType)} {ws ws2 cin cout wr es es2 B B2 ce co : va_W} {cc : ByteArray} {nL : Nat} {Ts : List Cond} {own : String} {pc : Nat} {ls : Array Slot} {rest st0 : List Value} {a : Nat} {cl : List vw_C}
theorem P_mem : va_P D cl ws H ↔ ∀ q ∈ ws, va_at D cl q H := by
  constructor
  · intro h q hq
    obtain ⟨k, hk⟩ := List.mem_iff_getElem?.mp hq
    exact h k q hk
  · intro h k q hk
    exact h q (List.mem_of_getElem? hk)
theorem nd_ix {α : Type} {xs : List α} : xs.Nodup ↔ ∀ (i j : Nat) (p q : α), xs[i]? = some p → xs[j]? = some q → p = q → i = j := by
  rw [List.nodup_iff_pairwise_ne, List.pairwise_iff_getElem]
  constructor
  · intro h i j p q hi hj he
    obtain ⟨hi1, hi2⟩ := List.getElem?_eq_some_iff.mp hi
    obtain ⟨hj1, hj2⟩ := List.getElem?_eq_some_iff.mp hj
    rcases Nat.lt_trichotomy i j with q1 | q1 | q1
    · exact absurd (by rw [hi2, hj2, he]) (h i j hi1 hj1 q1)
    · exact q1
    · exact absurd (by rw [hi2, hj2, he]) (h j i hj1 hi1 q1)
  · intro h i j hi hj hij he
    have := h i j _ _ (List.getElem?_eq_getElem hi) (List.getElem?_eq_getElem hj) he
    omega
theorem D_nodup : va_D A ws ↔ (ws.map Prod.fst).Nodup ∧ ∀ q ∈ ws, A q.1 := by
  constructor
  · intro h
    refine ⟨nd_ix.mpr fun i j p q hi hj he => ?_, fun q hq => ?_⟩
    · rw [List.getElem?_map, Option.map_eq_some_iff] at hi hj
      obtain ⟨x, hx1, hx2⟩ := hi
      obtain ⟨y, hy1, hy2⟩ := hj
      exact h.1 i j x y hx1 hy1 (by rw [hx2, hy2, he])
    · obtain ⟨k, hk⟩ := List.mem_iff_getElem?.mp hq
      exact h.2 k q hk
  · intro h
    refine ⟨fun i j p q hi hj he => ?_, fun k q hk => h.2 q (List.mem_of_getElem? hk)⟩
    exact nd_ix.mp h.1 i j p.1 q.1 (by rw [List.getElem?_map, hi]; rfl) (by rw [List.getElem?_map, hj]; rfl) he
theorem wd.perm (w : wd D A H0 H locs ws) (h : ws.Perm ws2) : wd D A H0 H locs ws2 := by
  refine ⟨P_mem.mpr fun q hq => P_mem.mp w.1 q (h.mem_iff.mpr hq), D_nodup.mpr ⟨?_, fun q hq => (D_nodup.mp w.2.1).2 q (h.mem_iff.mpr hq)⟩, w.2.2⟩
  exact (h.map Prod.fst).nodup_iff.mp (D_nodup.mp w.2.1).1
theorem tl_at {i : Nat} {q : Nat × va_E} (h : es[i]? = some q) : (es ++ B)[i]? = some q := by
  rw [List.getElem?_append_left (List.getElem?_eq_some_iff.mp h).1, h]
theorem map_some {is : List Nat} (h : is.map (fun i => es[i]?) = cin.map some) : ∀ i ∈ is, ∃ q, es[i]? = some q := by
  intro i hi
  have h1 : es[i]? ∈ cin.map some := by rw [← h]; exact List.mem_map_of_mem hi
  obtain ⟨q, -, hq⟩ := List.mem_map.mp h1
  exact ⟨q, hq.symm⟩
theorem tl_C {isC : List Nat} (hC : isC.map (fun i => es[i]?) = cin.map some) : isC.map (fun i => (es ++ B)[i]?) = cin.map some := by
  rw [← hC]
  refine List.map_congr_left fun i hi => ?_
  obtain ⟨q, hq⟩ := map_some hC i hi
  rw [hq, tl_at hq]
theorem tl_B : ((List.range B.length).map (fun i => es.length + i)).map (fun i => (es ++ B)[i]?) = B.map some := by
  refine List.ext_getElem? fun k => ?_
  rw [List.getElem?_map, List.getElem?_map, List.getElem?_map]
  by_cases hk : k < B.length
  · rw [List.getElem?_range hk, List.getElem?_eq_getElem hk]
    show some ((es ++ B)[es.length + k]?) = some (some B[k])
    rw [List.getElem?_append_right (Nat.le_add_right _ _), Nat.add_sub_cancel_left, List.getElem?_eq_getElem hk]
  · rw [List.getElem?_eq_none (by rw [List.length_range]; omega), List.getElem?_eq_none (by omega)]
    rfl
theorem tl_R {isR : List Nat} (hR : isR.map (fun i => es[i]?) = wr.map some) : (isR ++ (List.range B.length).map (fun i => es.length + i)).map (fun i => (es ++ B)[i]?) = (wr ++ B).map some := by
  rw [List.map_append, List.map_append, tl_C hR, tl_B]
theorem nd_iff : ∀ {is : List Nat}, va_nd is = true ↔ is.Nodup
  | [] => by simp [va_nd]
  | a :: is => by simp [va_nd, nd_iff (is := is)]
theorem tl_lt {isR : List Nat} (hR : isR.map (fun i => es[i]?) = wr.map some) : ∀ i ∈ isR, i < es.length := fun i hi => by
  obtain ⟨q, hq⟩ := map_some hR i hi
  exact (List.getElem?_eq_some_iff.mp hq).1
theorem tl_n {isR : List Nat} (hn : va_nd isR = true) (hR : isR.map (fun i => es[i]?) = wr.map some) : va_nd (isR ++ (List.range B.length).map (fun i => es.length + i)) = true := by
  rw [nd_iff, List.nodup_append]
  refine ⟨nd_iff.mp hn, ?_, ?_⟩
  · rw [List.nodup_iff_pairwise_ne, List.pairwise_map]
    exact (List.nodup_iff_pairwise_ne.mp List.nodup_range).imp fun h => by omega
  · intro i hi j hj
    obtain ⟨k, -, rfl⟩ := List.mem_map.mp hj
    have := tl_lt hR i hi
    omega
theorem tl_d {isC isR : List Nat} (hdis : ∀ i ∈ isR, i ∉ isC) (hC : isC.map (fun i => es[i]?) = cin.map some) : ∀ i ∈ isR ++ (List.range B.length).map (fun i => es.length + i), i ∉ isC := by
  intro i hi
  rcases List.mem_append.mp hi with h | h
  · exact hdis i h
  · obtain ⟨k, -, rfl⟩ := List.mem_map.mp h
    intro h2
    have := tl_lt hC _ h2
    omega
theorem tl_d2 {isC isR : List Nat} (hdis : ∀ i ∈ isR, i ∉ isC) (hR : isR.map (fun i => es[i]?) = wr.map some) : ∀ i ∈ isR, i ∉ isC ++ (List.range B.length).map (fun i => es.length + i) := by
  intro i hi h
  rcases List.mem_append.mp h with h | h
  · exact hdis i hi h
  · obtain ⟨k, -, rfl⟩ := List.mem_map.mp h
    have := tl_lt hR _ hi
    omega
/-- the cells of a part, in another order, before the same rest -/
theorem reorder {xs ys B : va_W} {pm : List Nat} (hp1 : va_nd pm = true) (hp2 : pm.map (fun i => xs[i]?) = ys.map some) (hP : va_P D cl (xs ++ B) H) (hD : va_D A (xs ++ B)) : va_P D cl (ys ++ B) H ∧ va_D A (ys ++ B) := by
  have hsub : ∀ q ∈ ys, q ∈ xs := fun q hq => by
    have h1 : some q ∈ ys.map some := List.mem_map_of_mem hq
    rw [← hp2] at h1
    obtain ⟨i, -, hi⟩ := List.mem_map.mp h1
    exact List.mem_of_getElem? hi
  have hD' := D_nodup.mp hD
  have hx : va_D A xs := by
    have h2 := hD'.1
    rw [List.map_append, List.nodup_append] at h2
    exact D_nodup.mpr ⟨h2.1, fun q hq => hD'.2 q (List.mem_append_left _ hq)⟩
  have hy := D_nodup.mp (hx.sub pm hp1 hp2)
  refine ⟨P_mem.mpr fun q hq => ?_, D_nodup.mpr ⟨?_, fun q hq => ?_⟩⟩
  · rcases List.mem_append.mp hq with h | h
    · exact P_mem.mp hP q (List.mem_append_left _ (hsub q h))
    · exact P_mem.mp hP q (List.mem_append_right _ h)
  · have h2 := hD'.1
    rw [List.map_append, List.nodup_append] at h2 ⊢
    refine ⟨hy.1, h2.2.1, fun x hx1 y hy1 => ?_⟩
    obtain ⟨q, hq, rfl⟩ := List.mem_map.mp hx1
    exact h2.2.2 _ (List.mem_map_of_mem (hsub q hq)) y hy1
  · rcases List.mem_append.mp hq with h | h
    · exact hD'.2 q (List.mem_append_left _ (hsub q h))
    · exact hD'.2 q (List.mem_append_right _ h)
theorem swap_mid {x y z : va_W} (hP : va_P D cl ((x ++ y) ++ z) H) (hD : va_D A ((x ++ y) ++ z)) : va_P D cl ((x ++ z) ++ y) H ∧ va_D A ((x ++ z) ++ y) := by
  have h : ((x ++ y) ++ z).Perm ((x ++ z) ++ y) := by
    rw [List.append_assoc, List.append_assoc]
    exact List.Perm.append_left x List.perm_append_comm
  refine ⟨P_mem.mpr fun q hq => P_mem.mp hP q (h.mem_iff.mpr hq), D_nodup.mpr ⟨?_, fun q hq => (D_nodup.mp hD).2 q (h.mem_iff.mpr hq)⟩⟩
  exact (h.map Prod.fst).nodup_iff.mp (D_nodup.mp hD).1
/-- behind a call that leaves the tail alone -/
theorem tl_join (w : wd D A H0 H locs (es ++ B)) (hA : ∀ q : Nat, H0.size ≤ q → A q) {isC isR : List Nat} (hC : isC.map (fun i => es[i]?) = cin.map some) (hR : isR.map (fun i => es[i]?) = wr.map some) (hn : va_nd isR = true) (hdis : ∀ i ∈ isR, i ∉ isC) {pm : List Nat} (hp1 : va_nd pm = true) (hp2 : pm.map (fun i => (wr ++ cout)[i]?) = es2.map some)
    (hk : ∀ q : Nat, q < H.size → ¬ va_A cin H.size q → H1[q]? = H[q]?) (hP1 : va_P D vwCl cout H1) (hD1 : va_D (va_A cin H.size) cout) : va_P D vwCl (es2 ++ B) H1 ∧ va_D A (es2 ++ B) := by
  have hF := va_free w.2.1 w.2.2 hA isC (tl_C hC)
  obtain ⟨hP, hD⟩ := va_join w.1 w.2.1 isC _ (tl_C hC) (tl_R hR) (tl_n hn hR) (tl_d hdis hC) hk hF hP1 hD1
  obtain ⟨hP, hD⟩ := swap_mid hP hD
  exact reorder hp1 hp2 hP hD
/-- behind a call that takes the tail along -/
theorem tl_joinB (w : wd D A H0 H locs (es ++ B)) (hA : ∀ q : Nat, H0.size ≤ q → A q) {isC isR : List Nat} (hC : isC.map (fun i => es[i]?) = ce.map some) (hR : isR.map (fun i => es[i]?) = wr.map some) (hn : va_nd isR = true) (hdis : ∀ i ∈ isR, i ∉ isC) {pm : List Nat} (hp1 : va_nd pm = true) (hp2 : pm.map (fun i => (wr ++ co)[i]?) = es2.map some)
    (hk : ∀ q : Nat, q < H.size → ¬ va_A (ce ++ B) H.size q → H1[q]? = H[q]?) (hP1 : va_P D vwCl (co ++ B2) H1) (hD1 : va_D (va_A (ce ++ B) H.size) (co ++ B2)) : va_P D vwCl (es2 ++ B2) H1 ∧ va_D A (es2 ++ B2) := by
  have hF := va_free w.2.1 w.2.2 hA _ (tl_R hC)
  obtain ⟨hP, hD⟩ := va_join w.1 w.2.1 _ isR (tl_R hC) (tl_C hR) hn (tl_d2 hdis hR) hk hF hP1 hD1
  rw [← List.append_assoc] at hP hD
  exact reorder hp1 hp2 hP hD
theorem k_ciT {av : Array Value} {r : Int32} (hr : va_Run p l e R s m args below meth c H locs cells slots 0 0 (F0 m pc ls st0) rest (va_Qi (fun (r2 : Int32) (_ : Unit) => r2 = r) (cpost D tys cin H.size cout) (va_A cin H.size) av) (va_A cin H.size)) (w : wd D A H0 H locs (es ++ B)) (hA : ∀ q : Nat, H0.size ≤ q → A q) (isC isR : List Nat) (hC : isC.map (fun i => es[i]?) = cin.map some) (hR : isR.map (fun i => es[i]?) = wr.map some) (hn : va_nd isR = true) (hdis : ∀ i ∈ isR, i ∉ isC) (pm : List Nat) (hp1 : va_nd pm = true) (hp2 : pm.map (fun i => (wr ++ cout)[i]?) = es2.map some)
    (kk : ∀ (H1 : Heap) (locs1 : List Loc), wd D A H0 H1 locs1 (es2 ++ B) → W p l e R s m args below meth c H1 locs1 cells slots Q (F0 m (pc + 3) ls (.int r :: rest))) : W p l e R s m args below meth c H locs cells slots Q (F0 m pc ls st0) := by
  have hF := va_free w.2.1 w.2.2 hA isC (tl_C hC)
  refine va_calli hr w.2.2 (fun q _ h => hF q h) hF (fun r2 u t H1 locs1 ht hvm hw hB hz1 hk1 hS => ?_)
  obtain ⟨hP1, hK1, hD1⟩ := hB
  rw [ht] at hP1
  rw [hw]
  obtain ⟨hP, hD⟩ := tl_join w hA hC hR hn hdis hp1 hp2 hk1 hP1 hD1
  exact kk H1 locs1 ⟨hP, hD, hS⟩
theorem k_cvT {av : Array Value} (hr : va_Run p l e R s m args below meth c H locs cells slots 0 0 (F0 m pc ls st0) rest (va_Qv (fun (_ : Unit) => True) (cpost D tys cin H.size cout) (va_A cin H.size) av) (va_A cin H.size)) (w : wd D A H0 H locs (es ++ B)) (hA : ∀ q : Nat, H0.size ≤ q → A q) (isC isR : List Nat) (hC : isC.map (fun i => es[i]?) = cin.map some) (hR : isR.map (fun i => es[i]?) = wr.map some) (hn : va_nd isR = true) (hdis : ∀ i ∈ isR, i ∉ isC) (pm : List Nat) (hp1 : va_nd pm = true) (hp2 : pm.map (fun i => (wr ++ cout)[i]?) = es2.map some)
    (kk : ∀ (H1 : Heap) (locs1 : List Loc), wd D A H0 H1 locs1 (es2 ++ B) → W p l e R s m args below meth c H1 locs1 cells slots Q (F0 m (pc + 3) ls rest)) : W p l e R s m args below meth c H locs cells slots Q (F0 m pc ls st0) := by
  have hF := va_free w.2.1 w.2.2 hA isC (tl_C hC)
  refine va_callv hr w.2.2 (fun q _ h => hF q h) hF (fun u t H1 locs1 ht hvm hw hB hz1 hk1 hS => ?_)
  obtain ⟨hP1, hK1, hD1⟩ := hB
  rw [ht] at hP1
  obtain ⟨hP, hD⟩ := tl_join w hA hC hR hn hdis hp1 hp2 hk1 hP1 hD1
  exact kk H1 locs1 ⟨hP, hD, hS⟩
theorem k_ciB {av : Array Value} {r : Int32} (hr : va_Run p l e R s m args below meth c H locs cells slots 0 0 (F0 m pc ls st0) rest (va_Qi (fun (r2 : Int32) (_ : Unit) => r2 = r) (cpost D tys (ce ++ B) H.size (co ++ B2)) (va_A (ce ++ B) H.size) av) (va_A (ce ++ B) H.size)) (w : wd D A H0 H locs (es ++ B)) (hA : ∀ q : Nat, H0.size ≤ q → A q) (isC isR : List Nat) (hC : isC.map (fun i => es[i]?) = ce.map some) (hR : isR.map (fun i => es[i]?) = wr.map some) (hn : va_nd isR = true) (hdis : ∀ i ∈ isR, i ∉ isC) (pm : List Nat) (hp1 : va_nd pm = true) (hp2 : pm.map (fun i => (wr ++ co)[i]?) = es2.map some)
    (kk : ∀ (H1 : Heap) (locs1 : List Loc), wd D A H0 H1 locs1 (es2 ++ B2) → W p l e R s m args below meth c H1 locs1 cells slots Q (F0 m (pc + 3) ls (.int r :: rest))) : W p l e R s m args below meth c H locs cells slots Q (F0 m pc ls st0) := by
  have hF := va_free w.2.1 w.2.2 hA _ (tl_R hC)
  refine va_calli hr w.2.2 (fun q _ h => hF q h) hF (fun r2 u t H1 locs1 ht hvm hw hB hz1 hk1 hS => ?_)
  obtain ⟨hP1, hK1, hD1⟩ := hB
  rw [ht] at hP1
  rw [hw]
  obtain ⟨hP, hD⟩ := tl_joinB w hA hC hR hn hdis hp1 hp2 hk1 hP1 hD1
  exact kk H1 locs1 ⟨hP, hD, hS⟩
theorem k_cvB {av : Array Value} (hr : va_Run p l e R s m args below meth c H locs cells slots 0 0 (F0 m pc ls st0) rest (va_Qv (fun (_ : Unit) => True) (cpost D tys (ce ++ B) H.size (co ++ B2)) (va_A (ce ++ B) H.size) av) (va_A (ce ++ B) H.size)) (w : wd D A H0 H locs (es ++ B)) (hA : ∀ q : Nat, H0.size ≤ q → A q) (isC isR : List Nat) (hC : isC.map (fun i => es[i]?) = ce.map some) (hR : isR.map (fun i => es[i]?) = wr.map some) (hn : va_nd isR = true) (hdis : ∀ i ∈ isR, i ∉ isC) (pm : List Nat) (hp1 : va_nd pm = true) (hp2 : pm.map (fun i => (wr ++ co)[i]?) = es2.map some)
    (kk : ∀ (H1 : Heap) (locs1 : List Loc), wd D A H0 H1 locs1 (es2 ++ B2) → W p l e R s m args below meth c H1 locs1 cells slots Q (F0 m (pc + 3) ls rest)) : W p l e R s m args below meth c H locs cells slots Q (F0 m pc ls st0) := by
  have hF := va_free w.2.1 w.2.2 hA _ (tl_R hC)
  refine va_callv hr w.2.2 (fun q _ h => hF q h) hF (fun u t H1 locs1 ht hvm hw hB hz1 hk1 hS => ?_)
  obtain ⟨hP1, hK1, hD1⟩ := hB
  rw [ht] at hP1
  obtain ⟨hP, hD⟩ := tl_joinB w hA hC hR hn hdis hp1 hp2 hk1 hP1 hD1
  exact kk H1 locs1 ⟨hP, hD, hS⟩
theorem tl_nR {isC : List Nat} (hn : va_nd isC = true) (hC : isC.map (fun i => es[i]?) = ce.map some) : va_nd (isC ++ (List.range B.length).map (fun i => es.length + i)) = true := tl_n hn hC
end TAIL
-- the ring, one of its states in front
def rgO (cI : ClassId) (rg : Nat → Nat → Nat) (zs : Nat → Nat → Int32) : Nat → va_W
  | 0 => S6 cI (rg 1) (zs 1) ++ (S6 cI (rg 2) (zs 2) ++ (S6 cI (rg 3) (zs 3) ++ (S6 cI (rg 4) (zs 4) ++ S6 cI (rg 5) (zs 5))))
  | 1 => S6 cI (rg 0) (zs 0) ++ (S6 cI (rg 2) (zs 2) ++ (S6 cI (rg 3) (zs 3) ++ (S6 cI (rg 4) (zs 4) ++ S6 cI (rg 5) (zs 5))))
  | 2 => S6 cI (rg 0) (zs 0) ++ (S6 cI (rg 1) (zs 1) ++ (S6 cI (rg 3) (zs 3) ++ (S6 cI (rg 4) (zs 4) ++ S6 cI (rg 5) (zs 5))))
  | 3 => S6 cI (rg 0) (zs 0) ++ (S6 cI (rg 1) (zs 1) ++ (S6 cI (rg 2) (zs 2) ++ (S6 cI (rg 4) (zs 4) ++ S6 cI (rg 5) (zs 5))))
  | 4 => S6 cI (rg 0) (zs 0) ++ (S6 cI (rg 1) (zs 1) ++ (S6 cI (rg 2) (zs 2) ++ (S6 cI (rg 3) (zs 3) ++ S6 cI (rg 5) (zs 5))))
  | _ => S6 cI (rg 0) (zs 0) ++ (S6 cI (rg 1) (zs 1) ++ (S6 cI (rg 2) (zs 2) ++ (S6 cI (rg 3) (zs 3) ++ S6 cI (rg 4) (zs 4))))
theorem pf_1 {x y t : va_W} : (x ++ (y ++ t)).Perm (y ++ (x ++ t)) := List.perm_append_comm_assoc _ _ _
theorem pf_2 {x0 x1 y t : va_W} : (x0 ++ (x1 ++ (y ++ t))).Perm (y ++ (x0 ++ (x1 ++ t))) := (List.Perm.append_left x0 pf_1).trans pf_1
theorem pf_3 {x0 x1 x2 y t : va_W} : (x0 ++ (x1 ++ (x2 ++ (y ++ t)))).Perm (y ++ (x0 ++ (x1 ++ (x2 ++ t)))) := (List.Perm.append_left x0 pf_2).trans pf_1
theorem pf_4 {x0 x1 x2 x3 y t : va_W} : (x0 ++ (x1 ++ (x2 ++ (x3 ++ (y ++ t))))).Perm (y ++ (x0 ++ (x1 ++ (x2 ++ (x3 ++ t))))) := (List.Perm.append_left x0 pf_3).trans pf_1
theorem pf_5 {x0 x1 x2 x3 x4 y : va_W} : (x0 ++ (x1 ++ (x2 ++ (x3 ++ (x4 ++ y))))).Perm (y ++ (x0 ++ (x1 ++ (x2 ++ (x3 ++ x4))))) := by
  have h := pf_4 (x0 := x0) (x1 := x1) (x2 := x2) (x3 := x3) (y := y) (t := x4)
  exact (List.Perm.append_left x0 (List.Perm.append_left x1 (List.Perm.append_left x2 (List.Perm.append_left x3 List.perm_append_comm)))).trans h
theorem ring_out {cI : ClassId} {rg : Nat → Nat → Nat} {zs : Nat → Nat → Int32} {i : Nat} (hi : i < 6) : (rgS cI rg zs).Perm (S6 cI (rg i) (zs i) ++ rgO cI rg zs i) := by
  rcases (show i = 0 ∨ i = 1 ∨ i = 2 ∨ i = 3 ∨ i = 4 ∨ i = 5 by omega) with rfl | rfl | rfl | rfl | rfl | rfl
  · exact List.Perm.refl _
  · exact pf_1
  · exact pf_2
  · exact pf_3
  · exact pf_4
  · exact pf_5
theorem rgO_up {cI : ClassId} {rg : Nat → Nat → Nat} {zs : Nat → Nat → Int32} {z : Nat → Int32} {i : Nat} (hi : i < 6) : rgO cI rg (va_up zs i z) i = rgO cI rg zs i := by
  rcases (show i = 0 ∨ i = 1 ∨ i = 2 ∨ i = 3 ∨ i = 4 ∨ i = 5 by omega) with rfl | rfl | rfl | rfl | rfl | rfl <;> rfl
theorem ring_in {cI : ClassId} {rg : Nat → Nat → Nat} {zs : Nat → Nat → Int32} {z : Nat → Int32} {i : Nat} (hi : i < 6) : (S6 cI (rg i) z ++ rgO cI rg zs i).Perm (rgS cI rg (va_up zs i z)) := by
  have h := (ring_out (cI := cI) (rg := rg) (zs := va_up zs i z) hi).symm
  rw [rgO_up hi, show va_up zs i z i = z from if_pos rfl] at h
  exact h
theorem ring_same {cI : ClassId} {rg : Nat → Nat → Nat} {zs : Nat → Nat → Int32} {i : Nat} (hi : i < 6) : (S6 cI (rg i) (zs i) ++ rgO cI rg zs i).Perm (rgS cI rg zs) := (ring_out hi).symm
theorem rgA_at {rg : Nat → Nat → Nat} {i : Nat} (h : i < 6) : rgA rg i = some (rg i 0) := if_pos h
theorem pop_j {i : Nat} (h : i < 6) : nI i + 6 - 1 - (nI i + 6 - 1) / 6 * 6 = nI ((i + 5) % 6) := by
  rcases (show i = 0 ∨ i = 1 ∨ i = 2 ∨ i = 3 ∨ i = 4 ∨ i = 5 by omega) with rfl | rfl | rfl | rfl | rfl | rfl <;> decide
theorem push_j {i : Nat} (h : i < 6) : nI i + 1 - (nI i + 1) / 6 * 6 = nI ((i + 1) % 6) := by
  rcases (show i = 0 ∨ i = 1 ∨ i = 2 ∨ i = 3 ∨ i = 4 ∨ i = 5 by omega) with rfl | rfl | rfl | rfl | rfl | rfl <;> decide
