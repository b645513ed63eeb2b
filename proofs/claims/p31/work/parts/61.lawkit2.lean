/-! Contracts of the law's methods: cells that they make, calls of them; the script's own cell. -/
section LAWM
variable {l : Launch} {D : va_G} {tys : List (ClassId × FieldType)} {y : MethodName} {ws ws9 : List Cond} {rm : Room} {av : List Value} {cin cout : va_W} {cc : ByteArray} {maxL : Nat} {o : Nat → Nat} {cI : ClassId}
/-- a method that makes cells and answers an int -/
theorem CIm.ofM {mc ms : Nat} {ty : FieldType} {r : Int32} (hy : plainName y.cls = true) (hw : ws = Cond.code y cc maxL (some ty) :: ws9) (hlen : (lg_sl av).length ≤ maxL) (hn : narrow ty (.int r) = .int r)
    (body : ∀ (p : Program) (e : Env) (s : State) (m : MethodId) (below : List Frame) (meth : Method) (c : Code) (A : Nat → Prop) (ls : Array Slot) (Q : State → Prop), cx p m c cc maxL s av.toArray ws y.cls D tys → (∀ q : Nat, s.heap.size ≤ q → A q) → wd D A s.heap s.heap [] cin → OX o cI A s s.heap → lv_has ls maxL (lv_args 0 av) →
      (∀ (H : Heap) (locs : List Loc) (cells slots pc : Nat) (ls : Array Slot) (v : Int32), wd D A s.heap H locs cout → v = r → decode cc pc = .ok (.ireturn, 1) → cells ≤ mc → slots ≤ ms → W p l e rm s m av.toArray below meth c H locs cells slots Q (F0 m pc ls [.int v])) →
      W p l e rm s m av.toArray below meth c s.heap [] 0 0 Q (F0 m 0 ls [])) : CIm l D tys o cI y ws rm mc ms av cin r cout := by
  intro sz
  refine Met.ofW (cc := cc) (maxL := maxL) (ret := some ty) hy hw ?_
  intro p e s m args below meth c s1 B hml hv
  obtain ⟨hv0, hv1, ox⟩ := hv
  obtain ⟨rfl, rfl, X, w⟩ := k_begin B hml ⟨hv0, hv1⟩
  rw [lg_entry_eq]
  refine body p e s m below meth c (va_A cin s.heap.size) _ _ X (fun q h => Or.inr h) w ox (lv_entry av hlen) ?_
  intro H locs cells slots pc ls v w1 hv1 hdg hc hs
  subst hv1
  have hlocks := B.notSynchronized
  refine W.wide hc hs ?_
  exact W.zret (ty := ty) X.1.1 X.1.2.1 B.returns hn (fun t ht hW => ⟨⟨v, (), rfl, rfl, by rw [ht]; exact w1.1, va_K.moved hW.alike X.2.1, w1.2.1⟩, w1.2.2.F ht⟩) w1.2.2.2.2 hdg
end LAWM
section LAWN
variable {p : Program} {l : Launch} {e : Env} {R : Room} {s : State} {m : MethodId} {args : Array Value} {below : List Frame} {meth : Method} {c : Code} {H H0 : Heap} {locs : List Loc} {cells slots : Nat} {Q : State → Prop} {A : Nat → Prop} {D : va_G} {tys : List (ClassId × FieldType)} {ws ws2 cin cout wr : va_W} {cc : ByteArray} {nL : Nat} {Ts : List Cond} {own : String} {pc : Nat} {ls : Array Slot} {rest st0 : List Value} {o : Nat → Nat} {cI : ClassId} {mc ms : Nat}
/-- a call of a law's method that wants what lies outside -/
theorem k_runSM (X : cx p m c cc nL s args Ts own D tys) (w : wd D A s.heap H locs ws) (ox : OX o cI A s s.heap) (hA : ∀ q : Nat, s.heap.size ≤ q → A q) {y : MethodName} {wsy ws9 : List Cond} {rm : Room} {As : List Value} {Qc : Array Value → State → Outcome → State → Prop} {free : Addr → Prop} (hM : Met l y wsy rm (va_Pc As (cpreO D tys cin H.size o cI)) Qc mc ms free) {index : Nat} {bytes : ByteArray} {maxL : Nat} {ret : Option FieldType} (hG : GoodIn Ts (va_wsS own index y wsy)) (hw : wsy = Cond.code y bytes maxL ret :: ws9) (hrc : rm.cells = mc) (hrs : rm.slots = ms) (n : Nat) {C : String} (hd : y.cls = C ∧ y.cls ≠ "java/lang/invoke/MethodHandle" ∧ y.cls ≠ "java/lang/invoke/VarHandle" ∧ (parseMethodDescriptor y.desc).map (fun d => d.parameters.length) = some n) (hR : rm.frames + 1 ≤ R.frames ∧ 8 + (maxL + 11) + rm.locals ≤ R.locals)
    (isC : List Nat) (hC : isC.map (fun i => ws[i]?) = cin.map some) (hnd : va_nd isC = true) (hn : As.length = n) (hls : ls.size = nL) (hstack : st0 = As.reverse ++ rest) (hst : (rest.map fun v => v.category).sum ≤ 8) (hdg : decode cc pc = .ok (.invokestatic index, 3)) (hf : cells + mc ≤ R.cells ∧ slots + ms ≤ R.slots) :
    va_Run p l e R s m args below meth c H locs cells slots mc ms (F0 m pc ls st0) rest (Qc As.toArray) free :=
  va_runS X.1 hM (va_cwS n X.1.2.2.2.2 hG hw hrc hrs hd.2 hR) (kO_pre X w ox hA hC hnd) rfl hn hls hstack (lv_room hst) hdg hf
theorem k_cim {av : Array Value} {r : Int32} (hr : va_Run p l e R s m args below meth c H locs cells slots mc ms (F0 m pc ls st0) rest (va_Qi (fun (r2 : Int32) (_ : Unit) => r2 = r) (cpost D tys cin H.size cout) (va_A cin H.size) av) (va_A cin H.size)) (w : wd D A H0 H locs ws) (hA : ∀ q : Nat, H0.size ≤ q → A q) (isC isR : List Nat) (hC : isC.map (fun i => ws[i]?) = cin.map some) (hR : isR.map (fun i => ws[i]?) = wr.map some) (hn : va_nd isR = true) (hdis : ∀ i ∈ isR, i ∉ isC) (pm : List Nat) (hp1 : va_nd pm = true) (hp2 : pm.map (fun i => (wr ++ cout)[i]?) = ws2.map some)
    (kk : ∀ (H1 : Heap) (locs1 : List Loc), wd D A H0 H1 locs1 ws2 → W p l e R s m args below meth c H1 locs1 (cells + mc) (slots + ms) Q (F0 m (pc + 3) ls (.int r :: rest))) : W p l e R s m args below meth c H locs cells slots Q (F0 m pc ls st0) := by
  have hF := va_free w.2.1 w.2.2 hA isC hC
  refine va_calli hr w.2.2 (fun q _ h => hF q h) hF (fun r2 u t H1 locs1 ht hvm hw hB hz1 hk1 hS => ?_)
  obtain ⟨hP1, hK1, hD1⟩ := hB
  rw [ht] at hP1
  rw [hw]
  obtain ⟨hP, hD⟩ := va_join w.1 w.2.1 isC isR hC hR hn hdis hk1 hF hP1 hD1
  exact kk H1 locs1 ⟨sub_P hP hp2, hD.sub pm hp1 hp2, hS⟩
theorem k_ciTm {es es2 B : va_W} {av : Array Value} {r : Int32} (hr : va_Run p l e R s m args below meth c H locs cells slots mc ms (F0 m pc ls st0) rest (va_Qi (fun (r2 : Int32) (_ : Unit) => r2 = r) (cpost D tys cin H.size cout) (va_A cin H.size) av) (va_A cin H.size)) (w : wd D A H0 H locs (es ++ B)) (hA : ∀ q : Nat, H0.size ≤ q → A q) (isC isR : List Nat) (hC : isC.map (fun i => es[i]?) = cin.map some) (hR : isR.map (fun i => es[i]?) = wr.map some) (hn : va_nd isR = true) (hdis : ∀ i ∈ isR, i ∉ isC) (pm : List Nat) (hp1 : va_nd pm = true) (hp2 : pm.map (fun i => (wr ++ cout)[i]?) = es2.map some)
    (kk : ∀ (H1 : Heap) (locs1 : List Loc), wd D A H0 H1 locs1 (es2 ++ B) → W p l e R s m args below meth c H1 locs1 (cells + mc) (slots + ms) Q (F0 m (pc + 3) ls (.int r :: rest))) : W p l e R s m args below meth c H locs cells slots Q (F0 m pc ls st0) := by
  have hF := va_free w.2.1 w.2.2 hA isC (tl_C hC)
  refine va_calli hr w.2.2 (fun q _ h => hF q h) hF (fun r2 u t H1 locs1 ht hvm hw hB hz1 hk1 hS => ?_)
  obtain ⟨hP1, hK1, hD1⟩ := hB
  rw [ht] at hP1
  rw [hw]
  obtain ⟨hP, hD⟩ := tl_join w hA hC hR hn hdis hp1 hp2 hk1 hP1 hD1
  exact kk H1 locs1 ⟨hP, hD, hS⟩
/-- the script's own cell, looked at: some int -/
def cpreS (D : va_G) (tys : List (ClassId × FieldType)) (b L : Nat) (xs : Nat → Int32) (sz : Nat) : State → Prop := fun U => cpre D tys [] sz U ∧ va_X b L xs U U.heap ∧ b < sz
theorem cpreS_blind {b L : Nat} {xs : Nat → Int32} {sz : Nat} {av : List Value} : FrameBlind (va_Pc av (cpreS D tys b L xs sz)) := fun a U g mk q => by
  obtain ⟨q0, q1, q2, q3⟩ := q
  exact ⟨q0, (cpre_blind (av := av) a U g mk ⟨q0, q1⟩).2, va_X.moved (u := U) (U := U.calling g mk a) (Vm.Alike.refl U.vm) q2, q3⟩
theorem k_preS {b L : Nat} {xs : Nat → Int32} (X : cx p m c cc nL s args Ts own D tys) (w : wd D A s.heap H locs ws) (hX : va_X b L xs s s.heap) (hbl : b < s.heap.size) (hbA : ¬ A b) {av : List Value} : PreS s H (va_Pc av (cpreS D tys b L xs H.size)) av :=
  ⟨cpreS_blind, fun U hU hW => ⟨rfl, ((k_pre (cin := []) X w (isC := []) rfl rfl (av := av)).2 U hU hW).2, by
    rw [hU]
    exact (hX.kept (w.2.2.2.1 b hbl hbA)).moved hW.alike, Nat.lt_of_lt_of_le hbl w.2.2.1⟩⟩
theorem k_runSC {b L : Nat} {xs : Nat → Int32} (X : cx p m c cc nL s args Ts own D tys) (w : wd D A s.heap H locs ws) (hX : va_X b L xs s s.heap) (hbl : b < s.heap.size) (hbA : ¬ A b) {y : MethodName} {wsy ws9 : List Cond} {rm : Room} {As : List Value} {Qc : Array Value → State → Outcome → State → Prop} {free : Addr → Prop} (hM : Met l y wsy rm (va_Pc As (cpreS D tys b L xs H.size)) Qc 0 0 free) {index : Nat} {bytes : ByteArray} {maxL : Nat} {ret : Option FieldType} (hG : GoodIn Ts (va_wsS own index y wsy)) (hw : wsy = Cond.code y bytes maxL ret :: ws9) (hrc : rm.cells = 0) (hrs : rm.slots = 0) (n : Nat) {C : String} (hd : y.cls = C ∧ y.cls ≠ "java/lang/invoke/MethodHandle" ∧ y.cls ≠ "java/lang/invoke/VarHandle" ∧ (parseMethodDescriptor y.desc).map (fun d => d.parameters.length) = some n) (hR : rm.frames + 1 ≤ R.frames ∧ 8 + (maxL + 11) + rm.locals ≤ R.locals)
    (hn : As.length = n) (hls : ls.size = nL) (hstack : st0 = As.reverse ++ rest) (hst : (rest.map fun v => v.category).sum ≤ 8) (hdg : decode cc pc = .ok (.invokestatic index, 3)) (hf : cells + 0 ≤ R.cells ∧ slots + 0 ≤ R.slots) :
    va_Run p l e R s m args below meth c H locs cells slots 0 0 (F0 m pc ls st0) rest (Qc As.toArray) free :=
  va_runS X.1 hM (va_cwS n X.1.2.2.2.2 hG hw hrc hrs hd.2 hR) (k_preS X w hX hbl hbA) rfl hn hls hstack (lv_room hst) hdg hf
theorem k_cis {av : Array Value} (hr : va_Run p l e R s m args below meth c H locs cells slots 0 0 (F0 m pc ls st0) rest (va_Qi (fun (_ : Int32) (_ : Unit) => True) (cpost D tys [] H.size []) (va_A [] H.size) av) (va_A [] H.size)) (w : wd D A H0 H locs ws) (hA : ∀ q : Nat, H0.size ≤ q → A q)
    (kk : ∀ (r : Int32) (H1 : Heap) (locs1 : List Loc), wd D A H0 H1 locs1 ws → W p l e R s m args below meth c H1 locs1 cells slots Q (F0 m (pc + 3) ls (.int r :: rest))) : W p l e R s m args below meth c H locs cells slots Q (F0 m pc ls st0) := by
  have hC : ([] : List Nat).map (fun i => ws[i]?) = ([] : va_W).map some := rfl
  have hF := va_free w.2.1 w.2.2 hA [] hC
  refine va_calli hr w.2.2 (fun q _ h => hF q h) hF (fun r2 u t H1 locs1 ht hvm hw hB hz1 hk1 hS => ?_)
  exact kk r2 H1 locs1 ⟨same_P w.1 w.2.1 hC hk1 (fun k q h => by simp at h), w.2.1, hS⟩
end LAWN
theorem hdL_cell : yL_cell.cls = RL ∧ yL_cell.cls ≠ "java/lang/invoke/MethodHandle" ∧ yL_cell.cls ≠ "java/lang/invoke/VarHandle" ∧ (parseMethodDescriptor yL_cell.desc).map (fun d => d.parameters.length) = some 2 := ⟨rfl, by decide, by decide, by decide +kernel⟩
set_option maxHeartbeats 4000000 in
set_option maxRecDepth 100000 in
theorem met_L_cell (l : Launch) (D : va_G) (cI cJ cO : ClassId) (b L : Nat) (xs : Nat → Int32) (k : Nat) (hk : k < 2 ^ 31) (hL : L < 2 ^ 31) (sz : Nat) : Met l yL_cell wsL_cell ({ frames := 0, cells := 0, slots := 0, locals := 0 }) (va_Pc [.ref b, .int (nI k)] (cpreS D (TY cI cJ cO) b L xs sz)) (va_Qi (fun (_ : Int32) (_ : Unit) => True) (cpost D (TY cI cJ cO) [] sz []) (va_A [] sz)) 0 0 (va_A [] sz) := by
  refine Met.ofW (cc := cL_cell) (maxL := 2) (ret := some .int) (by decide) rfl ?_
  intro p e s m args below meth c s1 B hml hv
  obtain ⟨hv0, hv1, hX, hbl⟩ := hv
  obtain ⟨rfl, rfl, X, w⟩ := k_begin B hml ⟨hv0, hv1⟩
  have hbA : ¬ va_A [] s.heap.size b := by
    rintro (⟨k, x, h⟩ | h)
    · simp at h
    · exact absurd h (Nat.not_le.mpr hbl)
  have hlocks := B.notSynchronized
  have hl := lv_entry ([.ref b, .int (nI k)]) (n := 2) (Nat.le_of_ble_eq_true rfl)
  rw [lg_entry_eq]
  generalize (lg_sl ([.ref b, .int (nI k)]) ++ List.replicate (2 - (lg_sl ([.ref b, .int (nI k)])).length) Slot.unset).toArray = ls at hl ⊢
  have hl : lv_has ls 2 [(0, .ref b), (1, .int (nI k))] := hl
  obtain ⟨hx, hb, hml, hown, hts⟩ := id X.1
  have K : ∀ (pc : Nat) (v : Int32), decode cL_cell pc = .ok (.ireturn, 1) → W p l e ({ frames := 0, cells := 0, slots := 0, locals := 0 }) s m ([.ref b, .int (nI k)] : List Value).toArray below meth c s.heap [] 0 0 (MQ below (va_Qi (fun (_ : Int32) (_ : Unit) => True) (cpost D (TY cI cJ cO) [] s.heap.size []) (va_A [] s.heap.size)) ([.ref b, .int (nI k)] : List Value).toArray s 0 0 (va_A [] s.heap.size)) (F0 m pc ls [.int v]) := fun pc v hdg =>
    W.zret (ty := .int) X.1.1 X.1.2.1 B.returns rfl (fun t ht hW => ⟨⟨v, (), rfl, trivial, by rw [ht]; exact w.1, va_K.moved hW.alike X.2.1, w.2.1⟩, w.2.2.F ht⟩) w.2.2.2.2 hdg
  refine lv_iload_n hx hb dL_cell_0 rfl (lv_at hl 1 rfl) ?_
  refine lv_aload_n hx hb dL_cell_1 rfl (lv_at hl 0 rfl) ?_
  refine va_slen hx hb hX hbl hbA w.2.2 dL_cell_2 ?_
  refine lv_icmp_ge (tgt := 12) hx hb dL_cell_3 (by decide) (fun c1 => ?_) (fun c1 => ?_)
  · refine lv_ldc (v := 1013904243) hx hb hown (hts _ (List.mem_of_getElem? (i := 1) rfl)) dL_cell_12 ?_
    refine lv_iload_n hx hb dL_cell_14 rfl (lv_at hl 1 rfl) ?_
    refine lv_iconst (v := 1) hx hb dL_cell_15 (by decide) ?_
    refine lv_iadd hx hb dL_cell_16 ?_
    refine lv_imul hx hb dL_cell_17 ?_
    exact K _ _ dL_cell_18
  · refine lv_aload_n hx hb dL_cell_6 rfl (lv_at hl 0 rfl) ?_
    refine lv_iload_n hx hb dL_cell_7 rfl (lv_at hl 1 rfl) ?_
    have hkL : k < L := by
      refine Classical.byContradiction fun h => c1 ?_
      exact nI_le (by omega) hk
    refine va_sld hx hb hX hbl hbA w.2.2 (k_in (j := k) hkL hL rfl) dL_cell_8 ?_
    refine lv_goto (tgt := 18) hx hb dL_cell_9 (by decide) ?_
    exact K _ _ dL_cell_18
