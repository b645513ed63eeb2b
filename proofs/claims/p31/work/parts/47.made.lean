/-! Constructors: the rows of what is made, and the contracts of the constructors (CN: the new cells at addresses u). -/
theorem z0_hi {k : Nat} (h : 25 ≤ k) : z0 k = 0 := by
  simp only [z0, upd]
  repeat rw [if_neg (by omega)]
def cpostN (D : va_G) (tys : List (ClassId × FieldType)) (cin : va_W) (sz : Nat) (cout : (Nat → Nat) → va_W) : (Nat → Nat) → State → Prop := fun u t => va_P D vwCl (cout u) t.heap ∧ va_K D vwCl tys t ∧ va_D (va_A cin sz) (cout u)
def CN (l : Launch) (D : va_G) (tys : List (ClassId × FieldType)) (o : Nat → Nat) (cI : ClassId) (y : MethodName) (ws : List Cond) (rm : Room) (mc ms : Nat) (args : List Value) (cin : va_W) (cout : (Nat → Nat) → va_W) : Prop := ∀ sz : Nat, Met l y ws rm (va_Pc args (cpreO D tys cin sz o cI)) (va_Qv (fun _ : Nat → Nat => True) (cpostN D tys cin sz cout) (va_A cin sz)) mc ms (va_A cin sz)
section KITF
variable {p : Program} {l : Launch} {e : Env} {R : Room} {s : State} {m : MethodId} {args : Array Value} {below : List Frame} {meth : Method} {c : Code} {H H0 : Heap} {locs : List Loc} {cells slots : Nat} {Q : State → Prop} {A : Nat → Prop} {D : va_G} {tys : List (ClassId × FieldType)} {ws ws2 cin wr : va_W} {cc : ByteArray} {nL : Nat} {Ts : List Cond} {own : String} {pc : Nat} {ls : Array Slot} {rest st0 : List Value} {a : Nat} {o : Nat → Nat} {cI : ClassId}
theorem k_new {C : String} {T : u_T} {N ci index : Nat} {fs : List Value} {ty : Nat → FieldType} (X : cx p m c cc nL s args Ts own D tys) (w : wd D A H0 H locs ws) (hA : ∀ q : Nat, H0.size ≤ q → A q) (hin : ∀ w ∈ u_ws C T N, w ∈ Ts) (hty : ∀ k, k < N → parseFieldDescriptor (T k).2.2.1 = some (ty k)) (hcl : Cond.classLink own index C ∈ Ts) (hinst : Cond.instantiable C N ∈ Ts) (hini : Cond.initialized C ∈ Ts) (hc : vwCl[ci]? = some (C, T, N)) (hfs : ∀ j, j < N → defaultValue (ty j) = vp_V fs j) (hf : cells + 1 ≤ R.cells ∧ slots + N ≤ R.slots) (hdg : decode cc pc = .ok (.new index, 3))
    (kk : ∀ (q : Nat) (H1 : Heap), wd D A H0 H1 locs (ws ++ [(q, .inr (ci, fs))]) → W p l e R s m args below meth c H1 locs (cells + 1) (slots + N) Q (F0 m (pc + 3) ls (.ref q :: rest))) : W p l e R s m args below meth c H locs cells slots Q (F0 m pc ls rest) := by
  obtain ⟨⟨hx, hb, hml, hown, hts⟩, hK, -⟩ := X
  exact va_new hx hb hts hin ty hty hown (hts _ hcl) (hts _ hinst) (hts _ hini) hK w.1 w.2.1 w.2.2 hA hc hfs hf.1 hf.2 hdg (fun q H1 h1 h2 h3 => kk q H1 ⟨h1, h2, h3⟩)
theorem k_newa {n k : Nat} (X : cx p m c cc nL s args Ts own D tys) (w : wd D A H0 H locs ws) (hA : ∀ q : Nat, H0.size ≤ q → A q) (ht : tys[0]? = some (cI, .int)) (harr : Cond.arrayClass .int ∈ Ts) {i : Int32} (hi : i = nI n) (hn : n < 100000) (hf : cells + 1 ≤ R.cells ∧ slots + n ≤ R.slots) (hdg : decode cc pc = .ok (.newarray .int, 2))
    (kk : ∀ (q : Nat) (H1 : Heap), wd D A H0 H1 locs (ws ++ [aI cI q n k (fun _ => 0)]) → W p l e R s m args below meth c H1 locs (cells + 1) (slots + n) Q (F0 m (pc + 2) ls (.ref q :: rest))) : W p l e R s m args below meth c H locs cells slots Q (F0 m pc ls (.int i :: rest)) := by
  obtain ⟨⟨hx, hb, hml, hown, hts⟩, hK, -⟩ := X
  subst hi
  refine va_newa (atype := .int) (a0 := (n, .inl (fun _ => 0))) (N' := n) hx hb (hts _ harr) rfl hK w.1 w.2.1 w.2.2 hA (fun _ => rfl) (nI_pos (by omega)) (nI_clamp (by omega)) (by show n * 4 ≤ _; omega) hf.1 hf.2 hdg ?_
  intro q cA H1 hK2 h1 h2 h3
  have e1 : s.vm.findClass ("[" ++ FieldType.int.toString) = some cI := (hK.2 0 _ ht).2
  have e2 : s.vm.findClass ("[" ++ FieldType.int.toString) = some cA := (hK2.2 tys.length (cA, .int) (by rw [List.getElem?_append_right (Nat.le_refl _), Nat.sub_self]; rfl)).2
  cases Option.some.inj (e1.symm.trans e2)
  rw [show ((q, .inl (cI, (n, .inl (fun _ => 0)))) : Nat × va_E) = aI cI q n k (fun _ => 0) from congrArg (fun f => ((q, .inl (cI, n, .inl f)) : Nat × va_E)) cut_0] at h1 h2
  exact kk q H1 ⟨h1, h2, h3⟩
theorem k_newq {n index : Nat} {cO : ClassId} (X : cx p m c cc nL s args Ts own D tys) (w : wd D A H0 H locs ws) (hA : ∀ q : Nat, H0.size ≤ q → A q) (hao : va_AO RX3 s) (ht : tys[1]? = some (cO, .object RX3)) (hcl : Cond.classLink own index RX3 ∈ Ts) {i : Int32} (hi : i = nI n) (hn : n < 100000) (hf : cells + 1 ≤ R.cells ∧ slots + n ≤ R.slots) (hdg : decode cc pc = .ok (.anewarray index, 3))
    (kk : ∀ (q : Nat) (H1 : Heap), wd D A H0 H1 locs (ws ++ [(q, .inl (cO, n, .inr (.inr (.inr (.inr (fun _ => none))))))]) → W p l e R s m args below meth c H1 locs (cells + 1) (slots + n) Q (F0 m (pc + 3) ls (.ref q :: rest))) : W p l e R s m args below meth c H locs cells slots Q (F0 m pc ls (.int i :: rest)) := by
  obtain ⟨⟨hx, hb, hml, hown, hts⟩, hK, -⟩ := X
  subst hi
  refine va_newq (C := RX3) (N' := n) hx hb hown (hts _ hcl) hao hK w.1 w.2.1 w.2.2 hA (nI_pos (by omega)) (nI_clamp (by omega)) (by omega) hf.1 hf.2 hdg ?_
  intro q cA H1 hK2 h1 h2 h3
  obtain ⟨_, _, _, _, _, e1⟩ := (hK.2 1 _ ht).2
  obtain ⟨_, _, _, _, _, e2⟩ := (hK2.2 tys.length (cA, .object RX3) (by rw [List.getElem?_append_right (Nat.le_refl _), Nat.sub_self]; rfl)).2
  cases Option.some.inj (e1.symm.trans e2)
  exact kk q H1 ⟨h1, h2, h3⟩
theorem k_astq {n j b ci : Nat} {cO : ClassId} {vs : List Value} {T : u_T} {N : Nat} {f : Nat → Option Nat} (X : cx p m c cc nL s args Ts own D tys) (w : wd D A H0 H locs ws) (q0 qk : Nat) (he : ws[q0]? = some (a, .inl (cO, n, .inr (.inr (.inr (.inr f)))))) (ht : tys[1]? = some (cO, .object RX3)) (hv : ws[qk]? = some (b, .inr (ci, vs))) (hc : vwCl[ci]? = some (RX3, T, N)) (hj : j < n) (hn : n < 2 ^ 31) {i : Int32} (hi : i = nI j) (hws : ws.set q0 (a, .inl (cO, n, .inr (.inr (.inr (.inr (va_up f j (some b))))))) = ws2) (hdg : decode cc pc = .ok (.aastore, 1))
    (kk : ∀ (H1 : Heap) (locs1 : List Loc), wd D A H0 H1 locs1 ws2 → W p l e R s m args below meth c H1 locs1 cells slots Q (F0 m (pc + 1) ls rest)) : W p l e R s m args below meth c H locs cells slots Q (F0 m pc ls (.ref b :: .int i :: .ref a :: rest)) := by
  obtain ⟨⟨hx, hb, hml, hown, hts⟩, hK, -⟩ := X
  refine va_astq hx hb hK w.1 w.2.1 w.2.2 q0 1 qk ci he ht hv hc (k_in hj hn hi) hdg ?_
  intro H1 locs1 h1 h2 h3
  rw [hi, nI_clamp (by omega)] at h1 h2
  exact kk H1 locs1 ⟨hws ▸ h1, hws ▸ h2, h3⟩
theorem k_putF (X : cx p m c cc nL s args Ts own D tys) (w : wd D A H0 H locs ws) (q0 : Nat) {ci : Nat} {T : u_T} {N : Nat} {fs : List Value} (he : ws[q0]? = some (a, .inr (ci, fs))) (hc : vwCl[ci]? = some (own, T, N)) (k : Nat) (hk : k < N) {nm dsc : String} (hT : T k = (own, nm, dsc, true)) {index : Nat} (hin : ∀ w ∈ u_ws own T N, w ∈ Ts) (hl : Cond.fieldLink own index own nm dsc ∈ Ts)
    {ty0 : Nat → FieldType} (hty : ∀ k, k < N → parseFieldDescriptor (T k).2.2.1 = some (ty0 k)) (hnm : ∀ a, a < N → ∀ b, b < N → a ≠ b → (T a).2.1 ≠ (T b).2.1) (hmn : meth.name = "<init>") {v : Value} (hn : narrow (ty0 k) v = v) (hfit : Jvm.fits (ty0 k) v = true) (hlen : k < fs.length) (hws : ws.set q0 (a, .inr (ci, fs.set k v)) = ws2) (hdg : decode cc pc = .ok (.putfield index, 3))
    (kk : ∀ (H1 : Heap) (locs1 : List Loc), wd D A H0 H1 locs1 ws2 → W p l e R s m args below meth c H1 locs1 cells slots Q (F0 m (pc + 3) ls rest)) : W p l e R s m args below meth c H locs cells slots Q (F0 m pc ls (v :: .ref a :: rest)) := by
  obtain ⟨⟨hx, hb, hml, hown, hts⟩, hK, -⟩ := X
  refine va_putF (D := D) (ci := ci) (C := own) (T := T) (N := N) (ref := own) (ty := ty0 k) hx hb hts hin ty0 hty hnm hown hK w.1 w.2.1 w.2.2 q0 he hc k hk ?_ ?_ ?_ hmn ?_ (hty k hk) hn hfit hlen hdg ?_
  · rw [hT]; exact hts _ hl
  · intro x h; rw [hT] at h ⊢; exact h
  · rw [hT]
  · rw [hT]
  · intro H1 locs1 h1 h2 h3
    rw [hws] at h1 h2
    exact kk H1 locs1 ⟨h1, h2, h3⟩
/-- a static row is copied -/
theorem k_cloneS {C n : String} {b L index : Nat} {f : Nat → Int32} (X : cx p m c cc nL s args Ts own D tys) (h : SA C n b L f cI A s s.heap) (w : wd D A s.heap H locs ws) (hA : ∀ q : Nat, s.heap.size ≤ q → A q) (ht : tys[0]? = some (cI, .int)) (hls : ls.size = nL) (g1 : Cond.methodLink own index ⟨"[I", "clone", "()Ljava/lang/Object;"⟩ ∈ Ts) (g2 : Cond.sameMethod "[I" "java/lang/Object" "clone" "()Ljava/lang/Object;" ∈ Ts) (g3 : Cond.native ⟨"java/lang/Object", "clone", "()Ljava/lang/Object;"⟩ ∈ Ts) (g4 : Cond.instanceMethod ⟨"java/lang/Object", "clone", "()Ljava/lang/Object;"⟩ ∈ Ts) (g5 : Cond.selects "[I" ⟨"[I", "clone", "()Ljava/lang/Object;"⟩ ⟨"java/lang/Object", "clone", "()Ljava/lang/Object;"⟩ ∈ Ts) (hR : 1 ≤ R.frames ∧ 22 ≤ R.locals) (hstk : (rest.map fun v => v.category).sum ≤ 8) (hf : cells + 1 ≤ R.cells ∧ slots + L ≤ R.slots) (hdg : decode cc pc = .ok (.invokevirtual index, 3))
    (kk : ∀ (q : Nat) (H1 : Heap), wd D A s.heap H1 locs (ws ++ [(q, .inl (cI, L, .inl f))]) → W p l e R s m args below meth c H1 locs (cells + 1) (slots + L) Q (F0 m (pc + 3) ls (.ref q :: rest))) : W p l e R s m args below meth c H locs cells slots Q (F0 m pc ls (.ref b :: rest)) := by
  obtain ⟨⟨hx, hb, hml, hown, hts⟩, hK, hTX⟩ := X
  obtain ⟨-, ⟨scr, e1, hof, hkn, hsz, hval⟩, ⟨scr2, e2, hcl⟩, hbA⟩ := h
  cases Option.some.inj (e1.symm.trans e2)
  have hbH : H[b]? = some scr := (w.2.2.2.1 b (Array.getElem?_eq_some_iff.mp e1).1 hbA).trans e1
  have hnm : s.vm.findClass "[I" = some cI := (hK.2 0 _ ht).2
  obtain ⟨c0, t0', f1, f2, f3⟩ := Cond.castable_spec (va_Nw.use (A := args) rfl (hTX _ (List.mem_of_getElem? (i := 7) rfl)))
  cases hnm.symm.trans f1
  obtain ⟨-, kS, hkS, compS, hkindS⟩ := (hK.2 0 _ ht).1 0 (fun _ => .null)
  have hcellE : ({ cls := scr.cls, slots := scr.slots } : Cell) = arrV cI L (fun j => .int (f j)) := by
    have hs : scr.slots = (arrV cI L (fun j => .int (f j))).slots := by
      refine Array.ext_getElem? fun j => ?_
      by_cases hj : j < L
      · rw [hval j hj, arrV_read _ _ hj]
      · rw [Array.getElem?_eq_none (by omega), Array.getElem?_eq_none (by rw [arrV_size]; omega)]
    rw [hs, hcl]
    rfl
  intro T hT X
  obtain ⟨-, kT, hkT, compT, hkindT⟩ := State.isArrayOf_alike X.warmed.alike hof
  obtain ⟨vm', X', st⟩ := X.cloneArray hx hown (hts _ g1) (hts _ g2) (hts _ g3) (hts _ g4) (hts _ g5) (a := b) (cell := scr) (by rw [hT]; exact hbH) hof.1 hkn (by rw [hcl]; exact hnm) f2 (by rw [hcl]; exact f3)
    (fun i v hv => by
      have hi : i < L := by have := (Array.getElem?_eq_some_iff.mp hv).1; omega
      rw [hval i hi] at hv
      cases hv
      have hk' : T.vm.classes[scr.cls]? = some kT := hkT
      have hfit : fits FieldType.int (.int (f i)) = true := rfl
      simpa [State.fitsSlot, State.slotType?, hk', hkindT] using hfit)
    (g := F0 m pc ls (.ref b :: rest)) rfl (hls.trans hml.symm) rfl (by rw [hb]; exact hdg) hR.1 (by show 2 * 0 + _ + 14 ≤ _; omega) hf.1 (by rw [hsz]; exact hf.2) (hloader := by rw [hcl]; exact Vm.clonesLoader_of_array hkS hkindS)
  rw [hcellE, hsz] at X'
  generalize hH1 : H.push (arrV cI L (fun j => .int (f j))) = H1
  have z1 : H1.size = H.size + 1 := by rw [← hH1, Array.size_push]
  have e1' : H1[H.size]? = some (arrV cI L (fun j => .int (f j))) := by rw [← hH1, Array.getElem?_push_size]
  have o1 : ∀ q : Nat, q < H.size → H1[q]? = H[q]? := fun q hq => by rw [← hH1, Array.getElem?_push, if_neg (Nat.ne_of_lt hq)]
  have hk : ∀ (k : Nat) (y : Nat × va_E), ws[k]? = some y → H1[y.1]? = H[y.1]? := fun k y hy => o1 y.1 ((w.1 k y hy).lt)
  obtain ⟨t, b1, b2⟩ := kk H.size H1 ⟨(va_P.kept w.1 hk).app (fun k y hy => by
      have hz : k < 1 := (List.getElem?_eq_some_iff.mp hy).1
      rw [show k = 0 by omega] at hy
      cases hy
      exact e1'), va_D.push w.2.1 w.1 rfl (hA _ w.2.2.1), Nat.le_trans w.2.2.1 (by omega), fun y h1 h2 => (o1 y (Nat.lt_of_lt_of_le h1 w.2.2.1)).trans (w.2.2.2.1 y h1 h2), w.2.2.2.2⟩
    ((T.setVm vm').pushCell (arrV cI L (fun j => .int (f j)))) (by rw [← hH1, ← hT]; rfl) X'
  refine ⟨t, st t ?_, b2⟩
  rw [hcellE, hT]
  exact b1
theorem k_castI {index q n : Nat} {x : vp_A} (X : cx p m c cc nL s args Ts own D tys) (w : wd D A H0 H locs ws) (q0 : Nat) (he : ws[q0]? = some (q, .inl (cI, x))) (ht : tys[0]? = some (cI, .int)) (hl : Cond.classLink own index "[I" ∈ Ts) (hdg : decode cc pc = .ok (.checkcast index, 3))
    (kk : W p l e R s m args below meth c H locs cells slots Q (F0 m (pc + 3) ls (.ref q :: rest))) : W p l e R s m args below meth c H locs cells slots Q (F0 m pc ls (.ref q :: rest)) := by
  obtain ⟨⟨hx, hb, hml, hown, hts⟩, hK, -⟩ := X
  exact va_castA hx hb hown (hts _ hl) w.1 q0 he (show s.vm.findClass "[I" = some cI from (hK.2 0 _ ht).2) hdg kk
theorem k_runI (X : cx p m c cc nL s args Ts own D tys) (w : wd D A s.heap H locs ws) (ox : OX o cI A s s.heap) (hA : ∀ q : Nat, s.heap.size ≤ q → A q) {y : MethodName} {wsy ws9 : List Cond} {rm : Room} {b mc ms : Nat} {Qc : Array Value → State → Outcome → State → Prop} {free : Addr → Prop} (hM : Met l y wsy rm (va_Pc [.ref b] (cpreO D tys cin H.size o cI)) Qc mc ms free) {index : Nat} {bytes : ByteArray} {maxL : Nat} (hG : GoodIn Ts wsy) (hl : Cond.methodLink own index y ∈ Ts) (hini : Cond.initialized y.cls ∈ Ts) (hinst : Cond.instanceMethod y ∈ Ts) (hy1 : y.name = "<init>") (hw : wsy = Cond.code y bytes maxL none :: ws9) (hrc : rm.cells = mc) (hrs : rm.slots = ms) {C : String} (hd : y.cls = C ∧ y.cls ≠ "java/lang/invoke/MethodHandle" ∧ y.cls ≠ "java/lang/invoke/VarHandle" ∧ (parseMethodDescriptor y.desc).map (fun d => d.parameters.length) = some 0) (hR : rm.frames + 1 ≤ R.frames ∧ 8 + (maxL + 11) + rm.locals ≤ R.locals)
    (isC : List Nat) (hC : isC.map (fun i => ws[i]?) = cin.map some) (hnd : va_nd isC = true) (hls : ls.size = nL) (hst : (rest.map fun v => v.category).sum ≤ 8) (hdg : decode cc pc = .ok (.invokespecial index, 3)) (hf : cells + mc ≤ R.cells ∧ slots + ms ≤ R.slots) :
    va_Run p l e R s m args below meth c H locs cells slots mc ms (F0 m pc ls (.ref b :: rest)) rest (Qc [Value.ref b].toArray) free :=
  va_runI (As := []) X.1 hM (cwI 0 X.1.2.2.2.2 hG hw hrc hrs (X.1.2.2.2.2 _ hini) (X.1.2.2.2.2 _ hl) (X.1.2.2.2.2 _ hinst) hy1 hd.2 hR) (kO_pre X w ox hA hC hnd) rfl rfl hls rfl (lv_room hst) hdg hf
theorem k_runIN (X : cx p m c cc nL s args Ts own D tys) (w : wd D A s.heap H locs ws) (ox : OX o cI A s s.heap) (hA : ∀ q : Nat, s.heap.size ≤ q → A q) {y : MethodName} {wsy ws9 : List Cond} {rm : Room} {b mc ms : Nat} {Qc : Array Value → State → Outcome → State → Prop} {free : Addr → Prop} (hM : Met l y wsy rm (va_Pc [.ref b] (cpreO D tys cin H.size o cI)) Qc mc ms free) {index : Nat} {host : String} {bytes : ByteArray} {maxL : Nat} (hG : GoodIn Ts wsy) (hl : Cond.methodLinkNest own index y host ∈ txw) (hini : Cond.initialized y.cls ∈ Ts) (hinst : Cond.instanceMethod y ∈ Ts) (hy1 : y.name = "<init>") (hw : wsy = Cond.code y bytes maxL none :: ws9) (hrc : rm.cells = mc) (hrs : rm.slots = ms) {C : String} (hd : y.cls = C ∧ y.cls ≠ "java/lang/invoke/MethodHandle" ∧ y.cls ≠ "java/lang/invoke/VarHandle" ∧ (parseMethodDescriptor y.desc).map (fun d => d.parameters.length) = some 0) (hR : rm.frames + 1 ≤ R.frames ∧ 8 + (maxL + 11) + rm.locals ≤ R.locals)
    (isC : List Nat) (hC : isC.map (fun i => ws[i]?) = cin.map some) (hnd : va_nd isC = true) (hls : ls.size = nL) (hst : (rest.map fun v => v.category).sum ≤ 8) (hdg : decode cc pc = .ok (.invokespecial index, 3)) (hf : cells + mc ≤ R.cells ∧ slots + ms ≤ R.slots) :
    va_Run p l e R s m args below meth c H locs cells slots mc ms (F0 m pc ls (.ref b :: rest)) rest (Qc [Value.ref b].toArray) free :=
  va_runIN (As := []) X.1 hM ⟨va_cnB 0 X.1.2.2.2.2 hG hw hrc hrs (X.2.2 _ hl) (X.1.2.2.2.2 _ hini) hd.2 hR, hy1, X.1.2.2.2.2 _ hinst⟩ (kO_pre X w ox hA hC hnd) rfl rfl hls rfl (lv_room hst) hdg hf
theorem k_cn {av : Array Value} {mc ms : Nat} {cout ws3 : (Nat → Nat) → va_W} (hr : va_Run p l e R s m args below meth c H locs cells slots mc ms (F0 m pc ls st0) rest (va_Qv (fun _ : Nat → Nat => True) (cpostN D tys cin H.size cout) (va_A cin H.size) av) (va_A cin H.size)) (w : wd D A H0 H locs ws) (hA : ∀ q : Nat, H0.size ≤ q → A q) (isC isR : List Nat) (hC : isC.map (fun i => ws[i]?) = cin.map some) (hR : isR.map (fun i => ws[i]?) = wr.map some) (hn : va_nd isR = true) (hdis : ∀ i ∈ isR, i ∉ isC) (hw3 : ∀ u, wr ++ cout u = ws3 u)
    (kk : ∀ (u : Nat → Nat) (H1 : Heap) (locs1 : List Loc), wd D A H0 H1 locs1 (ws3 u) → W p l e R s m args below meth c H1 locs1 (cells + mc) (slots + ms) Q (F0 m (pc + 3) ls rest)) : W p l e R s m args below meth c H locs cells slots Q (F0 m pc ls st0) := by
  have hF := va_free w.2.1 w.2.2 hA isC hC
  refine va_callv hr w.2.2 (fun q _ h => hF q h) hF (fun u t H1 locs1 ht hvm hw hB hz1 hk1 hS => ?_)
  obtain ⟨hP1, hK1, hD1⟩ := hB
  rw [ht] at hP1
  obtain ⟨hP, hD⟩ := va_join w.1 w.2.1 isC isR hC hR hn hdis hk1 hF hP1 hD1
  rw [hw3] at hP hD
  exact kk u H1 locs1 ⟨hP, hD, hS⟩
end KITF
section KITG
variable {l : Launch} {D : va_G} {tys : List (ClassId × FieldType)} {y : MethodName} {ws ws9 : List Cond} {rm : Room} {av : List Value} {cin : va_W} {cout : (Nat → Nat) → va_W} {cc : ByteArray} {maxL mc ms : Nat} {o : Nat → Nat} {cI : ClassId}
theorem CN.of (hy : plainName y.cls = true) (hyn : y.name = "<init>") (hw : ws = Cond.code y cc maxL none :: ws9) (hlen : (lg_sl av).length ≤ maxL)
    (body : ∀ (p : Program) (e : Env) (s : State) (m : MethodId) (below : List Frame) (meth : Method) (c : Code) (A : Nat → Prop) (ls : Array Slot) (Q : State → Prop), cx p m c cc maxL s av.toArray ws y.cls D tys → (∀ q : Nat, s.heap.size ≤ q → A q) → wd D A s.heap s.heap [] cin → OX o cI A s s.heap → meth.name = "<init>" → lv_has ls maxL (lv_args 0 av) →
      (∀ (H : Heap) (locs : List Loc) (pc : Nat) (ls : Array Slot) (u : Nat → Nat), wd D A s.heap H locs (cout u) → decode cc pc = .ok (.return_, 1) → W p l e rm s m av.toArray below meth c H locs mc ms Q (F0 m pc ls [])) →
      W p l e rm s m av.toArray below meth c s.heap [] 0 0 Q (F0 m 0 ls [])) : CN l D tys o cI y ws rm mc ms av cin cout := by
  intro sz
  refine Met.ofW (cc := cc) (maxL := maxL) (ret := none) hy hw ?_
  intro p e s m args below meth c s1 B hml hv
  obtain ⟨hv0, hv1, ox⟩ := hv
  obtain ⟨rfl, rfl, X, w⟩ := k_begin B hml ⟨hv0, hv1⟩
  rw [lg_entry_eq]
  refine body p e s m below meth c (va_A cin s.heap.size) _ _ X (fun q h => Or.inr h) w ox ((name_of_methodNamed B.named B.method).1.trans hyn) (lv_entry av hlen) ?_
  intro H locs pc ls u w1 hdg
  have hlocks := B.notSynchronized
  exact W.vret X.1.1 X.1.2.1 B.returns (fun t ht hW => ⟨⟨u, rfl, trivial, by rw [ht]; exact w1.1, va_K.moved hW.alike X.2.1, w1.2.1⟩, w1.2.2.F ht⟩) w1.2.2.2.2 hdg
end KITG
