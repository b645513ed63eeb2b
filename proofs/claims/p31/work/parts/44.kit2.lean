/-! What lies outside the worlds (statics, String constants), and contracts of calls that throw (CX), of methods with handlers and of constructors (CIm, CVu). -/

-- the String constants of the class's throws
def strX : List (Nat × String) := [(103, "no reading can be made"), (125, "no such setting"), (173, "no saved state"), (184, "no snapshot"), (189, "no such place on the paper"), (247, "no such pose"), (249, "out of range")]
/-- a static row of whole numbers, that nobody writes -/
def SA (C n : String) (b L : Nat) (f : Nat → Int32) (cI : ClassId) (A : Nat → Prop) (U : State) (H : Heap) : Prop := va_Z C n "[I" (.ref b) A U H ∧ va_X b L f U H ∧ (∃ scr : Cell, H[b]? = some scr ∧ scr.cls = cI) ∧ ¬ A b
theorem SA.moved {C n : String} {b L : Nat} {f : Nat → Int32} {cI : ClassId} {A : Nat → Prop} {u U : State} {H : Heap} (hvm : u.vm.Alike U.vm) (h : SA C n b L f cI A u H) : SA C n b L f cI A U H := ⟨h.1.moved hvm, h.2.1.moved hvm, h.2.2⟩
theorem SA.kept {C n : String} {b L : Nat} {f : Nat → Int32} {cI : ClassId} {A : Nat → Prop} {U : State} {H H1 : Heap} (h : SA C n b L f cI A U H) (hq : ∀ a : Nat, a < H.size → ¬ A a → H1[a]? = H[a]?) : SA C n b L f cI A U H1 := by
  obtain ⟨h1, h2, ⟨scr, h3, h4⟩, h5⟩ := h
  have e := hq b (Array.getElem?_eq_some_iff.mp h3).1 h5
  exact ⟨h1.kept hq, h2.kept e, ⟨scr, e.trans h3, h4⟩, h5⟩
theorem SA.narrow {C n : String} {b L : Nat} {f : Nat → Int32} {cI : ClassId} {A B : Nat → Prop} {U : State} {H : Heap} (h : SA C n b L f cI A U H) (hAB : ∀ q, B q → A q) : SA C n b L f cI B U H := ⟨h.1.narrow hAB, h.2.1, h.2.2.1, fun z => h.2.2.2 (hAB _ z)⟩
/-- the state at the start -/
def z0 : Nat → Int32 := upd (upd (upd (upd (upd (upd (upd (upd (upd (upd (upd (upd (upd (upd (fun _ => 0) 3 10) 12 60) 13 40) 14 24) 15 60) 19 2) 20 (-2)) 21 8) 22 (-8)) 23 4) 24 (-4)) 16 (-1)) 17 (-1)) 18 (-1)
def lsF : Nat → Int32 := fun k => if k = 0 then 10 else if k = 1 then 0 else if k = 2 then 1 else 5
def msF : Nat → Int32 := fun k => if k = 0 then 200 else if k = 1 then 100 else if k = 2 then 200 else 900
def ncX : List (String × String) := [("java/lang/IllegalArgumentException", "java/lang/IndexOutOfBoundsException"), ("java/lang/IllegalStateException", "java/lang/IndexOutOfBoundsException"), ("java/lang/IllegalStateException", "java/lang/IllegalArgumentException")]
def dcX : List MethodName := [⟨"java/lang/RuntimeException", "<init>", "(Ljava/lang/String;)V"⟩, ⟨"java/lang/Exception", "<init>", "(Ljava/lang/String;)V"⟩, ⟨"java/lang/Throwable", "<init>", "(Ljava/lang/String;)V"⟩]
def OX (o : Nat → Nat) (cI : ClassId) (A : Nat → Prop) (U : State) (H : Heap) : Prop :=
  vx_Zq Bundle.tN "UNASSIGNED_STACK" Bundle.steD A U H ∧ vx_Zq Bundle.tN "SUPPRESSED_SENTINEL" Bundle.listD A U H ∧ (∀ q ∈ strX, vk_R RX5 q.1 q.2 (o q.1) U) ∧
  SA RX4 "FIRST_WEIGHTS" (o 0) 6 (cut 6 19 z0) cI A U H ∧ SA RX3 "FIRST_SETTINGS" (o 1) 4 (cut 4 12 z0) cI A U H ∧ SA RX3 "LEAST_SETTINGS" (o 2) 4 lsF cI A U H ∧ SA RX3 "MOST_SETTINGS" (o 3) 4 msF cI A U H ∧ (∀ q ∈ ncX, va_Nc q.1 q.2 U) ∧ (∀ x ∈ dcX, va_Nw (.declares x) U) ∧ va_AO RX3 U
theorem OX.warm {o : Nat → Nat} {cI : ClassId} {A : Nat → Prop} {u U : State} {H : Heap} (hW : u.WarmedH U.vm) (h : OX o cI A u H) : OX o cI A U H := by
  obtain ⟨h1, h2, h3, h4, h5, h6, h7, h8, h9, h10⟩ := h
  exact ⟨h1.moved hW.alike, h2.moved hW.alike, fun q hq => vk_R.warm hW (h3 q hq), h4.moved hW.alike, h5.moved hW.alike, h6.moved hW.alike, h7.moved hW.alike, fun q hq => (h8 q hq).moved hW.alike, fun x hx => va_Nw.warmD hW (h9 x hx), h10.moved hW.alike⟩
theorem OX.same {o : Nat → Nat} {cI : ClassId} {A : Nat → Prop} {u U : State} {H : Heap} (hv : U.vm = u.vm) (h : OX o cI A u H) : OX o cI A U H := by
  obtain ⟨h1, h2, h3, h4, h5, h6, h7, h8, h9, h10⟩ := h
  have ha : u.vm.Alike U.vm := by rw [hv]; exact Vm.Alike.refl _
  exact ⟨h1.moved ha, h2.moved ha, fun q hq => vk_R.same hv (h3 q hq), h4.moved ha, h5.moved ha, h6.moved ha, h7.moved ha, fun q hq => (h8 q hq).moved ha, fun x hx => va_Nw.same rfl hv.symm (h9 x hx), h10.moved ha⟩
theorem OX.kept {o : Nat → Nat} {cI : ClassId} {A : Nat → Prop} {U : State} {H H1 : Heap} (h : OX o cI A U H) (hq : ∀ a : Nat, a < H.size → ¬ A a → H1[a]? = H[a]?) : OX o cI A U H1 := by
  obtain ⟨h1, h2, h3, h4, h5, h6, h7, h8, h9, h10⟩ := h
  exact ⟨h1.kept hq, h2.kept hq, h3, h4.kept hq, h5.kept hq, h6.kept hq, h7.kept hq, h8, h9, h10⟩
theorem OX.narrow {o : Nat → Nat} {cI : ClassId} {A B : Nat → Prop} {U : State} {H : Heap} (h : OX o cI A U H) (hAB : ∀ q, B q → A q) : OX o cI B U H := by
  obtain ⟨h1, h2, h3, h4, h5, h6, h7, h8, h9, h10⟩ := h
  exact ⟨h1.narrow hAB, h2.narrow hAB, h3, h4.narrow hAB, h5.narrow hAB, h6.narrow hAB, h7.narrow hAB, h8, h9, h10⟩
def cpreO (D : va_G) (tys : List (ClassId × FieldType)) (cin : va_W) (sz : Nat) (o : Nat → Nat) (cI : ClassId) : State → Prop := fun U => cpre D tys cin sz U ∧ OX o cI (va_A cin sz) U U.heap
theorem cpreO_blind {D : va_G} {tys : List (ClassId × FieldType)} {cin : va_W} {sz : Nat} {av : List Value} {o : Nat → Nat} {cI : ClassId} : FrameBlind (va_Pc av (cpreO D tys cin sz o cI)) := fun a U g mk q => by
  obtain ⟨q0, q1, q2⟩ := q
  exact ⟨q0, (cpre_blind (av := av) a U g mk ⟨q0, q1⟩).2, OX.same (u := U) (U := U.calling g mk a) rfl q2⟩
/-- a call that throws the class E -/
def xpost (D : va_G) (cin cout : va_W) (sz : Nat) (E : String) : String → Unit → State → Prop := fun E2 _ t => E2 = E ∧ va_P D vwCl cout t.heap ∧ va_D (va_A cin sz) cout
def CX (l : Launch) (D : va_G) (tys : List (ClassId × FieldType)) (o : Nat → Nat) (cI : ClassId) (y : MethodName) (ws : List Cond) (rm : Room) (args : List Value) (cin cout : va_W) (E : String) : Prop := ∀ sz : Nat, vx_Met l y ws rm (va_Pc args (cpreO D tys cin sz o cI)) (fun _ _ _ _ => False) (vx_X (fun _ : Unit => True) (xpost D cin cout sz E) (va_A cin sz)) 1 6 (va_A cin sz)
def CIm (l : Launch) (D : va_G) (tys : List (ClassId × FieldType)) (o : Nat → Nat) (cI : ClassId) (y : MethodName) (ws : List Cond) (rm : Room) (mc ms : Nat) (args : List Value) (cin : va_W) (r : Int32) (cout : va_W) : Prop := ∀ sz : Nat, Met l y ws rm (va_Pc args (cpreO D tys cin sz o cI)) (va_Qi (fun (r2 : Int32) (_ : Unit) => r2 = r) (cpost D tys cin sz cout) (va_A cin sz)) mc ms (va_A cin sz)
abbrev aL (cJ : ClassId) (a : Nat) (x : Int64) : Nat × va_E := (a, .inl (cJ, 1, .inr (.inl (fun j => if j = 0 then x else 0))))
theorem oS_p {a w pa sa : Nat} {f g : Nat → Int32} (h1 : f 11 = g 11) (h2 : f 16 = g 16) (h3 : f 17 = g 17) (h4 : f 18 = g 18) : oS a w pa sa f = oS a w pa sa g := by
  simp only [oS, h1, h2, h3, h4]
abbrev oL (v : Int32) : Int64 := v.toInt64
section KITD
variable {p : Program} {l : Launch} {e : Env} {R : Room} {s : State} {m : MethodId} {args : Array Value} {below : List Frame} {meth : Method} {c : Code} {H H0 : Heap} {locs : List Loc} {cells slots : Nat} {Q : State → Prop} {A : Nat → Prop} {D : va_G} {tys : List (ClassId × FieldType)} {ws ws2 cin cout wr : va_W} {cc : ByteArray} {nL : Nat} {Ts : List Cond} {own : String} {pc : Nat} {ls : Array Slot} {rest st0 : List Value} {a : Nat} {o : Nat → Nat} {cI : ClassId} {E : String}
theorem W.wide {g : JFrame} {k n : Nat} (h1 : cells ≤ k) (h2 : slots ≤ n) (kk : W p l e R s m args below meth c H locs k n Q g) : W p l e R s m args below meth c H locs cells slots Q g := fun T hT X => kk T hT (stand_widen X h1 h2)
theorem kO_pre (X : cx p m c cc nL s args Ts own D tys) (w : wd D A s.heap H locs ws) (ox : OX o cI A s s.heap) (hA : ∀ q : Nat, s.heap.size ≤ q → A q) {isC : List Nat} (hC : isC.map (fun i => ws[i]?) = cin.map some) (hnd : va_nd isC = true) {av : List Value} : PreS s H (va_Pc av (cpreO D tys cin H.size o cI)) av :=
  ⟨cpreO_blind, fun U hU hW => ⟨rfl, ((k_pre X w hC hnd (av := av)).2 U hU hW).2, by
    rw [hU]
    exact ((ox.kept w.2.2.2.1).warm hW).narrow (va_free w.2.1 w.2.2 hA isC hC)⟩⟩
theorem k_runSX (X : cx p m c cc nL s args Ts own D tys) (w : wd D A s.heap H locs ws) (ox : OX o cI A s s.heap) (hA : ∀ q : Nat, s.heap.size ≤ q → A q) {y : MethodName} {wsy ws9 : List Cond} {rm : Room} {As : List Value} {Qc : Array Value → State → Outcome → State → Prop} {XC : String → State → State → Prop} {free : Addr → Prop} (hM : vx_Met l y wsy rm (va_Pc As (cpreO D tys cin H.size o cI)) Qc XC 1 6 free) {index : Nat} {bytes : ByteArray} {maxL : Nat} {ret : Option FieldType} (hG : GoodIn Ts (va_wsS own index y wsy)) (hw : wsy = Cond.code y bytes maxL ret :: ws9) (hrc : rm.cells = 1) (hrs : rm.slots = 6) (n : Nat) {C : String} (hd : y.cls = C ∧ y.cls ≠ "java/lang/invoke/MethodHandle" ∧ y.cls ≠ "java/lang/invoke/VarHandle" ∧ (parseMethodDescriptor y.desc).map (fun d => d.parameters.length) = some n) (hR : rm.frames + 1 ≤ R.frames ∧ 8 + (maxL + 11) + rm.locals ≤ R.locals)
    (isC : List Nat) (hC : isC.map (fun i => ws[i]?) = cin.map some) (hnd : va_nd isC = true) (hn : As.length = n) (hls : ls.size = nL) (hstack : st0 = As.reverse ++ rest) (hst : (rest.map fun v => v.category).sum ≤ 8) (hdg : decode cc pc = .ok (.invokestatic index, 3)) (hf : cells + 1 ≤ R.cells ∧ slots + 6 ≤ R.slots) :
    vx_Run p l e R s m args below meth c H locs cells slots 1 6 (F0 m pc ls st0) rest (Qc As.toArray) XC free :=
  vx_runS X.1 hM (va_cwS n X.1.2.2.2.2 hG hw hrc hrs hd.2 hR) (kO_pre X w ox hA hC hnd) rfl hn hls hstack (lv_room hst) hdg hf
theorem k_runVX (X : cx p m c cc nL s args Ts own D tys) (w : wd D A s.heap H locs ws) (ox : OX o cI A s s.heap) (hA : ∀ q : Nat, s.heap.size ≤ q → A q) {y : MethodName} {wsy ws9 : List Cond} {rm : Room} {b : Nat} {As : List Value} {Qc : Array Value → State → Outcome → State → Prop} {XC : String → State → State → Prop} {free : Addr → Prop} (hM : vx_Met l y wsy rm (va_Pc (.ref b :: As) (cpreO D tys cin H.size o cI)) Qc XC 1 6 free) {C : String} {index : Nat} {bytes : ByteArray} {maxL : Nat} {ret : Option FieldType} (hG : GoodIn Ts (wsV own index C y wsy)) (hw : wsy = Cond.code y bytes maxL ret :: ws9) (hrc : rm.cells = 1) (hrs : rm.slots = 6) (n : Nat) (hd : y.cls = C ∧ y.cls ≠ "java/lang/invoke/MethodHandle" ∧ y.cls ≠ "java/lang/invoke/VarHandle" ∧ (parseMethodDescriptor y.desc).map (fun d => d.parameters.length) = some n) (hR : rm.frames + 1 ≤ R.frames ∧ 8 + (maxL + 11) + rm.locals ≤ R.locals)
    (isC : List Nat) (hC : isC.map (fun i => ws[i]?) = cin.map some) (hnd : va_nd isC = true) (q0 ci : Nat) {q : vw_C} {fs : List Value} (hc : vwCl[ci]? = some q) (hq : q.1 = C) (he : ws[q0]? = some (b, .inr (ci, fs))) (hn : As.length = n) (hls : ls.size = nL) (hstack : st0 = As.reverse ++ .ref b :: rest) (hst : (rest.map fun v => v.category).sum ≤ 8) (hdg : decode cc pc = .ok (.invokevirtual index, 3)) (hf : cells + 1 ≤ R.cells ∧ slots + 6 ≤ R.slots) :
    vx_Run p l e R s m args below meth c H locs cells slots 1 6 (F0 m pc ls st0) rest (Qc (Value.ref b :: As).toArray) XC free := by
  have hp := kO_pre X w ox hA hC hnd (av := .ref b :: As)
  refine vx_runV X.1 hM (cwV n X.1.2.2.2.2 hG hw hrc hrs hd hR) ⟨hp.1, ?_, hp.2⟩ rfl hn hls hstack (lv_room hst) hdg hf
  have h := va_recv X.2.1 w.1 hc he
  rw [hq] at h
  exact h
/-- as k_runV, for a callee that wants what lies outside -/
theorem k_runVO (X : cx p m c cc nL s args Ts own D tys) (w : wd D A s.heap H locs ws) (ox : OX o cI A s s.heap) (hA : ∀ q : Nat, s.heap.size ≤ q → A q) {y : MethodName} {wsy ws9 : List Cond} {rm : Room} {b mc ms : Nat} {As : List Value} {Qc : Array Value → State → Outcome → State → Prop} {free : Addr → Prop} (hM : Met l y wsy rm (va_Pc (.ref b :: As) (cpreO D tys cin H.size o cI)) Qc mc ms free) {C : String} {index : Nat} {bytes : ByteArray} {maxL : Nat} {ret : Option FieldType} (hG : GoodIn Ts (wsV own index C y wsy)) (hw : wsy = Cond.code y bytes maxL ret :: ws9) (hrc : rm.cells = mc) (hrs : rm.slots = ms) (n : Nat) (hd : y.cls = C ∧ y.cls ≠ "java/lang/invoke/MethodHandle" ∧ y.cls ≠ "java/lang/invoke/VarHandle" ∧ (parseMethodDescriptor y.desc).map (fun d => d.parameters.length) = some n) (hR : rm.frames + 1 ≤ R.frames ∧ 8 + (maxL + 11) + rm.locals ≤ R.locals)
    (isC : List Nat) (hC : isC.map (fun i => ws[i]?) = cin.map some) (hnd : va_nd isC = true) (q0 ci : Nat) {q : vw_C} {fs : List Value} (hc : vwCl[ci]? = some q) (hq : q.1 = C) (he : ws[q0]? = some (b, .inr (ci, fs))) (hn : As.length = n) (hls : ls.size = nL) (hstack : st0 = As.reverse ++ .ref b :: rest) (hst : (rest.map fun v => v.category).sum ≤ 8) (hdg : decode cc pc = .ok (.invokevirtual index, 3)) (hf : cells + mc ≤ R.cells ∧ slots + ms ≤ R.slots) :
    va_Run p l e R s m args below meth c H locs cells slots mc ms (F0 m pc ls st0) rest (Qc (Value.ref b :: As).toArray) free := by
  have hp := kO_pre X w ox hA hC hnd (av := .ref b :: As)
  refine va_runV X.1 hM (cwV n X.1.2.2.2.2 hG hw hrc hrs hd hR) ⟨hp.1, ?_, hp.2⟩ rfl hn hls hstack (lv_room hst) hdg hf
  have h := va_recv X.2.1 w.1 hc he
  rw [hq] at h
  exact h
/-- behind a call that has thrown -/
theorem k_cx0 {Qa : State → Outcome → State → Prop} (hQ : ∀ st oc t, Qa st oc t → False) (hr : vx_Run p l e R s m args below meth c H locs cells slots 1 6 (F0 m pc ls st0) rest Qa (vx_X (fun _ : Unit => True) (xpost D cin cout H.size E) (va_A cin H.size)) (va_A cin H.size)) (hS : va_S A H0 H locs) (hF : ∀ q, va_A cin H.size q → A q)
    (kx : ∀ (H1 : Heap) (locs1 : List Loc) (q9 : Addr) (ce : Cell), va_P D vwCl cout H1 → va_D (va_A cin H.size) cout → (∀ q : Nat, q < H.size → ¬ va_A cin H.size q → H1[q]? = H[q]?) → va_S A H0 H1 locs1 → H1[q9]? = some ce → ce.vm = .none → s.vm.findClass E = some ce.cls → vx_W p l e R s m args below meth c H1 locs1 (cells + 1) (slots + 6) Q (F0 m pc ls rest) q9) : W p l e R s m args below meth c H locs cells slots Q (F0 m pc ls st0) := by
  intro T hT X
  rcases hr T hT X with ⟨v, st₀, t, T', L, h0, X', hL, e1, e2, hq, st⟩ | ⟨q, st₀, t, T', L, E2, ce, h0, X', hL, e1, e2, ⟨u, hp, ⟨rfl, hP1, hD1⟩, hF1⟩, hce, hcv, hcl, st⟩
  · exact (hQ _ _ _ hq).elim
  · obtain ⟨k1, k2, k3⟩ := vx_keep h0 e1 hS (fun q _ h => hF q h) hF hL hF1
    rw [← e1] at hP1
    obtain ⟨t2, a1, b1⟩ := kx T'.heap (locs ++ L) q ce hP1 hD1 k2 k3 (by rw [e1]; exact hce) hcv hcl T' rfl X'
    exact ⟨t2, st.trans a1, b1⟩
theorem k_cxR {Qa : State → Outcome → State → Prop} (hQ : ∀ st oc t, Qa st oc t → False) (hr : vx_Run p l e R s m args below meth c H locs cells slots 1 6 (F0 m pc ls st0) rest Qa (vx_X (fun _ : Unit => True) (xpost D cin cin H.size E) (va_A cin H.size)) (va_A cin H.size)) (w : wd D A H0 H locs ws) (hA : ∀ q : Nat, H0.size ≤ q → A q) (isC : List Nat) (hC : isC.map (fun i => ws[i]?) = cin.map some)
    (kx : ∀ (H1 : Heap) (locs1 : List Loc) (q9 : Addr) (ce : Cell), wd D A H0 H1 locs1 ws → H1[q9]? = some ce → ce.vm = .none → s.vm.findClass E = some ce.cls → vx_W p l e R s m args below meth c H1 locs1 (cells + 1) (slots + 6) Q (F0 m pc ls rest) q9) : W p l e R s m args below meth c H locs cells slots Q (F0 m pc ls st0) := by
  have hF := va_free w.2.1 w.2.2 hA isC hC
  exact k_cx0 hQ hr w.2.2 hF fun H1 locs1 q9 ce hP1 hD1 k2 k3 => kx H1 locs1 q9 ce ⟨same_P w.1 w.2.1 hC k2 hP1, w.2.1, k3⟩
theorem k_cxT {Qa : State → Outcome → State → Prop} {es es2 B : va_W} (hQ : ∀ st oc t, Qa st oc t → False) (hr : vx_Run p l e R s m args below meth c H locs cells slots 1 6 (F0 m pc ls st0) rest Qa (vx_X (fun _ : Unit => True) (xpost D cin cout H.size E) (va_A cin H.size)) (va_A cin H.size)) (w : wd D A H0 H locs (es ++ B)) (hA : ∀ q : Nat, H0.size ≤ q → A q) (isC isR : List Nat) (hC : isC.map (fun i => es[i]?) = cin.map some) (hR : isR.map (fun i => es[i]?) = wr.map some) (hn : va_nd isR = true) (hdis : ∀ i ∈ isR, i ∉ isC) (pm : List Nat) (hp1 : va_nd pm = true) (hp2 : pm.map (fun i => (wr ++ cout)[i]?) = es2.map some)
    (kx : ∀ (H1 : Heap) (locs1 : List Loc) (q9 : Addr) (ce : Cell), wd D A H0 H1 locs1 (es2 ++ B) → H1[q9]? = some ce → ce.vm = .none → s.vm.findClass E = some ce.cls → vx_W p l e R s m args below meth c H1 locs1 (cells + 1) (slots + 6) Q (F0 m pc ls rest) q9) : W p l e R s m args below meth c H locs cells slots Q (F0 m pc ls st0) := by
  have hF := va_free w.2.1 w.2.2 hA isC (tl_C hC)
  refine k_cx0 hQ hr w.2.2 hF fun H1 locs1 q9 ce hP1 hD1 k2 k3 => ?_
  obtain ⟨hP, hD⟩ := tl_join w hA hC hR hn hdis hp1 hp2 k2 hP1 hD1
  exact kx H1 locs1 q9 ce ⟨hP, hD, k3⟩
theorem k_cxB {Qa : State → Outcome → State → Prop} {es es2 B B2 ce co : va_W} (hQ : ∀ st oc t, Qa st oc t → False) (hr : vx_Run p l e R s m args below meth c H locs cells slots 1 6 (F0 m pc ls st0) rest Qa (vx_X (fun _ : Unit => True) (xpost D (ce ++ B) (co ++ B2) H.size E) (va_A (ce ++ B) H.size)) (va_A (ce ++ B) H.size)) (w : wd D A H0 H locs (es ++ B)) (hA : ∀ q : Nat, H0.size ≤ q → A q) (isC isR : List Nat) (hC : isC.map (fun i => es[i]?) = ce.map some) (hR : isR.map (fun i => es[i]?) = wr.map some) (hn : va_nd isR = true) (hdis : ∀ i ∈ isR, i ∉ isC) (pm : List Nat) (hp1 : va_nd pm = true) (hp2 : pm.map (fun i => (wr ++ co)[i]?) = es2.map some)
    (kx : ∀ (H1 : Heap) (locs1 : List Loc) (q9 : Addr) (ce : Cell), wd D A H0 H1 locs1 (es2 ++ B2) → H1[q9]? = some ce → ce.vm = .none → s.vm.findClass E = some ce.cls → vx_W p l e R s m args below meth c H1 locs1 (cells + 1) (slots + 6) Q (F0 m pc ls rest) q9) : W p l e R s m args below meth c H locs cells slots Q (F0 m pc ls st0) := by
  have hF := va_free w.2.1 w.2.2 hA _ (tl_R hC)
  refine k_cx0 hQ hr w.2.2 hF fun H1 locs1 q9 ce9 hP1 hD1 k2 k3 => ?_
  obtain ⟨hP, hD⟩ := tl_joinB w hA hC hR hn hdis hp1 hp2 k2 hP1 hD1
  exact kx H1 locs1 q9 ce9 ⟨hP, hD, k3⟩
/-- a static row is got and read -/
theorem k_gsA {C n : String} {b L index : Nat} {f : Nat → Int32} (X : cx p m c cc nL s args Ts own D tys) (h : SA C n b L f cI A s s.heap) (w : wd D A s.heap H locs ws) (hl : Cond.fieldLink own index C n "[I" ∈ Ts) (hdg : decode cc pc = .ok (.getstatic index, 3))
    (kk : W p l e R s m args below meth c H locs cells slots Q (F0 m (pc + 3) ls (.ref b :: rest))) : W p l e R s m args below meth c H locs cells slots Q (F0 m pc ls rest) := by
  obtain ⟨⟨hx, hb, hml, hown, hts⟩, hK, -⟩ := X
  exact va_gets hx hb h.1 w.2.2 hown (hts _ hl) (fun x h => h) hdg kk
theorem k_iaS {C n : String} {b L j : Nat} {f : Nat → Int32} (X : cx p m c cc nL s args Ts own D tys) (h : SA C n b L f cI A s s.heap) (w : wd D A s.heap H locs ws) (hj : j < L) (hL : L < 2 ^ 31) {i v : Int32} (hi : i = nI j) (hv : f j = v) (hdg : decode cc pc = .ok (.iaload, 1))
    (kk : W p l e R s m args below meth c H locs cells slots Q (F0 m (pc + 1) ls (.int v :: rest))) : W p l e R s m args below meth c H locs cells slots Q (F0 m pc ls (.int i :: .ref b :: rest)) := by
  obtain ⟨⟨hx, hb, hml, hown, hts⟩, hK, -⟩ := X
  obtain ⟨scr, h3, -⟩ := h.2.2.1
  refine va_sld hx hb h.2.1 (Array.getElem?_eq_some_iff.mp h3).1 h.2.2.2 w.2.2 (k_in hj hL hi) hdg ?_
  rw [hi, nI_clamp (by omega), hv]
  exact kk
/-- caught by the first row of the table, by the second past the first -/
theorem k_catch0 {s0 e0 h0 t0 : Nat} {hh : List (Nat × Nat × Nat × Nat)} {q : Addr} {ce : Cell} (X : cx p m c cc nL s args Ts own D tys) (htab : c.exceptionTable.toList = tableOf ((s0, e0, h0, t0) :: hh)) (hcov : covers ⟨s0, e0, h0, t0⟩ pc = true) (ht : t0 ≠ 0) (hl : Cond.classLink own t0 E ∈ Ts) (hc : Cond.castable E E ∈ txw) (h1 : H[q]? = some ce) (h2 : ce.vm = .none) (h3 : s.vm.findClass E = some ce.cls)
    (kk : W p l e R s m args below meth c H locs cells slots Q (F0 m h0 ls [.ref q])) : vx_W p l e R s m args below meth c H locs cells slots Q (F0 m pc ls rest) q :=
  vx_catch X.1.2.2.2.1 [] ⟨s0, e0, h0, t0⟩ (tableOf hh) htab (fun z hz => nomatch hz) hcov ht (X.1.2.2.2.2 _ hl) (va_Nw.use rfl (X.2.2 _ hc)) h1 h2 h3 kk
theorem k_catch1 {s0 e0 h0 t0 s1 e1 h01 t1 : Nat} {hh : List (Nat × Nat × Nat × Nat)} {q : Addr} {ce : Cell} {E0 : String} (X : cx p m c cc nL s args Ts own D tys) (htab : c.exceptionTable.toList = tableOf ((s0, e0, h0, t0) :: (s1, e1, h01, t1) :: hh)) (ht0 : t0 ≠ 0) (hl0 : Cond.classLink own t0 E0 ∈ Ts) (hn : va_Nc E E0 s) (hcov : covers ⟨s1, e1, h01, t1⟩ pc = true) (ht : t1 ≠ 0) (hl : Cond.classLink own t1 E ∈ Ts) (hc : Cond.castable E E ∈ txw) (h1 : H[q]? = some ce) (h2 : ce.vm = .none) (h3 : s.vm.findClass E = some ce.cls)
    (kk : W p l e R s m args below meth c H locs cells slots Q (F0 m h01 ls [.ref q])) : vx_W p l e R s m args below meth c H locs cells slots Q (F0 m pc ls rest) q :=
  vx_catch X.1.2.2.2.1 [⟨s0, e0, h0, t0⟩] ⟨s1, e1, h01, t1⟩ (tableOf hh) htab (fun z hz => by
    rw [List.mem_singleton.mp hz]
    exact Or.inr ⟨ht0, E0, X.1.2.2.2.2 _ hl0, hn⟩) hcov ht (X.1.2.2.2.2 _ hl) (va_Nw.use rfl (X.2.2 _ hc)) h1 h2 h3 kk
/-- the law's cell for an answer -/
theorem aL_upd {x0 x : Int64} : vp_updL (fun j => if j = 0 then x0 else 0) 0 x = fun j => if j = 0 then x else 0 := by
  funext j
  by_cases h : j = 0
  · subst h; simp [vp_updL]
  · simp [vp_updL, h]
theorem k_last {cJ : ClassId} {x0 x : Int64} (X : cx p m c cc nL s args Ts own D tys) (w : wd D A H0 H locs ws) (q0 : Nat) (he : ws[q0]? = some (aL cJ a x0)) (ht : tys[1]? = some (cJ, .long)) (hws : ws.set q0 (aL cJ a x) = ws2) (hdg : decode cc pc = .ok (.lastore, 1))
    (kk : ∀ (H1 : Heap) (locs1 : List Loc), wd D A H0 H1 locs1 ws2 → W p l e R s m args below meth c H1 locs1 cells slots Q (F0 m (pc + 1) ls rest)) : W p l e R s m args below meth c H locs cells slots Q (F0 m pc ls (.long x :: .int 0 :: .ref a :: rest)) := by
  obtain ⟨⟨hx, hb, hml, hown, hts⟩, hK, -⟩ := X
  refine va_last hx hb hK w.1 w.2.1 w.2.2 q0 1 he ht (k_in (j := 0) (by decide) (by decide) rfl) hdg ?_
  intro H1 locs1 h1 h2 h3
  rw [show (0 : Int32).toNatClampNeg = 0 by decide, aL_upd] at h1 h2
  exact kk H1 locs1 ⟨hws ▸ h1, hws ▸ h2, h3⟩
theorem k_lald {cJ : ClassId} {x0 : Int64} (X : cx p m c cc nL s args Ts own D tys) (w : wd D A H0 H locs ws) (q0 : Nat) (he : ws[q0]? = some (aL cJ a x0)) (ht : tys[1]? = some (cJ, .long)) (hdg : decode cc pc = .ok (.laload, 1))
    (kk : W p l e R s m args below meth c H locs cells slots Q (F0 m (pc + 1) ls (.long x0 :: rest))) : W p l e R s m args below meth c H locs cells slots Q (F0 m pc ls (.int 0 :: .ref a :: rest)) := by
  obtain ⟨⟨hx, hb, hml, hown, hts⟩, hK, -⟩ := X
  refine va_lald hx hb hK w.1 q0 1 he ht (k_in (j := 0) (by decide) (by decide) rfl) hdg ?_
  rw [show (0 : Int32).toNatClampNeg = 0 by decide]
  exact kk
/-- what a throw site's words say -/
def thW (ik ic : Nat) (E : String) : Prop := Bundle.fit E = true ∧ ((vx_atS RX5 ic E ["java/lang/RuntimeException", "java/lang/Exception"]).all fun w => goodWord w || decide (w = Cond.castable E E) || dcX.any (fun x => decide (w = Cond.declares x))) = true ∧ ((Cond.classLink RX5 ik E :: Cond.initialized E :: vx_atS RX5 ic E ["java/lang/RuntimeException", "java/lang/Exception"]).all vx_ot) = true ∧ Cond.castable E E ∈ txw
theorem k_thr {ik is ic : Nat} {tx : String} {Qc : Array Value → State → Outcome → State → Prop} (hst : l.stackTraces = false) (X : cx p m c cc nL s args Ts RX5 D tys) (ox : OX o cI A s s.heap) (w : wd D A s.heap H locs ws) (hE : thW ik ic E) (hk : Cond.classLink RX5 ik E ∈ Ts) (hi : Cond.initialized E ∈ Ts) (hg : ∀ w ∈ (vx_atS RX5 ic E ["java/lang/RuntimeException", "java/lang/Exception"]).filter goodWord, w ∈ Ts) (hs : (is, tx) ∈ strX) (hsz : ls.size = nL)
    (d0 : decode cc pc = .ok (.new ik, 3)) (d3 : decode cc (pc + 3) = .ok (.dup, 1)) (d4 : decode cc (pc + 4) = .ok (.ldc is, 2)) (d6 : decode cc (pc + 6) = .ok (.invokespecial ic, 3)) (d9 : decode cc (pc + 9) = .ok (.athrow, 1)) (hout : ∀ x ∈ c.exceptionTable.toList, False) (hlocks : meth.locks = false) (hR : 5 < R.frames ∧ 90 ≤ R.locals ∧ 1 ≤ R.cells ∧ 6 ≤ R.slots) (hstk : (rest.map fun v => v.category).sum ≤ 8) :
    W p l e R s m args below meth c H locs 0 0 (vx_MQ below Qc (vx_X (fun _ : Unit => True) (fun E2 _ t => E2 = E ∧ va_P D vwCl ws t.heap ∧ va_D A ws) A) args s 1 6 A) (F0 m pc ls rest) := by
  obtain ⟨⟨hx, hb, hml, hown, hts⟩, hK, hTX⟩ := X
  obtain ⟨f1, f2, f3, f4⟩ := hE
  refine vx_throwS (A := A) (names := ["java/lang/RuntimeException", "java/lang/Exception"]) (text := tx) hx hb hst hown f1 (by decide +kernel) (hts _ hk) (hts _ hi) (ox.2.2.1 _ hs) ?_ (fun w hw => List.all_eq_true.mp f3 w hw) ox.1 ox.2.1 w.2.2 (hsz.trans hml.symm) d0 d3 d4 d6 d9 (fun x hx => (hout x hx).elim) hR.1 (by show _ + 82 ≤ R.locals; omega) (by omega) (by omega) hlocks ?_ w.2.2.2.2 (Nat.le_refl _) (Nat.le_refl _)
  · intro w hw
    by_cases g : goodWord w = true
    · exact hts _ (hg w (List.mem_filter.mpr ⟨hw, g⟩))
    · have h2 := List.all_eq_true.mp f2 w hw
      simp only [Bool.or_eq_true, decide_eq_true_eq, List.any_eq_true] at h2
      rcases h2 with (h2 | h2) | ⟨x, hx2, h2⟩
      · exact absurd h2 g
      · rw [h2]
        exact va_Nw.use rfl (hTX _ f4)
      · rw [h2]
        exact va_Nw.use rfl (ox.2.2.2.2.2.2.2.2.1 x hx2)
  · intro t ha hz hq
    refine ⟨(), trivial, ⟨rfl, fun k q hk => (w.1 k q hk).kept (hq _ ((w.1 k q hk).lt)), w.2.1⟩, Nat.le_trans w.2.2.1 hz, fun q h1 h2 => (hq q (Nat.lt_of_lt_of_le h1 w.2.2.1)).trans (w.2.2.2.1 q h1 h2)⟩
end KITD
theorem thW_b : thW 123 127 "java/lang/IndexOutOfBoundsException" := ⟨by decide +kernel, by decide +kernel, by decide +kernel, by decide +kernel⟩
theorem thW_a : thW 152 156 "java/lang/IllegalArgumentException" := ⟨by decide +kernel, by decide +kernel, by decide +kernel, by decide +kernel⟩
theorem thW_s : thW 101 105 "java/lang/IllegalStateException" := ⟨by decide +kernel, by decide +kernel, by decide +kernel, by decide +kernel⟩
section KITE
variable {l : Launch} {D : va_G} {tys : List (ClassId × FieldType)} {y : MethodName} {ws ws9 : List Cond} {rm : Room} {av : List Value} {cin cout : va_W} {cc : ByteArray} {maxL : Nat} {o : Nat → Nat} {cI : ClassId} {E : String}
theorem CX.of {ret : Option FieldType} (hst : l.stackTraces = false) (hy : plainName y.cls = true) (hyc : y.cls = RX5) (hw : ws = Cond.code y cc maxL ret :: ws9) (hlen : (lg_sl av).length ≤ maxL)
    (body : ∀ (p : Program) (e : Env) (s : State) (m : MethodId) (below : List Frame) (meth : Method) (c : Code) (A : Nat → Prop) (ls : Array Slot) (Q : State → Prop), cx p m c cc maxL s av.toArray ws y.cls D tys → (∀ q : Nat, s.heap.size ≤ q → A q) → wd D A s.heap s.heap [] cin → OX o cI A s s.heap → lv_has ls maxL (lv_args 0 av) →
      (∀ (H : Heap) (locs : List Loc) (pc : Nat) (ls : Array Slot) (rest : List Value) (ik is ic : Nat) (tx : String), wd D A s.heap H locs cout → thW ik ic E → Cond.classLink RX5 ik E ∈ ws → Cond.initialized E ∈ ws → (∀ w ∈ (vx_atS RX5 ic E ["java/lang/RuntimeException", "java/lang/Exception"]).filter goodWord, w ∈ ws) → (is, tx) ∈ strX → ls.size = maxL → decode cc pc = .ok (.new ik, 3) → decode cc (pc + 3) = .ok (.dup, 1) → decode cc (pc + 4) = .ok (.ldc is, 2) → decode cc (pc + 6) = .ok (.invokespecial ic, 3) → decode cc (pc + 9) = .ok (.athrow, 1) → (5 < rm.frames ∧ 90 ≤ rm.locals ∧ 1 ≤ rm.cells ∧ 6 ≤ rm.slots) → (rest.map fun v => v.category).sum ≤ 8 → W p l e rm s m av.toArray below meth c H locs 0 0 Q (F0 m pc ls rest)) →
      (∀ (H : Heap) (locs : List Loc) (pc : Nat) (ls : Array Slot) (rest : List Value) (q9 : Addr) (ce : Cell), wd D A s.heap H locs cout → H[q9]? = some ce → ce.vm = .none → s.vm.findClass E = some ce.cls → vx_W p l e rm s m av.toArray below meth c H locs 1 6 Q (F0 m pc ls rest) q9) →
      W p l e rm s m av.toArray below meth c s.heap [] 0 0 Q (F0 m 0 ls [])) : CX l D tys o cI y ws rm av cin cout E := by
  intro sz
  refine vx_ofW (cc := cc) (maxL := maxL) (ret := ret) hy hw ?_
  intro p e s m args below meth c s1 B hml htab hv
  obtain ⟨hv0, hv1, ox⟩ := hv
  obtain ⟨rfl, rfl, X, w⟩ := k_begin B hml ⟨hv0, hv1⟩
  have hlocks := B.notSynchronized
  rw [lg_entry_eq]
  refine body p e s m below meth c (va_A cin s.heap.size) _ _ X (fun q h => Or.inr h) w ox (lv_entry av hlen) ?_ ?_
  · intro H locs pc ls rest ik is ic tx w1 hE hk hi hg hs hsz d0 d3 d4 d6 d9 hR hstk
    rw [hyc] at X
    exact k_thr hst X ox w1 hE hk hi hg hs hsz d0 d3 d4 d6 d9 htab hlocks hR hstk
  · intro H locs pc ls rest q9 ce w1 hcell hcv hcl
    exact vx_out (fun x hx => (htab x hx).elim) hlocks hcell hcv hcl (fun t ht ha => ⟨(), trivial, ⟨rfl, by rw [ht]; exact w1.1, w1.2.1⟩, w1.2.2.F ht⟩) w1.2.2.2.2 (Nat.le_refl _) (Nat.le_refl _)
/-- as Met.ofP, for a method with handlers -/
theorem Met.ofH {ret : Option FieldType} {hh : List (Nat × Nat × Nat × Nat)} {Pc : Array Value → State → Prop} {Qc : Array Value → State → Outcome → State → Prop} {mc ms : Nat} {free : Addr → Prop} (hy : plainName y.cls = true) (hw : ws = Cond.codeWith y cc maxL ret hh :: ws9)
    (body : ∀ p e s m args below meth c s₁, BodyLoose p l y (headSpec ws rm) cc maxL ret e s m args below meth c s₁ → c.maxLocals = maxL → c.exceptionTable.toList = tableOf hh → Pc args s →
      W p l e (headSpec ws rm).room s m args below meth c s.heap [] 0 0 (MQ below Qc args s mc ms free) (entryFrame m args maxL)) : Met l y ws rm Pc Qc mc ms free := by
  refine MetFree.of_bodyS (code := cc) (maxLocals := maxL) (ret := ret) hy ?_ ?_
  · intro args s m h hn
    obtain ⟨m9, meth, c, hn9, h1, h2, h3, h4, -, h5, h6, -⟩ := Cond.codeWith_spec (atoms_spec (ws := ws) h _ (by rw [hw]; exact List.mem_cons_self))
    cases hn.symm.trans hn9
    exact ⟨meth, c, h1, h2, h3, h4, h5, h6⟩
  · intro p e s m args below meth c s₁ B hml hP _
    have hh0 : s₁.heap = s.heap := by rw [B.state]; rfl
    obtain ⟨t, a1, o, b1, b2, b3⟩ := body p e s m args below meth c s₁ B hml (vx_table (x := y) B (atoms_spec (ws := ws) B.pre _ (by rw [hw]; exact List.mem_cons_self))) hP s₁ hh0 (Stand.of_body B)
    exact ⟨t, o, a1, b1, b2, ⟨b3.1, b3.2⟩⟩
/-- a method with handlers that answers an int: 1 cell, 6 slots at most -/
theorem CIm.ofH {hh : List (Nat × Nat × Nat × Nat)} {ty : FieldType} {r : Int32} (hy : plainName y.cls = true) (hw : ws = Cond.codeWith y cc maxL (some ty) hh :: ws9) (hlen : (lg_sl av).length ≤ maxL) (hn : narrow ty (.int r) = .int r)
    (body : ∀ (p : Program) (e : Env) (s : State) (m : MethodId) (below : List Frame) (meth : Method) (c : Code) (A : Nat → Prop) (ls : Array Slot) (Q : State → Prop), cx p m c cc maxL s av.toArray ws y.cls D tys → (∀ q : Nat, s.heap.size ≤ q → A q) → wd D A s.heap s.heap [] cin → OX o cI A s s.heap → c.exceptionTable.toList = tableOf hh → lv_has ls maxL (lv_args 0 av) →
      (∀ (H : Heap) (locs : List Loc) (cells slots pc : Nat) (ls : Array Slot) (v : Int32), wd D A s.heap H locs cout → v = r → decode cc pc = .ok (.ireturn, 1) → cells ≤ 1 → slots ≤ 6 → W p l e rm s m av.toArray below meth c H locs cells slots Q (F0 m pc ls [.int v])) →
      W p l e rm s m av.toArray below meth c s.heap [] 0 0 Q (F0 m 0 ls [])) : CIm l D tys o cI y ws rm 1 6 av cin r cout := by
  intro sz
  refine Met.ofH (cc := cc) (maxL := maxL) (ret := some ty) hy hw ?_
  intro p e s m args below meth c s1 B hml htab hv
  obtain ⟨hv0, hv1, ox⟩ := hv
  obtain ⟨rfl, rfl, X, w⟩ := k_begin B hml ⟨hv0, hv1⟩
  rw [lg_entry_eq]
  refine body p e s m below meth c (va_A cin s.heap.size) _ _ X (fun q h => Or.inr h) w ox htab (lv_entry av hlen) ?_
  intro H locs cells slots pc ls v w1 hv1 hdg hc hs
  subst hv1
  have hlocks := B.notSynchronized
  refine W.wide hc hs ?_
  exact W.zret (ty := ty) X.1.1 X.1.2.1 B.returns hn (fun t ht hW => ⟨⟨v, (), rfl, rfl, by rw [ht]; exact w1.1, va_K.moved hW.alike X.2.1, w1.2.1⟩, w1.2.2.F ht⟩) w1.2.2.2.2 hdg
/-- a method that wants what lies outside and answers an int -/
theorem CIm.of {ty : FieldType} {r : Int32} (hy : plainName y.cls = true) (hw : ws = Cond.code y cc maxL (some ty) :: ws9) (hlen : (lg_sl av).length ≤ maxL) (hn : narrow ty (.int r) = .int r)
    (body : ∀ (p : Program) (e : Env) (s : State) (m : MethodId) (below : List Frame) (meth : Method) (c : Code) (A : Nat → Prop) (ls : Array Slot) (Q : State → Prop), cx p m c cc maxL s av.toArray ws y.cls D tys → (∀ q : Nat, s.heap.size ≤ q → A q) → wd D A s.heap s.heap [] cin → OX o cI A s s.heap → lv_has ls maxL (lv_args 0 av) →
      (∀ (H : Heap) (locs : List Loc) (pc : Nat) (ls : Array Slot) (v : Int32), wd D A s.heap H locs cout → v = r → decode cc pc = .ok (.ireturn, 1) → W p l e rm s m av.toArray below meth c H locs 0 0 Q (F0 m pc ls [.int v])) →
      W p l e rm s m av.toArray below meth c s.heap [] 0 0 Q (F0 m 0 ls [])) : CIm l D tys o cI y ws rm 0 0 av cin r cout := by
  intro sz
  refine Met.ofW (cc := cc) (maxL := maxL) (ret := some ty) hy hw ?_
  intro p e s m args below meth c s1 B hml hv
  obtain ⟨hv0, hv1, ox⟩ := hv
  obtain ⟨rfl, rfl, X, w⟩ := k_begin B hml ⟨hv0, hv1⟩
  rw [lg_entry_eq]
  refine body p e s m below meth c (va_A cin s.heap.size) _ _ X (fun q h => Or.inr h) w ox (lv_entry av hlen) ?_
  intro H locs pc ls v w1 hv1 hdg
  subst hv1
  have hlocks := B.notSynchronized
  exact W.zret (ty := ty) X.1.1 X.1.2.1 B.returns hn (fun t ht hW => ⟨⟨v, (), rfl, rfl, by rw [ht]; exact w1.1, va_K.moved hW.alike X.2.1, w1.2.1⟩, w1.2.2.F ht⟩) w1.2.2.2.2 hdg
end KITE
