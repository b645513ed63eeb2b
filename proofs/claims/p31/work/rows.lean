section
-- ===== PART A: goes FIRST, ahead of the names: the tables' words, and 'selects' of the private methods out of them =====
/-- a private method of a class that the tables say can be made, by its rows of tables_1 -/
def lw_okq (q : MethodName × Nat) : Prop := (q.1.cls ≠ "java/lang/invoke/MethodHandle" ∧ q.1.cls ≠ "java/lang/invoke/VarHandle") ∧ Cond.instantiable q.1.cls q.2 ∈ tables_1 ∧ Cond.privateMethod q.1 ∈ tables_1 ∧ Cond.instanceMethod q.1 ∈ tables_1
theorem lw_p0 : lw_okq (⟨"java/lang/Throwable", "fillInStackTrace", "(I)Ljava/lang/Throwable;"⟩, 6) := ⟨⟨by decide +kernel, by decide +kernel⟩, List.mem_of_getElem? (i := 266) (by decide +kernel), List.mem_of_getElem? (i := 264) (by decide +kernel), List.mem_of_getElem? (i := 265) (by decide +kernel)⟩
theorem lw_p1 : lw_okq (⟨"WatchPoses", "poseNumber", "(II)I"⟩, 6) := ⟨⟨by decide +kernel, by decide +kernel⟩, List.mem_of_getElem? (i := 16) (by decide +kernel), List.mem_of_getElem? (i := 383) (by decide +kernel), List.mem_of_getElem? (i := 384) (by decide +kernel)⟩
theorem lw_p2 : lw_okq (⟨"WatchPoses", "readingNumber", "(II)I"⟩, 6) := ⟨⟨by decide +kernel, by decide +kernel⟩, List.mem_of_getElem? (i := 16) (by decide +kernel), List.mem_of_getElem? (i := 446) (by decide +kernel), List.mem_of_getElem? (i := 447) (by decide +kernel)⟩
theorem lw_p3 : lw_okq (⟨"WatchPoses", "wornNumber", "(IIII)I"⟩, 6) := ⟨⟨by decide +kernel, by decide +kernel⟩, List.mem_of_getElem? (i := 16) (by decide +kernel), List.mem_of_getElem? (i := 483) (by decide +kernel), List.mem_of_getElem? (i := 484) (by decide +kernel)⟩
theorem lw_p4 : lw_okq (⟨"WatchPoses$Watch", "runHour", "()V"⟩, 11) := ⟨⟨by decide +kernel, by decide +kernel⟩, List.mem_of_getElem? (i := 30) (by decide +kernel), List.mem_of_getElem? (i := 492) (by decide +kernel), List.mem_of_getElem? (i := 493) (by decide +kernel)⟩
theorem lw_p5 : lw_okq (⟨"WatchPoses", "countNumber", "(I)I"⟩, 6) := ⟨⟨by decide +kernel, by decide +kernel⟩, List.mem_of_getElem? (i := 16) (by decide +kernel), List.mem_of_getElem? (i := 520) (by decide +kernel), List.mem_of_getElem? (i := 521) (by decide +kernel)⟩
theorem lw_p6 : lw_okq (⟨"WatchPoses", "hoursUntilStop", "(I)I"⟩, 6) := ⟨⟨by decide +kernel, by decide +kernel⟩, List.mem_of_getElem? (i := 16) (by decide +kernel), List.mem_of_getElem? (i := 563) (by decide +kernel), List.mem_of_getElem? (i := 564) (by decide +kernel)⟩
def lw_privs_1 : List (MethodName × Nat) := [(⟨"java/lang/Throwable", "fillInStackTrace", "(I)Ljava/lang/Throwable;"⟩, 6), (⟨"WatchPoses", "poseNumber", "(II)I"⟩, 6), (⟨"WatchPoses", "readingNumber", "(II)I"⟩, 6), (⟨"WatchPoses", "wornNumber", "(IIII)I"⟩, 6), (⟨"WatchPoses$Watch", "runHour", "()V"⟩, 11), (⟨"WatchPoses", "countNumber", "(I)I"⟩, 6), (⟨"WatchPoses", "hoursUntilStop", "(I)I"⟩, 6)]
theorem lw_r1 : ∀ q ∈ lw_privs_1, lw_okq q := List.forall_mem_cons.mpr ⟨lw_p0, List.forall_mem_cons.mpr ⟨lw_p1, List.forall_mem_cons.mpr ⟨lw_p2, List.forall_mem_cons.mpr ⟨lw_p3, List.forall_mem_cons.mpr ⟨lw_p4, List.forall_mem_cons.mpr ⟨lw_p5, List.forall_mem_cons.mpr ⟨lw_p6, fun _ h => absurd h List.not_mem_nil⟩⟩⟩⟩⟩⟩⟩
def lw_privs : List (MethodName × Nat) := lw_privs_1
def lw_tbl : List Cond := k2_sels lw_privs ++ tables_1
theorem lw_privs_ok : ∀ q ∈ lw_privs, lw_okq q := lw_r1
/-- the streams that the claim lets the run draw from -/
abbrev lw_cs : List Choice := [Jvm.Choice.named "NaN.bits"]
theorem lw_bits : nanBits ∈ lw_cs := by first | decide | exact List.mem_cons_self | simp [lw_cs, nanBits]
-- ===== end of PART A; then your names; then what follows =====
end
section
/-! ===== BEGIN words of one list among another's, by their places ===== -/
theorem goodIn_r {big : List Cond} (ws : List Cond) (ps : List Nat) (hp : ws = ps.filterMap (fun i => big[i]?)) (h : ws.all goodWord = true) : GoodIn big ws := by
  intro w hw
  have h1 := List.all_eq_true.mp h w hw
  rw [hp] at hw
  obtain ⟨i, -, hi⟩ := List.mem_filterMap.mp hw
  have hm : w ∈ big := by first | exact List.mem_of_getElem? hi | exact List.getElem?_mem hi
  exact ⟨hm, good_of_word h1⟩
theorem goodIn_app {big a b : List Cond} (ha : GoodIn big a) (hb : GoodIn big b) : GoodIn big (a ++ b) := fun w h => (List.mem_append.mp h).elim (ha w) (hb w)
theorem goodIn_ca {big a b : List Cond} {c : Cond} (ha : GoodIn big (c :: a)) (hb : GoodIn big b) : GoodIn big (c :: (a ++ b)) := fun w h => (List.mem_cons.mp h).elim (fun e => ha w (List.mem_cons.mpr (Or.inl e))) (fun h => (List.mem_append.mp h).elim (fun h => ha w (List.mem_cons.mpr (Or.inr h))) (hb w))
theorem goodIn_sub {big ws : List Cond} (hm : ∀ w ∈ ws, w ∈ big) (h : ws.all goodWord = true) : GoodIn big ws := fun w hw => ⟨hm w hw, good_of_word (List.all_eq_true.mp h w hw)⟩
/-! ===== END ===== -/

/-! ===== BEGIN exceptions that leave a method, and their catching by the caller (launches without stack traces) ===== -/
section VXA
/-! The laws vx_back, vx_callV, vx_callS, vx_callSW, vx_throw0, vx_throwS follow proofs of the library, with one case more: JvmDerived/Free/Laws.lean (Back.of_free), Shelf42/LK1.lean (callV, callS), Shelf/KitTraced.lean (throwNew0V, throwNewS). -/
/-- where a method has thrown q: the class by its name, the cell, what was written, the world -/
def vx_T (XC : String → State → State → Prop) (st : State) (q : Addr) (t : State) (mc ms : Nat) (free : Addr → Prop) : Prop :=
  ∃ (E : String) (ce : Cell) (L : List Loc), XC E st t ∧ t.heap[q]? = some ce ∧ ce.vm = .none ∧ st.vm.findClass E = some ce.cls ∧ st.WarmedH t.vm ∧ st.sameButNew ({ t with vm := st.vm } : State) L mc ms ∧ ∀ z ∈ L, free z.base
def vx_Q (Qc : Array Value → State → Outcome → State → Prop) (XC : String → State → State → Prop) (mc ms : Nat) (free : Addr → Prop) : Array Value → State → Outcome → State → Prop := fun a st o t =>
  (Qc a st o t ∧ ∃ L, FrameEnd st o t L mc ms ∧ ∀ q ∈ L, free q.base) ∨ ∃ q, o = .threw q ∧ vx_T XC st q t mc ms free
/-- a callee that returns or throws -/
def vx_Met (l : Launch) (y : MethodName) (ws : List Cond) (rm : Room) (Pc : Array Value → State → Prop) (Qc : Array Value → State → Outcome → State → Prop) (XC : String → State → State → Prop) (mc ms : Nat) (free : Addr → Prop) : Prop :=
  MetFree l y (headSpec ws rm) Pc (fun _ _ _ _ _ => True) (vx_Q Qc XC mc ms free)
def vx_Post (XC : String → State → State → Prop) (mc ms : Nat) (free : Addr → Prop) : Pt → Array Value → Addr → Pt → Prop := fun A a q B =>
  ∃ (g : JFrame) (mk : MethodId) (t : State) (L : List Loc) (E : String) (ce : Cell), B.U.heap = t.heap ∧ B.U.vm = t.vm ∧ XC E (A.U.calling g mk a) t ∧ t.heap[q]? = some ce ∧ ce.vm = .none ∧ A.U.vm.findClass E = some ce.cls ∧ B.locs = A.locs ++ L ∧ (∀ z ∈ L, free z.base) ∧ B.cells = A.cells + mc ∧ B.slots = A.slots + ms
def vx_Back (l : Launch) (R : Room) (p : Program) (e : Env) (below : List Frame) (s : State) (sargs : Array Value) (y : MethodName) (len W9 : Nat)
    (Pre : Pt → Array Value → Prop) (Post : Pt → Array Value → Option Value → Pt → Prop) (PostX : Pt → Array Value → Addr → Pt → Prop) : Prop :=
  ∀ (m : MethodId) (meth : Method) (c : Code) (A : Pt) (g : JFrame) (ig : Instr) (mk : MethodId) (a : Array Value),
    Stand p l e R s m sargs below meth c A.U A.locs A.cells A.slots → g.method = m → g.locals.size = c.maxLocals → decode c.code g.pc = .ok (ig, len) →
    2 * g.monitorRoom + (g.stack.map fun v => v.category).sum ≤ W9 → A.U.methodNamed? y = some mk → Pre A a →
    (∃ (v : Option Value) (B : Pt), Stand p l e R s m sargs below meth c B.U B.locs B.cells B.slots ∧ Post A a v B ∧
      Steps p.tables e below (doInvoke e (A.U.setTop g) [] mk a).1 (B.U.setTop { g with pc := g.pc + len, stack := v.toList ++ g.stack })) ∨
    (∃ (q : Addr) (B : Pt), Stand p l e R s m sargs below meth c B.U B.locs B.cells B.slots ∧ PostX A a q B ∧
      Steps p.tables e below (doInvoke e (A.U.setTop g) [] mk a).1 ((B.U.setTop g).pushFrame (.throwing q)))
section Payer
variable {l : Launch} {R : Room} {p : Program} {e : Env} {below : List Frame} {s : State} {sargs : Array Value} {y : MethodName} {len W9 : Nat}
theorem vx_back {ws : List Cond} {rm : Room} {Pc : Array Value → State → Prop} {Qc : Array Value → State → Outcome → State → Prop} {XC : String → State → State → Prop} {mc ms : Nat} {free : Addr → Prop} {bytes : ByteArray} {maxL : Nat} {ret : Option FieldType}
    (hM : vx_Met l y ws rm Pc Qc XC mc ms free) (hblind : FrameBlind Pc) (hrc : rm.cells = mc) (hrs : rm.slots = ms)
    (hframes : rm.frames + 1 ≤ R.frames) (hlocals : W9 + (maxL + 11) + rm.locals ≤ R.locals)
    (hws : ∀ w ∈ ws, ∀ a' U, s.WarmedH U.vm → w.before a' U = true) (hcode : Cond.code y bytes maxL ret ∈ ws) (hinit : ∀ a' U, s.WarmedH U.vm → (Cond.initialized y.cls).before a' U = true) :
    vx_Back l R p e below s sargs y len W9 (PreOf R mc ms Pc) (PostOf Qc mc ms free) (vx_Post XC mc ms free) := by
  intro m meth c A g ig mk a X hg hsize hdg hW hn hp
  have h1 : (headSpec ws rm).pre.before a A.U = true := atoms_intro fun w hw => hws w hw _ _ X.warmed
  have h2 : (Cond.code y bytes maxL ret).before a A.U = true := hws _ hcode _ _ X.warmed
  have h3 : (Cond.initialized y.cls).before a A.U = true := hinit _ _ X.warmed
  have h4 : A.cells + (headSpec ws rm).room.cells ≤ R.cells := by rw [show (headSpec ws rm).room.cells = mc from hrc]; exact hp.1
  have h5 : A.slots + (headSpec ws rm).room.slots ≤ R.slots := by rw [show (headSpec ws rm).room.slots = ms from hrs]; exact hp.2.1
  have hPc : Pc a (A.U.calling g mk a) := hblind _ _ _ _ hp.2.2
  obtain ⟨U, Ls, c0, s0⟩ := A
  dsimp only [Pt.U, Pt.locs, Pt.cells, Pt.slots] at h1 h2 h3 h4 h5 X hn hPc ⊢
  obtain ⟨methY, cY, hmY, hcY, -, hlY, -, -, -, -⟩ := Cond.code_spec hn h2
  obtain ⟨kY, hkY, -⟩ := className_of_methodNamed hn
  have hinitY : kY.init = .initialized := Cond.initialized_spec (findClass_of_methodNamed hn) hkY h3
  have h : At U g.method c below := by rw [hg]; exact X.here
  have hlocals9 : W9 + (maxL + 11) + (headSpec ws rm).room.locals ≤ R.locals := hlocals
  have happ : (headSpec ws rm).appliesLoose y e.platform (U.calling g mk a) = true :=
    Spec.appliesLoose_calling (g := g) h hdg hn hkY hinitY
      (X.room_calling (g := g) (R' := (headSpec ws rm).room) hsize hmY hcY hframes (by rw [hlY]; omega) h4 h5) h1
  obtain ⟨mid, hmid⟩ := h.above
  have hfr : (U.setTop g).frames = (.java g :: mid) ++ below := by rw [State.frames_setTop' g h.top, hmid]; rfl
  obtain ⟨o, s₂, hsteps, -, hend, hq⟩ := Steps.callFree hM p X.admits X.cas X.clock (acts := []) hfr happ hPc trivial
  have hq' : vx_Q Qc XC mc ms free a (U.calling g mk a) o s₂ := hq
  rw [State.frames_setTop' g h.top] at hend
  obtain ⟨g₀, hg0⟩ := Option.isSome_iff_exists.mp h.top
  obtain ⟨r, hr⟩ := State.topJava?_eq_some.mp hg0
  have hr' : (({ U with heap := s₂.heap, slotsUsed := s₂.slotsUsed } : State).setVm s₂.vm).frames = .java g₀ :: r := hr
  rcases hq' with ⟨hqc, L, hfe, hL⟩ | ⟨q, rfl, E, ce, L, hx, hce, hcv, hcl, hW₂, hsm, hL⟩
  · obtain ⟨⟨v, rfl⟩, hW₂, e2, q2, q3, q4, q5, q6⟩ := id hfe
    have e3 : s₂ = ({ (U.calling g mk a).setFrames s₂.frames with heap := s₂.heap, slotsUsed := s₂.slotsUsed } : State).setVm s₂.vm := by
      have : s₂ = ({ s₂ with vm := (U.calling g mk a).vm } : State).setVm s₂.vm := rfl
      rw [e2] at this
      exact this
    obtain ⟨c₂, i₂, len₂, hc₂, hd₂, hf₂⟩ := hend
    have hW' : U.WarmedH s₂.vm := hW₂
    have hcc : c₂ = c := by
      have h1 : s₂.code? g.method = U.code? g.method := by
        rw [State.code?_eq, State.code?_eq, hW'.alike.method?]
      exact Option.some.inj (hc₂.symm.trans (h1.trans h.code))
    subst hcc
    have hlen : len₂ = len := by rw [hdg] at hd₂; cases hd₂; rfl
    subst hlen
    have hs₂ : s₂ = (({ U with heap := s₂.heap, slotsUsed := s₂.slotsUsed } : State).setVm s₂.vm).setTop { g with pc := g.pc + len₂, stack := v.toList ++ g.stack } := by
      refine e3.trans ?_
      rw [hf₂, State.calling_eq h.top, State.setFrames_setFrames, State.setTop_of_frames _ hr', hr]
      rfl
    have hsame : U.sameButNew ({ U with heap := s₂.heap, slotsUsed := s₂.slotsUsed } : State) L mc ms := by
      refine ⟨?_, q2, q3, q4, q5, q6⟩
      obtain ⟨t, ht, -⟩ := State.frames_cons hr
      show ({ U with heap := s₂.heap, slotsUsed := s₂.slotsUsed } : State) = { U.setFrames U.frames with heap := s₂.heap, slotsUsed := s₂.slotsUsed }
      rw [State.setFrames_self ht]
    subst hg
    refine Or.inl ⟨v, ⟨(({ U with heap := s₂.heap, slotsUsed := s₂.slotsUsed } : State).setVm s₂.vm), Ls ++ L, c0 + mc, s0 + ms⟩,
      ⟨X.admits, X.cas, X.clock, X.frames, X.room, X.hears, X.method, X.code, (X.here.setHeapUsed s₂.heap s₂.slotsUsed).setVm hW'.alike, X.tail, State.WarmedH.trans X.warmed hW', X.limits, X.bytes, X.same.trans (hsame.setVm s.vm)⟩,
      ⟨g, mk, s₂, L, rfl, rfl, hqc, rfl, hL, rfl, rfl⟩, ?_⟩
    show Steps p.tables e below _ ((({ U with heap := s₂.heap, slotsUsed := s₂.slotsUsed } : State).setVm s₂.vm).setTop { g with pc := g.pc + len₂, stack := v.toList ++ g.stack })
    rw [← hs₂]
    exact hsteps
  · obtain ⟨e2, q2, q3, q4, q5, q6⟩ := id hsm
    have e3 : s₂ = ({ (U.calling g mk a).setFrames s₂.frames with heap := s₂.heap, slotsUsed := s₂.slotsUsed } : State).setVm s₂.vm := by
      have : s₂ = ({ s₂ with vm := (U.calling g mk a).vm } : State).setVm s₂.vm := rfl
      rw [e2] at this
      exact this
    have hf₂ : s₂.frames = .throwing q :: .java g :: U.frames.tail := hend
    have hW' : U.WarmedH s₂.vm := hW₂
    have hs₂ : s₂ = ((({ U with heap := s₂.heap, slotsUsed := s₂.slotsUsed } : State).setVm s₂.vm).setTop g).pushFrame (.throwing q) := by
      refine e3.trans ?_
      rw [hf₂, State.calling_eq h.top, State.setFrames_setFrames, State.pushFrame, State.frames_setTop _ hr', State.setTop_of_frames _ hr', State.setFrames_setFrames, hr]
      rfl
    have hsame : U.sameButNew ({ U with heap := s₂.heap, slotsUsed := s₂.slotsUsed } : State) L mc ms := by
      refine ⟨?_, q2, q3, q4, q5, q6⟩
      obtain ⟨t, ht, -⟩ := State.frames_cons hr
      show ({ U with heap := s₂.heap, slotsUsed := s₂.slotsUsed } : State) = { U.setFrames U.frames with heap := s₂.heap, slotsUsed := s₂.slotsUsed }
      rw [State.setFrames_self ht]
    subst hg
    refine Or.inr ⟨q, ⟨(({ U with heap := s₂.heap, slotsUsed := s₂.slotsUsed } : State).setVm s₂.vm), Ls ++ L, c0 + mc, s0 + ms⟩,
      ⟨X.admits, X.cas, X.clock, X.frames, X.room, X.hears, X.method, X.code, (X.here.setHeapUsed s₂.heap s₂.slotsUsed).setVm hW'.alike, X.tail, State.WarmedH.trans X.warmed hW', X.limits, X.bytes, X.same.trans (hsame.setVm s.vm)⟩,
      ⟨g, mk, s₂, L, E, ce, rfl, rfl, hx, hce, hcv, hcl, rfl, hL, rfl, rfl⟩, ?_⟩
    show Steps p.tables e below _ (((({ U with heap := s₂.heap, slotsUsed := s₂.slotsUsed } : State).setVm s₂.vm).setTop g).pushFrame (.throwing q))
    rw [← hs₂]
    exact hsteps
end Payer
section Calls
variable {p : Program} {l : Launch} {e : Env} {R : Room} {s : State} {m : MethodId} {args : Array Value} {below : List Frame} {meth : Method} {c : Code} {T : State} {locs : List Loc} {cells slots : Nat}
theorem vx_callV (X : Stand p l e R s m args below meth c T locs cells slots) (hexec : p.tables.exec = Jvm.exec) {own C : String} {index : Nat} {y : MethodName} {bytes : ByteArray} {maxL : Nat} {ret : Option FieldType}
    (hown : s.vm.findClass own = some m.cls) (hlink : (Cond.methodLink own index y).before args s = true) (hinst : (Cond.instanceMethod y).before args s = true) (hsel : (Cond.selects C y y).before args s = true)
    (hcode : (Cond.code y bytes maxL ret).before args s = true) (hy : y.cls ≠ "java/lang/invoke/MethodHandle" ∧ y.cls ≠ "java/lang/invoke/VarHandle")
    {W9 : Nat} {Pre : Pt → Array Value → Prop} {Post : Pt → Array Value → Option Value → Pt → Prop} {PostX : Pt → Array Value → Addr → Pt → Prop} (hK : vx_Back l R p e below s args y 3 W9 Pre Post PostX)
    {b : Addr} {cellB : Cell} (hcell : T.heap[b]? = some cellB) (hobj : cellB.vm.isStatics = false) (hcls : s.vm.findClass C = some cellB.cls)
    {g : JFrame} (hg : g.method = m) (hsize : g.locals.size = c.maxLocals) {argsL rest : List Value} (hlen : ∀ sig, parseMethodDescriptor y.desc = some sig → argsL.length = sig.parameters.length)
    (hstack : g.stack = argsL.reverse ++ .ref b :: rest) (hW : 2 * g.monitorRoom + (rest.map fun v => v.category).sum ≤ W9) (hdg : decode c.code g.pc = .ok (.invokevirtual index, 3))
    (hpre : ∀ vm₁, s.WarmedH vm₁ → Pre ⟨T.setVm vm₁, locs, cells, slots⟩ (Value.ref b :: argsL).toArray) :
    (∃ (v : Option Value) (vm₁ : Vm) (B : Pt), s.WarmedH vm₁ ∧ Stand p l e R s m args below meth c B.U B.locs B.cells B.slots ∧ Post ⟨T.setVm vm₁, locs, cells, slots⟩ (Value.ref b :: argsL).toArray v B ∧
      ∀ target, Steps p.tables e below (B.U.setTop { g with pc := g.pc + 3, stack := v.toList ++ rest }) target → Steps p.tables e below (T.setTop g) target) ∨
    (∃ (q : Addr) (vm₁ : Vm) (B : Pt), s.WarmedH vm₁ ∧ Stand p l e R s m args below meth c B.U B.locs B.cells B.slots ∧ PostX ⟨T.setVm vm₁, locs, cells, slots⟩ (Value.ref b :: argsL).toArray q B ∧
      Steps p.tables e below (T.setTop g) ((B.U.setTop { g with stack := rest }).pushFrame (.throwing q))) := by
  obtain ⟨mk, methM, hnamed, hmethM, hstM, habM⟩ := Cond.instanceMethod_spec hinst
  obtain ⟨methM', cM, hmethM', -, -, -, -, -, -, hsigM⟩ := Cond.code_spec hnamed hcode
  cases hmethM.symm.trans hmethM'
  obtain ⟨c2, r2, m2, q1, q2, q3, q4, kP, hkP, hkPi⟩ := Cond.selects_spec hsel
  cases hcls.symm.trans q1
  cases (State.methodFound?_of_named hnamed hy).symm.trans q2
  cases hnamed.symm.trans q3
  have hselP : selectMethod e.platform s.vm cellB.cls mk = .method mk := by rw [Launch.admits_selectMethod X.admits]; exact q4
  obtain ⟨vm₁, X₁, hstep₁⟩ := X.invokevirtual hexec hown hlink hnamed hmethM hstM hkP hkPi hy (a := b) (cell := cellB) hcell
    (fun z h => by rw [h] at hobj; cases hobj) hselP hmethM habM hkP hkPi (g := g) hg (argsL := argsL) (rest := rest) (hlen _ hsigM) hstack hdg
  rcases hK m meth c ⟨T.setVm vm₁, locs, cells, slots⟩ { g with stack := rest } (.invokevirtual index) mk (Value.ref b :: argsL).toArray X₁ hg hsize hdg hW (X₁.named hnamed) (hpre vm₁ X₁.warmed) with ⟨v, B, X', hpost, hsteps⟩ | ⟨q, B, X', hpost, hsteps⟩
  · exact Or.inl ⟨v, vm₁, B, X₁.warmed, X', hpost, fun target h => hstep₁ _ fun acts => by rw [doInvoke_state]; exact hsteps.trans h⟩
  · exact Or.inr ⟨q, vm₁, B, X₁.warmed, X', hpost, hstep₁ _ fun acts => by rw [doInvoke_state]; exact hsteps⟩
theorem vx_callS (X : Stand p l e R s m args below meth c T locs cells slots) (hexec : p.tables.exec = Jvm.exec) {own : String} {index : Nat} {y : MethodName} {bytes : ByteArray} {maxL : Nat} {ret : Option FieldType}
    (hown : s.vm.findClass own = some m.cls) (hlink : (Cond.methodLink own index y).before args s = true) (hstat : (Cond.static y).before args s = true) (hinit : (Cond.initialized y.cls).before args s = true)
    (hcode : (Cond.code y bytes maxL ret).before args s = true) (hy : y.cls ≠ "java/lang/invoke/MethodHandle" ∧ y.cls ≠ "java/lang/invoke/VarHandle")
    {W9 : Nat} {Pre : Pt → Array Value → Prop} {Post : Pt → Array Value → Option Value → Pt → Prop} {PostX : Pt → Array Value → Addr → Pt → Prop} (hK : vx_Back l R p e below s args y 3 W9 Pre Post PostX)
    {g : JFrame} (hg : g.method = m) (hsize : g.locals.size = c.maxLocals) {argsL rest : List Value} (hlen : ∀ sig, parseMethodDescriptor y.desc = some sig → argsL.length = sig.parameters.length)
    (hstack : g.stack = argsL.reverse ++ rest) (hW : 2 * g.monitorRoom + (rest.map fun v => v.category).sum ≤ W9) (hdg : decode c.code g.pc = .ok (.invokestatic index, 3))
    (hpre : ∀ vm₁, s.WarmedH vm₁ → Pre ⟨T.setVm vm₁, locs, cells, slots⟩ argsL.toArray) :
    (∃ (v : Option Value) (vm₁ : Vm) (B : Pt), s.WarmedH vm₁ ∧ Stand p l e R s m args below meth c B.U B.locs B.cells B.slots ∧ Post ⟨T.setVm vm₁, locs, cells, slots⟩ argsL.toArray v B ∧
      ∀ target, Steps p.tables e below (B.U.setTop { g with pc := g.pc + 3, stack := v.toList ++ rest }) target → Steps p.tables e below (T.setTop g) target) ∨
    (∃ (q : Addr) (vm₁ : Vm) (B : Pt), s.WarmedH vm₁ ∧ Stand p l e R s m args below meth c B.U B.locs B.cells B.slots ∧ PostX ⟨T.setVm vm₁, locs, cells, slots⟩ argsL.toArray q B ∧
      Steps p.tables e below (T.setTop g) ((B.U.setTop { g with stack := rest }).pushFrame (.throwing q))) := by
  obtain ⟨mk, hnamed⟩ := Cond.code_named hcode
  obtain ⟨methM, cM, hmethM, -, -, -, -, -, -, hsigM⟩ := Cond.code_spec hnamed hcode
  have hstatic : methM.isStatic = true := Cond.static_spec hnamed hmethM hstat
  obtain ⟨kP, hkP, -⟩ := className_of_methodNamed hnamed
  have hinitP : kP.init = .initialized := Cond.initialized_spec (findClass_of_methodNamed hnamed) hkP hinit
  obtain ⟨vm₁, X₁, hstep₁⟩ := X.invokestatic hexec hown hlink hnamed hmethM hstatic hkP hinitP hy (g := g) hg (argsL := argsL) (rest := rest) (hlen _ hsigM) hstack hdg
  rcases hK m meth c ⟨T.setVm vm₁, locs, cells, slots⟩ { g with stack := rest } (.invokestatic index) mk argsL.toArray X₁ hg hsize hdg hW (X₁.named hnamed) (hpre vm₁ X₁.warmed) with ⟨v, B, X', hpost, hsteps⟩ | ⟨q, B, X', hpost, hsteps⟩
  · exact Or.inl ⟨v, vm₁, B, X₁.warmed, X', hpost, fun target h => hstep₁ _ fun acts => by rw [doInvoke_state]; exact hsteps.trans h⟩
  · exact Or.inr ⟨q, vm₁, B, X₁.warmed, X', hpost, hstep₁ _ fun acts => by rw [doInvoke_state]; exact hsteps⟩
end Calls
theorem vx_cls {s : State} {T : State} {vm₁ : Vm} {E : String} {k : ClassId} (hW : s.WarmedH vm₁) (h : (T.setVm vm₁).vm.findClass E = some k) : s.vm.findClass E = some k := by
  have h1 : vm₁.findClass E = some k := h
  rw [hW.alike.findClass] at h1
  exact h1
/-- the method's frame g, with q thrown over it -/
def vx_W (p : Program) (l : Launch) (e : Env) (R : Room) (s : State) (m : MethodId) (args : Array Value) (below : List Frame) (meth : Method) (c : Code) (H : Heap) (locs : List Loc) (cells slots : Nat) (Q : State → Prop) (g : JFrame) (q : Addr) : Prop :=
  ∀ T : State, T.heap = H → Stand p l e R s m args below meth c T locs cells slots → ∃ t, Steps p.tables e below ((T.setTop g).pushFrame (.throwing q)) t ∧ Q t
def vx_Run (p : Program) (l : Launch) (e : Env) (R : Room) (s : State) (m : MethodId) (args : Array Value) (below : List Frame) (meth : Method) (c : Code) (H : Heap) (locs : List Loc) (cells slots mc ms : Nat) (g : JFrame) (rest : List Value) (Qa : State → Outcome → State → Prop) (XC : String → State → State → Prop) (free : Addr → Prop) : Prop :=
  ∀ T : State, T.heap = H → Stand p l e R s m args below meth c T locs cells slots →
    (∃ (v : Option Value) (st₀ t T' : State) (L : List Loc), st₀.heap = H ∧ Stand p l e R s m args below meth c T' (locs ++ L) (cells + mc) (slots + ms) ∧ (∀ q ∈ L, free q.base) ∧ T'.heap = t.heap ∧ T'.vm = t.vm ∧ Qa st₀ (.returned v) t ∧
      Goes p e below T g T' { g with pc := g.pc + 3, stack := v.toList ++ rest }) ∨
    (∃ (q : Addr) (st₀ t T' : State) (L : List Loc) (E : String) (ce : Cell), st₀.heap = H ∧ Stand p l e R s m args below meth c T' (locs ++ L) (cells + mc) (slots + ms) ∧ (∀ z ∈ L, free z.base) ∧ T'.heap = t.heap ∧ T'.vm = t.vm ∧ XC E st₀ t ∧ t.heap[q]? = some ce ∧ ce.vm = .none ∧ s.vm.findClass E = some ce.cls ∧
      Steps p.tables e below (T.setTop g) ((T'.setTop { g with stack := rest }).pushFrame (.throwing q)))
def vx_X {S : Type} (px : S → Prop) (B : String → S → State → Prop) (A : Nat → Prop) : String → State → State → Prop := fun E st t => ∃ u : S, px u ∧ B E u t ∧ va_F A st t
section Runs
variable {p : Program} {l : Launch} {e : Env} {R : Room} {s : State} {m : MethodId} {args : Array Value} {below : List Frame} {meth : Method} {c : Code} {H : Heap} {locs : List Loc} {cells slots : Nat}
variable {y : MethodName} {bytes cc : ByteArray} {maxL nL mc ms n index : Nat} {ret : Option FieldType} {ws : List Cond} {rm : Room} {Pc : Array Value → State → Prop} {Qc : Array Value → State → Outcome → State → Prop} {XC : String → State → State → Prop} {free : Addr → Prop} {Ts : List Cond} {own C : String} {b : Addr} {As rest : List Value} {g : JFrame}
theorem vx_callBack (cb : CallB R s args own index y bytes maxL ret ws rm mc ms n) (hM : vx_Met l y ws rm Pc Qc XC mc ms free) (hbl : FrameBlind Pc) : vx_Back l R p e below s args y 3 8 (PreOf R mc ms Pc) (PostOf Qc mc ms free) (vx_Post XC mc ms free) := by
  obtain ⟨hrc, hrs, hfr, hlo, hws, hcw, -, hini, -⟩ := cb
  exact vx_back (bytes := bytes) (maxL := maxL) (ret := ret) hM hbl hrc hrs hfr hlo hws hcw (fun a' U hW => word_at hW (Or.inl (by first | rfl | simp [Cond.onTables, Cond.keeps, Cond.steady])) hini)
theorem vx_runV (S : CallFix p m c cc nL s args Ts own) (hM : vx_Met l y ws rm Pc Qc XC mc ms free) (cw : CallW R s args own C index y bytes maxL ret ws rm mc ms n) (hp : PreV s H C b Pc As)
    (hg : g.method = m) (hn : As.length = n) (hsize : g.locals.size = nL) (hstack : g.stack = As.reverse ++ .ref b :: rest) (hW : 2 * g.monitorRoom + (rest.map fun v => v.category).sum ≤ 8) (hdg : decode cc g.pc = .ok (.invokevirtual index, 3)) (hf : cells + mc ≤ R.cells ∧ slots + ms ≤ R.slots) :
    vx_Run p l e R s m args below meth c H locs cells slots mc ms g rest (Qc (Value.ref b :: As).toArray) XC free := by
  have hK : vx_Back l R p e below s args y 3 8 (PreOf R mc ms Pc) (PostOf Qc mc ms free) (vx_Post XC mc ms free) := vx_callBack cw.1 hM hp.1
  obtain ⟨⟨-, -, -, -, -, -, hcode, -, hy, hlen, hl⟩, hin, hse⟩ := cw
  obtain ⟨hx, hb, hml, ho, -⟩ := S
  obtain ⟨-, ⟨cellB, hcB, hoB, hclB⟩, hPc⟩ := hp
  intro T hT X
  rcases vx_callV X hx (C := C) (bytes := bytes) (maxL := maxL) (ret := ret) ho hl hin hse hcode hy hK (by rw [hT]; exact hcB) hoB hclB hg (hsize.trans hml.symm) (argsL := As) (rest := rest) (fun sig h => hn.trans (hlen sig h)) hstack hW (by rw [hb]; exact hdg)
    (fun vm₁ hW₁ => ⟨hf.1, hf.2, hPc (T.setVm vm₁) hT hW₁⟩) with ⟨v, vm₁, ⟨U', l2, c2, s2⟩, hW₁, X', ⟨g', mk, t, L, e1, e2, hq, h1, hL, h2, h3⟩, st⟩ | ⟨q, vm₁, ⟨U', l2, c2, s2⟩, hW₁, X', ⟨g', mk, t, L, E, ce, e1, e2, hq, hce, hcv, hcl, h1, hL, h2, h3⟩, st⟩
  · dsimp only [Pt.U, Pt.locs, Pt.cells, Pt.slots] at X' e1 e2 h1 h2 h3 st
    subst h1; subst h2; subst h3
    exact Or.inl ⟨v, (T.setVm vm₁).calling g' mk (Value.ref b :: As).toArray, t, U', L, hT, X', hL, e1, e2, hq, st⟩
  · dsimp only [Pt.U, Pt.locs, Pt.cells, Pt.slots] at X' e1 e2 h1 h2 h3 st hcl
    subst h1; subst h2; subst h3
    exact Or.inr ⟨q, (T.setVm vm₁).calling g' mk (Value.ref b :: As).toArray, t, U', L, E, ce, hT, X', hL, e1, e2, hq, hce, hcv, vx_cls hW₁ hcl, st⟩
theorem vx_runS (S : CallFix p m c cc nL s args Ts own) (hM : vx_Met l y ws rm Pc Qc XC mc ms free) (cw : CallB R s args own index y bytes maxL ret ws rm mc ms n ∧ (Cond.static y).before args s = true) (hp : PreS s H Pc As)
    (hg : g.method = m) (hn : As.length = n) (hsize : g.locals.size = nL) (hstack : g.stack = As.reverse ++ rest) (hW : 2 * g.monitorRoom + (rest.map fun v => v.category).sum ≤ 8) (hdg : decode cc g.pc = .ok (.invokestatic index, 3)) (hf : cells + mc ≤ R.cells ∧ slots + ms ≤ R.slots) :
    vx_Run p l e R s m args below meth c H locs cells slots mc ms g rest (Qc As.toArray) XC free := by
  have hK : vx_Back l R p e below s args y 3 8 (PreOf R mc ms Pc) (PostOf Qc mc ms free) (vx_Post XC mc ms free) := vx_callBack cw.1 hM hp.1
  obtain ⟨⟨-, -, -, -, -, -, hcode, hini, hy, hlen, hl⟩, hstt⟩ := cw
  obtain ⟨hx, hb, hml, ho, -⟩ := S
  intro T hT X
  rcases vx_callS X hx (bytes := bytes) (maxL := maxL) (ret := ret) ho hl hstt hini hcode hy hK hg (hsize.trans hml.symm) (argsL := As) (rest := rest) (fun sig h => hn.trans (hlen sig h)) hstack hW (by rw [hb]; exact hdg)
    (fun vm₁ hW₁ => ⟨hf.1, hf.2, hp.2 (T.setVm vm₁) hT hW₁⟩) with ⟨v, vm₁, ⟨U', l2, c2, s2⟩, hW₁, X', ⟨g', mk, t, L, e1, e2, hq, h1, hL, h2, h3⟩, st⟩ | ⟨q, vm₁, ⟨U', l2, c2, s2⟩, hW₁, X', ⟨g', mk, t, L, E, ce, e1, e2, hq, hce, hcv, hcl, h1, hL, h2, h3⟩, st⟩
  · dsimp only [Pt.U, Pt.locs, Pt.cells, Pt.slots] at X' e1 e2 h1 h2 h3 st
    subst h1; subst h2; subst h3
    exact Or.inl ⟨v, (T.setVm vm₁).calling g' mk As.toArray, t, U', L, hT, X', hL, e1, e2, hq, st⟩
  · dsimp only [Pt.U, Pt.locs, Pt.cells, Pt.slots] at X' e1 e2 h1 h2 h3 st hcl
    subst h1; subst h2; subst h3
    exact Or.inr ⟨q, (T.setVm vm₁).calling g' mk As.toArray, t, U', L, E, ce, hT, X', hL, e1, e2, hq, hce, hcv, vx_cls hW₁ hcl, st⟩
end Runs
section Rows
variable {p : Program} {l : Launch} {e : Env} {R : Room} {s : State} {m : MethodId} {args : Array Value} {below : List Frame} {meth : Method} {c : Code} {H : Heap} {locs : List Loc} {cells slots : Nat} {Q : State → Prop}
variable {mc ms : Nat} {free : Addr → Prop} {A0 A1 : Nat → Prop} {H0 : Heap} {a : Array Value} {pc : Nat} {ls : Array Slot} {st0 rest : List Value}
theorem vx_keep {st₀ t T' : State} {L : List Loc} (h0 : st₀.heap = H) (e1 : T'.heap = t.heap) (hS : va_S A0 H0 H locs) (hA : ∀ q, q < H.size → A1 q → A0 q) (hf : ∀ q, free q → A0 q) (hL : ∀ q ∈ L, free q.base) (hF : va_F A1 st₀ t) :
    H.size ≤ T'.heap.size ∧ (∀ q : Nat, q < H.size → ¬ A1 q → T'.heap[q]? = H[q]?) ∧ va_S A0 H0 T'.heap (locs ++ L) := by
  obtain ⟨hz, hk⟩ := hF
  rw [h0] at hz hk
  exact ⟨by rw [e1]; exact hz, fun q h1 h2 => by rw [e1]; exact hk q h1 h2,
    ⟨Nat.le_trans hS.1 (by rw [e1]; exact hz), fun q h1 h2 => by rw [e1, hk q (Nat.lt_of_lt_of_le h1 hS.1) (fun z => h2 (hA q (Nat.lt_of_lt_of_le h1 hS.1) z))]; exact hS.2.1 q h1 h2, fun q hq => by
      rcases List.mem_append.mp hq with h | h
      · exact hS.2.2 q h
      · exact hf _ (hL q h)⟩⟩
theorem vx_calli {S SX : Type} {post : Int32 → S → Prop} {px : SX → Prop} {B : S → State → Prop} {BX : String → SX → State → Prop} {AX : Nat → Prop} (hr : vx_Run p l e R s m args below meth c H locs cells slots mc ms (F0 m pc ls st0) rest (va_Qi post B A1 a) (vx_X px BX AX) free) (hS : va_S A0 H0 H locs) (hA : ∀ q, q < H.size → A1 q → A0 q) (hf : ∀ q, free q → A0 q) (hAX : ∀ q, q < H.size → AX q → A0 q)
    (kx : ∀ (E : String) (ce : Cell) (q9 : Addr) (u : SX) (t : State) (H1 : Heap) (locs1 : List Loc), t.heap = H1 → s.vm.Alike t.vm → px u → BX E u t → H.size ≤ H1.size → (∀ q : Nat, q < H.size → ¬ AX q → H1[q]? = H[q]?) → va_S A0 H0 H1 locs1 → H1[q9]? = some ce → ce.vm = .none → s.vm.findClass E = some ce.cls → vx_W p l e R s m args below meth c H1 locs1 (cells + mc) (slots + ms) Q (F0 m pc ls rest) q9)
    (kk : ∀ (r : Int32) (u : S) (t : State) (H1 : Heap) (locs1 : List Loc), t.heap = H1 → s.vm.Alike t.vm → post r u → B u t → H.size ≤ H1.size → (∀ q : Nat, q < H.size → ¬ A1 q → H1[q]? = H[q]?) → va_S A0 H0 H1 locs1 → W p l e R s m args below meth c H1 locs1 (cells + mc) (slots + ms) Q (F0 m (pc + 3) ls (.int r :: rest))) : W p l e R s m args below meth c H locs cells slots Q (F0 m pc ls st0) := by
  intro T hT X
  rcases hr T hT X with ⟨v, st₀, t, T', L, h0, X', hL, e1, e2, ⟨⟨r, u, hv, hp, hb⟩, hF⟩, st⟩ | ⟨q, st₀, t, T', L, E, ce, h0, X', hL, e1, e2, ⟨u, hp, hb, hF⟩, hce, hcv, hcl, st⟩
  · cases hv
    obtain ⟨k1, k2, k3⟩ := vx_keep h0 e1 hS hA hf hL hF
    obtain ⟨t2, a1, b1⟩ := kk r u t T'.heap (locs ++ L) e1.symm (by rw [← e2]; exact X'.warmed.alike) hp hb k1 k2 k3 T' rfl X'
    exact ⟨t2, st t2 a1, b1⟩
  · obtain ⟨k1, k2, k3⟩ := vx_keep h0 e1 hS hAX hf hL hF
    obtain ⟨t2, a1, b1⟩ := kx E ce q u t T'.heap (locs ++ L) e1.symm (by rw [← e2]; exact X'.warmed.alike) hp hb k1 k2 k3 (by rw [e1]; exact hce) hcv hcl T' rfl X'
    exact ⟨t2, st.trans a1, b1⟩
theorem vx_calll {S SX : Type} {post : Int64 → S → Prop} {px : SX → Prop} {B : S → State → Prop} {BX : String → SX → State → Prop} {AX : Nat → Prop} (hr : vx_Run p l e R s m args below meth c H locs cells slots mc ms (F0 m pc ls st0) rest (va_Ql post B A1 a) (vx_X px BX AX) free) (hS : va_S A0 H0 H locs) (hA : ∀ q, q < H.size → A1 q → A0 q) (hf : ∀ q, free q → A0 q) (hAX : ∀ q, q < H.size → AX q → A0 q)
    (kx : ∀ (E : String) (ce : Cell) (q9 : Addr) (u : SX) (t : State) (H1 : Heap) (locs1 : List Loc), t.heap = H1 → s.vm.Alike t.vm → px u → BX E u t → H.size ≤ H1.size → (∀ q : Nat, q < H.size → ¬ AX q → H1[q]? = H[q]?) → va_S A0 H0 H1 locs1 → H1[q9]? = some ce → ce.vm = .none → s.vm.findClass E = some ce.cls → vx_W p l e R s m args below meth c H1 locs1 (cells + mc) (slots + ms) Q (F0 m pc ls rest) q9)
    (kk : ∀ (r : Int64) (u : S) (t : State) (H1 : Heap) (locs1 : List Loc), t.heap = H1 → s.vm.Alike t.vm → post r u → B u t → H.size ≤ H1.size → (∀ q : Nat, q < H.size → ¬ A1 q → H1[q]? = H[q]?) → va_S A0 H0 H1 locs1 → W p l e R s m args below meth c H1 locs1 (cells + mc) (slots + ms) Q (F0 m (pc + 3) ls (.long r :: rest))) : W p l e R s m args below meth c H locs cells slots Q (F0 m pc ls st0) := by
  intro T hT X
  rcases hr T hT X with ⟨v, st₀, t, T', L, h0, X', hL, e1, e2, ⟨⟨r, u, hv, hp, hb⟩, hF⟩, st⟩ | ⟨q, st₀, t, T', L, E, ce, h0, X', hL, e1, e2, ⟨u, hp, hb, hF⟩, hce, hcv, hcl, st⟩
  · cases hv
    obtain ⟨k1, k2, k3⟩ := vx_keep h0 e1 hS hA hf hL hF
    obtain ⟨t2, a1, b1⟩ := kk r u t T'.heap (locs ++ L) e1.symm (by rw [← e2]; exact X'.warmed.alike) hp hb k1 k2 k3 T' rfl X'
    exact ⟨t2, st t2 a1, b1⟩
  · obtain ⟨k1, k2, k3⟩ := vx_keep h0 e1 hS hAX hf hL hF
    obtain ⟨t2, a1, b1⟩ := kx E ce q u t T'.heap (locs ++ L) e1.symm (by rw [← e2]; exact X'.warmed.alike) hp hb k1 k2 k3 (by rw [e1]; exact hce) hcv hcl T' rfl X'
    exact ⟨t2, st.trans a1, b1⟩
theorem vx_callf {S SX : Type} {post : UInt32 → S → Prop} {px : SX → Prop} {B : S → State → Prop} {BX : String → SX → State → Prop} {AX : Nat → Prop} (hr : vx_Run p l e R s m args below meth c H locs cells slots mc ms (F0 m pc ls st0) rest (va_Qf post B A1 a) (vx_X px BX AX) free) (hS : va_S A0 H0 H locs) (hA : ∀ q, q < H.size → A1 q → A0 q) (hf : ∀ q, free q → A0 q) (hAX : ∀ q, q < H.size → AX q → A0 q)
    (kx : ∀ (E : String) (ce : Cell) (q9 : Addr) (u : SX) (t : State) (H1 : Heap) (locs1 : List Loc), t.heap = H1 → s.vm.Alike t.vm → px u → BX E u t → H.size ≤ H1.size → (∀ q : Nat, q < H.size → ¬ AX q → H1[q]? = H[q]?) → va_S A0 H0 H1 locs1 → H1[q9]? = some ce → ce.vm = .none → s.vm.findClass E = some ce.cls → vx_W p l e R s m args below meth c H1 locs1 (cells + mc) (slots + ms) Q (F0 m pc ls rest) q9)
    (kk : ∀ (r : UInt32) (u : S) (t : State) (H1 : Heap) (locs1 : List Loc), t.heap = H1 → s.vm.Alike t.vm → post r u → B u t → H.size ≤ H1.size → (∀ q : Nat, q < H.size → ¬ A1 q → H1[q]? = H[q]?) → va_S A0 H0 H1 locs1 → W p l e R s m args below meth c H1 locs1 (cells + mc) (slots + ms) Q (F0 m (pc + 3) ls (.float r :: rest))) : W p l e R s m args below meth c H locs cells slots Q (F0 m pc ls st0) := by
  intro T hT X
  rcases hr T hT X with ⟨v, st₀, t, T', L, h0, X', hL, e1, e2, ⟨⟨r, u, hv, hp, hb⟩, hF⟩, st⟩ | ⟨q, st₀, t, T', L, E, ce, h0, X', hL, e1, e2, ⟨u, hp, hb, hF⟩, hce, hcv, hcl, st⟩
  · cases hv
    obtain ⟨k1, k2, k3⟩ := vx_keep h0 e1 hS hA hf hL hF
    obtain ⟨t2, a1, b1⟩ := kk r u t T'.heap (locs ++ L) e1.symm (by rw [← e2]; exact X'.warmed.alike) hp hb k1 k2 k3 T' rfl X'
    exact ⟨t2, st t2 a1, b1⟩
  · obtain ⟨k1, k2, k3⟩ := vx_keep h0 e1 hS hAX hf hL hF
    obtain ⟨t2, a1, b1⟩ := kx E ce q u t T'.heap (locs ++ L) e1.symm (by rw [← e2]; exact X'.warmed.alike) hp hb k1 k2 k3 (by rw [e1]; exact hce) hcv hcl T' rfl X'
    exact ⟨t2, st.trans a1, b1⟩
theorem vx_calld {S SX : Type} {post : UInt64 → S → Prop} {px : SX → Prop} {B : S → State → Prop} {BX : String → SX → State → Prop} {AX : Nat → Prop} (hr : vx_Run p l e R s m args below meth c H locs cells slots mc ms (F0 m pc ls st0) rest (va_Qd post B A1 a) (vx_X px BX AX) free) (hS : va_S A0 H0 H locs) (hA : ∀ q, q < H.size → A1 q → A0 q) (hf : ∀ q, free q → A0 q) (hAX : ∀ q, q < H.size → AX q → A0 q)
    (kx : ∀ (E : String) (ce : Cell) (q9 : Addr) (u : SX) (t : State) (H1 : Heap) (locs1 : List Loc), t.heap = H1 → s.vm.Alike t.vm → px u → BX E u t → H.size ≤ H1.size → (∀ q : Nat, q < H.size → ¬ AX q → H1[q]? = H[q]?) → va_S A0 H0 H1 locs1 → H1[q9]? = some ce → ce.vm = .none → s.vm.findClass E = some ce.cls → vx_W p l e R s m args below meth c H1 locs1 (cells + mc) (slots + ms) Q (F0 m pc ls rest) q9)
    (kk : ∀ (r : UInt64) (u : S) (t : State) (H1 : Heap) (locs1 : List Loc), t.heap = H1 → s.vm.Alike t.vm → post r u → B u t → H.size ≤ H1.size → (∀ q : Nat, q < H.size → ¬ A1 q → H1[q]? = H[q]?) → va_S A0 H0 H1 locs1 → W p l e R s m args below meth c H1 locs1 (cells + mc) (slots + ms) Q (F0 m (pc + 3) ls (.double r :: rest))) : W p l e R s m args below meth c H locs cells slots Q (F0 m pc ls st0) := by
  intro T hT X
  rcases hr T hT X with ⟨v, st₀, t, T', L, h0, X', hL, e1, e2, ⟨⟨r, u, hv, hp, hb⟩, hF⟩, st⟩ | ⟨q, st₀, t, T', L, E, ce, h0, X', hL, e1, e2, ⟨u, hp, hb, hF⟩, hce, hcv, hcl, st⟩
  · cases hv
    obtain ⟨k1, k2, k3⟩ := vx_keep h0 e1 hS hA hf hL hF
    obtain ⟨t2, a1, b1⟩ := kk r u t T'.heap (locs ++ L) e1.symm (by rw [← e2]; exact X'.warmed.alike) hp hb k1 k2 k3 T' rfl X'
    exact ⟨t2, st t2 a1, b1⟩
  · obtain ⟨k1, k2, k3⟩ := vx_keep h0 e1 hS hAX hf hL hF
    obtain ⟨t2, a1, b1⟩ := kx E ce q u t T'.heap (locs ++ L) e1.symm (by rw [← e2]; exact X'.warmed.alike) hp hb k1 k2 k3 (by rw [e1]; exact hce) hcv hcl T' rfl X'
    exact ⟨t2, st.trans a1, b1⟩
theorem vx_callv {S SX : Type} {post : S → Prop} {px : SX → Prop} {B : S → State → Prop} {BX : String → SX → State → Prop} {AX : Nat → Prop} (hr : vx_Run p l e R s m args below meth c H locs cells slots mc ms (F0 m pc ls st0) rest (va_Qv post B A1 a) (vx_X px BX AX) free) (hS : va_S A0 H0 H locs) (hA : ∀ q, q < H.size → A1 q → A0 q) (hf : ∀ q, free q → A0 q) (hAX : ∀ q, q < H.size → AX q → A0 q)
    (kx : ∀ (E : String) (ce : Cell) (q9 : Addr) (u : SX) (t : State) (H1 : Heap) (locs1 : List Loc), t.heap = H1 → s.vm.Alike t.vm → px u → BX E u t → H.size ≤ H1.size → (∀ q : Nat, q < H.size → ¬ AX q → H1[q]? = H[q]?) → va_S A0 H0 H1 locs1 → H1[q9]? = some ce → ce.vm = .none → s.vm.findClass E = some ce.cls → vx_W p l e R s m args below meth c H1 locs1 (cells + mc) (slots + ms) Q (F0 m pc ls rest) q9)
    (kk : ∀ (u : S) (t : State) (H1 : Heap) (locs1 : List Loc), t.heap = H1 → s.vm.Alike t.vm → post u → B u t → H.size ≤ H1.size → (∀ q : Nat, q < H.size → ¬ A1 q → H1[q]? = H[q]?) → va_S A0 H0 H1 locs1 → W p l e R s m args below meth c H1 locs1 (cells + mc) (slots + ms) Q (F0 m (pc + 3) ls (rest))) : W p l e R s m args below meth c H locs cells slots Q (F0 m pc ls st0) := by
  intro T hT X
  rcases hr T hT X with ⟨v, st₀, t, T', L, h0, X', hL, e1, e2, ⟨⟨u, hv, hp, hb⟩, hF⟩, st⟩ | ⟨q, st₀, t, T', L, E, ce, h0, X', hL, e1, e2, ⟨u, hp, hb, hF⟩, hce, hcv, hcl, st⟩
  · cases hv
    obtain ⟨k1, k2, k3⟩ := vx_keep h0 e1 hS hA hf hL hF
    obtain ⟨t2, a1, b1⟩ := kk u t T'.heap (locs ++ L) e1.symm (by rw [← e2]; exact X'.warmed.alike) hp hb k1 k2 k3 T' rfl X'
    exact ⟨t2, st t2 a1, b1⟩
  · obtain ⟨k1, k2, k3⟩ := vx_keep h0 e1 hS hAX hf hL hF
    obtain ⟨t2, a1, b1⟩ := kx E ce q u t T'.heap (locs ++ L) e1.symm (by rw [← e2]; exact X'.warmed.alike) hp hb k1 k2 k3 (by rw [e1]; exact hce) hcv hcl T' rfl X'
    exact ⟨t2, st.trans a1, b1⟩
/-- caught by the row x of this method's table; the rows ahead don't take it -/
theorem vx_catch {own name : String} {E : String} {ce : Cell} {q : Addr} (hown : s.vm.findClass own = some m.cls) (pre : List ExceptionTableEntry) (x : ExceptionTableEntry) (suf : List ExceptionTableEntry) (hsplit : c.exceptionTable.toList = pre ++ x :: suf)
    (hpass : ∀ z ∈ pre, covers z pc = false ∨ (z.catchType ≠ 0 ∧ ∃ nm : String, (Cond.classLink own z.catchType nm).before args s = true ∧ va_Nc E nm s)) (hx : covers x pc = true) (h0 : x.catchType ≠ 0)
    (hlink : (Cond.classLink own x.catchType name).before args s = true) (hcast : (Cond.castable E name).before args s = true) (hcell : H[q]? = some ce) (hv : ce.vm = .none) (hcl : s.vm.findClass E = some ce.cls)
    (kk : W p l e R s m args below meth c H locs cells slots Q (F0 m x.handlerPc ls [.ref q])) : vx_W p l e R s m args below meth c H locs cells slots Q (F0 m pc ls rest) q := by
  intro T hT X
  have hpl : e.platform.magicAccessors = ({} : Platform).magicAccessors := by rw [X.admits.platform]
  obtain ⟨c3, c4, hc3, hc4, hasg⟩ := Cond.castable_spec hcast
  cases Option.some.inj (hc3.symm.trans hcl)
  obtain ⟨c5, hc5, hcl5⟩ := Cond.classLink_spec hown hlink e.platform hpl
  cases Option.some.inj (hc4.symm.trans hc5)
  obtain ⟨vm', X', st⟩ := X.thenCaughtThrough q (g := F0 m pc ls rest) rfl (Steps.refl _) (by rw [hT]; exact hcell) (by rw [hv]; rfl) (by obtain ⟨k9, h9, -⟩ := Vm.findClass_spec hcl; exact ⟨k9, h9⟩) pre x suf hsplit
    (fun z hz => by
      rcases hpass z hz with h | ⟨hz0, nm, hl1, hn1⟩
      · exact Or.inl h
      · obtain ⟨c6, hc6, hcl6⟩ := Cond.classLink_spec hown hl1 e.platform hpl
        obtain ⟨a8, b8, h1, h2, h3⟩ := hn1
        cases Option.some.inj (h1.symm.trans hcl)
        cases Option.some.inj (h2.symm.trans hc6)
        exact Or.inr ⟨hz0, _, hcl6, h3⟩) hx (Or.inr ⟨h0, c4, hcl5, hasg⟩)
  obtain ⟨t, a1, b1⟩ := kk (T.setVm vm') hT X'
  exact ⟨t, st.trans a1, b1⟩
end Rows
section Ends
variable {p : Program} {l : Launch} {e : Env} {R : Room} {s : State} {m : MethodId} {args : Array Value} {below : List Frame} {meth : Method} {c : Code} {H : Heap} {locs : List Loc} {cells slots : Nat} {Q : State → Prop}
variable {mc ms : Nat} {free : Addr → Prop} {A0 A1 : Nat → Prop} {H0 : Heap} {a : Array Value} {ls : Array Slot} {st0 rest : List Value}
variable {Qc : Array Value → State → Outcome → State → Prop} {XC : String → State → State → Prop}
/-- what a body that may throw owes at its end -/
def vx_MQ (below : List Frame) (Qc : Array Value → State → Outcome → State → Prop) (XC : String → State → State → Prop) (a : Array Value) (s : State) (mc ms : Nat) (free : Addr → Prop) : State → Prop := fun t =>
  ∃ o, t.status = .running ∧ Ended t below o ∧ vx_Q Qc XC mc ms free a s o t
theorem vx_ret {g : JFrame} {mc ms : Nat} (k : W p l e R s m args below meth c H locs cells slots (MQ below Qc args s mc ms free) g) : W p l e R s m args below meth c H locs cells slots (vx_MQ below Qc XC args s mc ms free) g := by
  intro T hT X
  obtain ⟨t, a1, o, b1, b2, b3, b4⟩ := k T hT X
  exact ⟨t, a1, o, b1, b2, Or.inl ⟨b3, b4⟩⟩
/-- not caught here: it goes on to the caller -/
theorem vx_widen {g : JFrame} {q : Addr} {k n : Nat} (h1 : cells ≤ k) (h2 : slots ≤ n) (kk : vx_W p l e R s m args below meth c H locs k n Q g q) : vx_W p l e R s m args below meth c H locs cells slots Q g q := fun T hT X => kk T hT (stand_widen X h1 h2)
theorem vx_out {pc : Nat} {E : String} {ce : Cell} {q : Addr} {mc ms : Nat} (hout : ∀ x ∈ c.exceptionTable.toList, covers x pc = false) (hlocks : meth.locks = false) (hcell : H[q]? = some ce) (hv : ce.vm = .none) (hcl : s.vm.findClass E = some ce.cls)
    (hx : ∀ t : State, t.heap = H → s.vm.Alike t.vm → XC E s t) (hf : ∀ z ∈ locs, free z.base) (hc : cells ≤ mc) (hs : slots ≤ ms) :
    vx_W p l e R s m args below meth c H locs cells slots (vx_MQ below Qc XC args s mc ms free) (F0 m pc ls rest) q := by
  intro T hT X
  obtain ⟨st1, hrun, hend, hW, hsm⟩ := X.leaveThrown q (g := F0 m pc ls rest) rfl rfl rfl hout hlocks
  have hcell9 : (T.setFrames (.throwing q :: below)).heap[q]? = some ce := by
    show T.heap[q]? = some ce
    rw [hT]; exact hcell
  exact ⟨_, st1, .threw q, hrun, hend, Or.inr ⟨q, rfl, E, ce, locs, hx _ hT hW.alike, hcell9, hv, hcl, hW, hsm.mono hc hs, hf⟩⟩
theorem vx_frame {U : State} {k n : Nat} (h : s.sameButNew ({ U with vm := s.vm } : State) locs k n) : s.heap.size ≤ U.heap.size ∧ ∀ q : Nat, q < s.heap.size → (∀ z ∈ locs, z.base ≠ q) → U.heap[q]? = s.heap[q]? := by
  obtain ⟨-, h2, -, -, -, h6⟩ := h
  refine ⟨h2, fun q hq hz => ?_⟩
  obtain ⟨c9, e1, e2, e3, e4⟩ := h6 q _ (Array.getElem?_eq_getElem hq)
  have hs : c9.slots = (s.heap[q]).slots := Array.ext_getElem? fun i => e4 i fun hm => hz _ hm rfl
  have h9 : c9 = s.heap[q] := by
    rw [hs] at e2
    exact e2
  have e5 : U.heap[q]? = some c9 := e1
  rw [e5, h9, Array.getElem?_eq_getElem hq]
/-- the words of a throw but the four that speak of the heap -/
def vx_no (w : Cond) : Bool := decide (w ≠ .isRef (.static Bundle.tN "UNASSIGNED_STACK" Bundle.steD)) && decide (w ≠ .isRef (.static Bundle.tN "SUPPRESSED_SENTINEL" Bundle.listD)) && decide (w ≠ .laysStatic Bundle.tN "UNASSIGNED_STACK" Bundle.steD) && decide (w ≠ .laysStatic Bundle.tN "SUPPRESSED_SENTINEL" Bundle.listD)
def vx_at0 (own : String) (ic : Nat) (X : String) (names : List String) : List Cond := (Bundle.ownAtoms0 own ic X names).filter vx_no
def vx_atS (own : String) (ic : Nat) (X : String) (names : List String) : List Cond := (Bundle.ownAtoms own ic X names).filter vx_no
/-- a word that the tables alone decide, or a good one -/
def vx_ot (w : Cond) : Bool := w.onTables || goodWord w
theorem vx_ot_at {args a' : Array Value} {s U : State} {w : Cond} (hW : s.WarmedH U.vm) (hvm : s.vm = U.vm) (hg : vx_ot w = true) (h : w.before args s = true) : w.before a' U = true := by
  simp only [vx_ot, Bool.or_eq_true] at hg
  rcases hg with hg | hg
  · exact va_tabs hg hvm h
  · exact word_at hW (good_of_word hg) h
/-- a list's words: the good ones out of the method's own list, the others by premises of their own -/
theorem vx_hat {args : Array Value} {s : State} {L B : List Cond} (h1 : ∀ w ∈ L.filter goodWord, w.before args s = true) (h2 : ∀ w ∈ L.filter (fun w => !goodWord w), w ∈ B) (h3 : ∀ w ∈ B, w.before args s = true) : ∀ w ∈ L, w.before args s = true := by
  intro w hw
  by_cases g : goodWord w = true
  · exact h1 w (List.mem_filter.mpr ⟨hw, g⟩)
  · refine h3 w (h2 w (List.mem_filter.mpr ⟨hw, ?_⟩))
    show (!goodWord w) = true
    cases hgw : goodWord w
    · rfl
    · exact absurd hgw g
theorem vx_c {args : Array Value} {s : State} {w : Cond} {B : List Cond} (h : w.before args s = true) (t : ∀ w ∈ B, w.before args s = true) : ∀ w' ∈ w :: B, w'.before args s = true := fun w' h' => (List.mem_cons.mp h').elim (fun e => by rw [e]; exact h) (t w')
theorem vx_n {args : Array Value} {s : State} : ∀ w ∈ ([] : List Cond), w.before args s = true := fun _ h => nomatch h
theorem vx_own {args : Array Value} {s : State} {L : List Cond} (h1 : ∀ w ∈ L.filter vx_no, w.before args s = true)
    (hU : (Cond.isRef (.static Bundle.tN "UNASSIGNED_STACK" Bundle.steD)).before args s = true) (hN : (Cond.isRef (.static Bundle.tN "SUPPRESSED_SENTINEL" Bundle.listD)).before args s = true)
    (lU : (Cond.laysStatic Bundle.tN "UNASSIGNED_STACK" Bundle.steD).before args s = true) (lN : (Cond.laysStatic Bundle.tN "SUPPRESSED_SENTINEL" Bundle.listD).before args s = true) : ∀ w ∈ L, w.before args s = true := by
  intro w hw
  by_cases e1 : w = .isRef (.static Bundle.tN "UNASSIGNED_STACK" Bundle.steD)
  · rw [e1]; exact hU
  · by_cases e2 : w = .isRef (.static Bundle.tN "SUPPRESSED_SENTINEL" Bundle.listD)
    · rw [e2]; exact hN
    · by_cases e3 : w = .laysStatic Bundle.tN "UNASSIGNED_STACK" Bundle.steD
      · rw [e3]; exact lU
      · by_cases e4 : w = .laysStatic Bundle.tN "SUPPRESSED_SENTINEL" Bundle.listD
        · rw [e4]; exact lN
        · exact h1 w (List.mem_filter.mpr ⟨hw, by unfold vx_no; rw [decide_eq_true e1, decide_eq_true e2, decide_eq_true e3, decide_eq_true e4]; rfl⟩)
/-- where a static field lies, its class's statics cell in H -/
def vx_L (C n d : String) (A : Nat → Prop) (U : State) (H : Heap) : Prop := ∃ (c : ClassId) (k : Class) (i : Nat) (f : Field) (a : Nat) (cell : Cell), U.vm.findClass C = some c ∧ U.fieldFound? C n d = some (c, k, i, f) ∧ f.isStatic = true ∧ k.statics = some a ∧ H[a]? = some cell ∧ cell.vm.isStatics = true ∧ cell.cls = c ∧ f.slot < cell.slots.size ∧ k.staticTypes[f.slot]? = some f.type ∧ ¬ A a
theorem vx_L.moved {C n d : String} {A : Nat → Prop} {u U : State} {H : Heap} (hvm : u.vm.Alike U.vm) (h : vx_L C n d A u H) : vx_L C n d A U H := by
  obtain ⟨c, k, i, f, a, cell, h1, h2, h3, h4, h5, h6, h7, h8, h9, h10⟩ := h
  obtain ⟨k', hi', he⟩ := State.fieldFound?_setVm hvm h2
  exact ⟨c, k', i, f, a, cell, by rw [hvm.findClass]; exact h1, hi', h3, by rw [he]; exact h4, h5, h6, h7, h8, by rw [he]; exact h9, h10⟩
theorem vx_L.kept {C n d : String} {A : Nat → Prop} {U : State} {H H1 : Heap} (h : vx_L C n d A U H) (hq : ∀ a : Nat, a < H.size → ¬ A a → H1[a]? = H[a]?) : vx_L C n d A U H1 := by
  obtain ⟨c, k, i, f, a, cell, h1, h2, h3, h4, h5, h6, h7, h8, h9, h10⟩ := h
  exact ⟨c, k, i, f, a, cell, h1, h2, h3, h4, by rw [hq a (Array.getElem?_eq_some_iff.mp h5).1 h10]; exact h5, h6, h7, h8, h9, h10⟩
theorem vx_L.narrow {C n d : String} {A B : Nat → Prop} {U : State} {H : Heap} (h : vx_L C n d A U H) (hAB : ∀ q, B q → A q) : vx_L C n d B U H := by
  obtain ⟨c, k, i, f, a, cell, h1, h2, h3, h4, h5, h6, h7, h8, h9, h10⟩ := h
  exact ⟨c, k, i, f, a, cell, h1, h2, h3, h4, h5, h6, h7, h8, h9, fun z => h10 (hAB _ z)⟩
theorem vx_L.word {C n d : String} {A : Nat → Prop} {s : State} {args : Array Value} (h : vx_L C n d A s s.heap) : (Cond.laysStatic C n d).before args s = true := by
  obtain ⟨c, k, i, f, a, cell, h1, h2, h3, h4, h5, h6, h7, h8, h9, -⟩ := h
  show (Cond.laysStatic C n d).holds args s none s [] = true
  exact Cond.laysStatic_of h1 h2 h3 h4 h5 h6 h7 h8 h9
/-- .. and what it holds: null or some reference -/
def vx_Zq (C n d : String) (A : Nat → Prop) (U : State) (H : Heap) : Prop := va_Zq C n d A U H ∧ vx_L C n d A U H
theorem vx_Zq.moved {C n d : String} {A : Nat → Prop} {u U : State} {H : Heap} (hvm : u.vm.Alike U.vm) (h : vx_Zq C n d A u H) : vx_Zq C n d A U H := ⟨va_Zq.moved hvm h.1, vx_L.moved hvm h.2⟩
theorem vx_Zq.kept {C n d : String} {A : Nat → Prop} {U : State} {H H1 : Heap} (h : vx_Zq C n d A U H) (hq : ∀ a : Nat, a < H.size → ¬ A a → H1[a]? = H[a]?) : vx_Zq C n d A U H1 := ⟨va_Zq.kept h.1 hq, vx_L.kept h.2 hq⟩
theorem vx_Zq.narrow {C n d : String} {A B : Nat → Prop} {U : State} {H : Heap} (h : vx_Zq C n d A U H) (hAB : ∀ q, B q → A q) : vx_Zq C n d B U H := ⟨va_Zq.narrow h.1 hAB, vx_L.narrow h.2 hAB⟩
theorem vx_Zqof {args : Array Value} {s : State} {C n d : String} {A : Nat → Prop} (hl : (Cond.laysStatic C n d).before args s = true) (hini : (Cond.initialized C).before args s = true) (h : (Cond.isRef (.static C n d)).before args s = true) (hA : ∀ a : Nat, a < s.heap.size → ¬ A a) : vx_Zq C n d A s s.heap := by
  refine ⟨va_Zqof hl hini h hA, ?_⟩
  obtain ⟨c, k, i, f, a, cell, h1, h2, h3, h4, h5, h6, h7, h8, h9⟩ := Cond.laysStatic_spec hl
  exact ⟨c, k, i, f, a, cell, h1, h2, h3, h4, h5, h6, h7, h8, h9, hA a (Array.getElem?_eq_some_iff.mp h5).1⟩
theorem vx_isRef {C n d : String} {v : Value} {A : Nat → Prop} {s : State} {args : Array Value} (h : va_Z C n d v A s s.heap) (hv : v.isRef = true) : (Cond.isRef (.static C n d)).before args s = true := by
  obtain ⟨cf, kf, fi, f, a, cell, h1, h2, h3, h4, h5, h6, h7, -⟩ := h
  have he : (Term.static C n d).eval args s none [] s = some v := by
    simp [Term.eval, State.fieldNamed?, h1, h2, h4, h5, h6, h7]
  simp only [Cond.before, Cond.holds, Cond.value, he]
  cases v <;> simp_all [Value.isRef]
theorem vx_isRefq {C n d : String} {A : Nat → Prop} {s : State} {args : Array Value} (h : va_Zq C n d A s s.heap) : (Cond.isRef (.static C n d)).before args s = true := by
  rcases h with h | ⟨t, h⟩
  · exact vx_isRef h rfl
  · exact vx_isRef h rfl
/-- the same frame, seen from here: as if the method were called anew in this heap -/
theorem vx_rebase {T : State} (X : Stand p l e R s m args below meth c T locs cells slots) {R' : Room} (hf : R'.frames ≤ R.frames) (hl : R'.locals ≤ R.locals) (hc : cells + R'.cells ≤ R.cells) (hs : slots + R'.slots ≤ R.slots) :
    Stand p l e R' ((T.setVm s.vm).setFrames (.invoking m args :: below)) m args below meth c T [] 0 0 := by
  have htop : (T.setVm s.vm).topJava?.isSome := X.here.top
  have hF : ((T.setVm s.vm).setFrames (.invoking m args :: below)).frames = .invoking m args :: below := State.frames_setFrames _ (State.cur_lt_of_top htop)
  obtain ⟨g₀, hg0⟩ := Option.isSome_iff_exists.mp htop
  obtain ⟨r, hr⟩ := State.topJava?_eq_some.mp hg0
  have hl9 : e.platform.stackLimits (T.setVm s.vm).me = e.platform.stackLimits s.me := X.limits
  have hb9 : (T.setVm s.vm).me.stackBytes = s.me.stackBytes := X.bytes
  refine ⟨X.admits, X.cas, X.clock, hF, ?_, X.hears, X.method, X.code, X.here, X.tail, X.warmed, ?_, ?_, ?_⟩
  · have h := X.room
    have hU : ((T.setVm s.vm).setFrames (.invoking m args :: below)).localsInUse = s.localsInUse := by
      rw [State.localsInUse_invoking hF (meth := meth) (c := c) X.method X.code, State.localsInUse_invoking X.frames X.method X.code]
    simp only [State.hasRoom, Bool.and_eq_true, decide_eq_true_eq] at h ⊢
    obtain ⟨⟨⟨⟨h1, h2, h3, h4, h5, h6⟩, h7⟩, h8⟩, h9⟩ := h
    rw [X.frames, List.length_cons] at h2 h3
    have q1 := X.heapSize
    have q2 := X.used
    simp only [hF, hU, List.length_cons, State.stackLimits_setFrames, State.stackBytes_setFrames, hl9, hb9]
    refine ⟨⟨⟨⟨by omega, by omega, by omega, by omega, by omega, h6⟩, ?_⟩, ?_⟩, X.book⟩
    · show T.heap.size + R'.cells ≤ e.platform.maxCells
      omega
    · show T.slotsUsed + R'.slots ≤ e.platform.maxSlots
      omega
  · rw [State.stackLimits_setFrames]; rfl
  · rw [State.stackBytes_setFrames]; rfl
  · refine ⟨?_, Nat.le_refl _, Nat.le_refl _, ?_, ?_, fun a c9 h9 => ⟨c9, h9, rfl, rfl, fun _ _ => rfl⟩⟩
    · obtain ⟨t, ht, -⟩ := State.frames_cons hr
      show T.setVm s.vm = { ((T.setVm s.vm).setFrames (.invoking m args :: below)).setFrames (T.setVm s.vm).frames with heap := T.heap, slotsUsed := T.slotsUsed }
      rw [State.setFrames_setFrames, State.setFrames_self ht]
      rfl
    · show T.slotsUsed = T.slotsUsed + ((T.heap.toList.drop T.heap.size).map (·.slots.size)).sum
      rw [List.drop_eq_nil_of_le (Nat.le_of_eq Array.length_toList)]
      rfl
    · show ((T.heap.toList.drop T.heap.size).map (·.slots.size)).sum ≤ 0
      rw [List.drop_eq_nil_of_le (Nat.le_of_eq Array.length_toList)]
      exact Nat.le_refl _
/-- 'throw new E()': new; dup; invokespecial; athrow -/
theorem vx_throw0 {cc : ByteArray} {pc : Nat} (hexec : p.tables.exec = Jvm.exec) (hb : c.code = cc) (hl : l.stackTraces = false) {own cls : String} {names : List String} {ik ic mc ms : Nat} {A : Nat → Prop}
    (hown : s.vm.findClass own = some m.cls) (hcls : Bundle.fit cls = true) (hnames : ∀ n ∈ names, Bundle.fit n = true)
    (hk : (Cond.classLink own ik cls).before args s = true) (hini : (Cond.initialized cls).before args s = true) (hat : ∀ w ∈ vx_at0 own ic cls names, w.before args s = true)
    (hgood : ∀ w ∈ Cond.classLink own ik cls :: Cond.initialized cls :: vx_at0 own ic cls names, vx_ot w = true)
    (hU : vx_Zq Bundle.tN "UNASSIGNED_STACK" Bundle.steD A s s.heap) (hN : vx_Zq Bundle.tN "SUPPRESSED_SENTINEL" Bundle.listD A s s.heap) (hS : va_S A s.heap H locs) (hsize : ls.size = c.maxLocals)
    (d0 : decode cc pc = .ok (.new ik, 3)) (d3 : decode cc (pc + 3) = .ok (.dup, 1)) (d4 : decode cc (pc + 4) = .ok (.invokespecial ic, 3)) (d7 : decode cc (pc + 7) = .ok (.athrow, 1))
    (hout : ∀ x ∈ c.exceptionTable.toList, covers x (pc + 7) = false)
    (hRframes : names.length + 3 < R.frames) (hRlocals : (rest.map fun v => v.category).sum + (13 * (names.length + 1) + 42) ≤ R.locals) (hRcells : cells + 1 ≤ R.cells) (hRslots : slots + 6 ≤ R.slots) (hlocks : meth.locks = false)
    (hx : ∀ t : State, s.vm.Alike t.vm → H.size ≤ t.heap.size → (∀ q : Nat, q < H.size → t.heap[q]? = H[q]?) → XC cls s t)
    (hf : ∀ z ∈ locs, free z.base) (hc : cells + 1 ≤ mc) (hs : slots + 6 ≤ ms) :
    W p l e R s m args below meth c H locs cells slots (vx_MQ below Qc XC args s mc ms free) (F0 m pc ls rest) := by
  intro T hT X
  have htr : e.platform.stackTraces = false := (show e.platform.stackTraces = l.stackTraces by rw [X.admits.platform]).trans hl
  have Y := vx_rebase X (R' := { frames := R.frames, locals := R.locals, cells := 1, slots := 6 }) (Nat.le_refl _) (Nat.le_refl _) hRcells hRslots
  obtain ⟨s', hA⟩ : ∃ z, z = (T.setVm s.vm).setFrames (.invoking m args :: below) := ⟨_, rfl⟩
  rw [← hA] at Y
  have hvm : s'.vm = s.vm := by rw [hA]; rfl
  have hhp : s'.heap = H := by rw [hA]; exact hT
  have hW0 : s.WarmedH s'.vm := by rw [hvm]; exact State.WarmedH.refl s
  have hat' : ∀ w ∈ vx_at0 own ic cls names, w.before args s' = true := fun w hw => vx_ot_at hW0 hvm.symm (hgood w (List.mem_cons_of_mem _ (List.mem_cons_of_mem _ hw))) (hat w hw)
  have hk' : (Cond.classLink own ik cls).before args s' = true := vx_ot_at hW0 hvm.symm (hgood _ List.mem_cons_self) hk
  have hini' : (Cond.initialized cls).before args s' = true := vx_ot_at hW0 hvm.symm (hgood _ (List.mem_cons_of_mem _ List.mem_cons_self)) hini
  have hU' : vx_Zq Bundle.tN "UNASSIGNED_STACK" Bundle.steD A s' s'.heap := by rw [hhp]; exact vx_Zq.moved hW0.alike (hU.kept hS.2.1)
  have hN' : vx_Zq Bundle.tN "SUPPRESSED_SENTINEL" Bundle.listD A s' s'.heap := by rw [hhp]; exact vx_Zq.moved hW0.alike (hN.kept hS.2.1)
  have h : ∀ w ∈ Bundle.ownAtoms0 own ic cls names, w.before args s' = true := vx_own hat' (vx_isRefq hU'.1) (vx_isRefq hN'.1) hU'.2.word hN'.2.word
  have hown' : s'.vm.findClass own = some m.cls := by rw [hvm]; exact hown
  have hins : (Cond.instantiable cls 6).before args s' = true := h _ (by simp [Bundle.ownAtoms0])
  obtain ⟨vm₁, cX, kX, hfX, hkX, -, -, X₁, st1⟩ := Y.newCold hexec (own := own) (C := cls) (index := ik) (n := 6) hown' hk' hins hini'
    (g := F0 m pc ls rest) rfl (by rw [hb]; exact d0) (Nat.le_refl _) (Nat.le_refl _)
  generalize hT1 : (T.setVm vm₁).pushCell { cls := cX, slots := kX.instanceTypes.map defaultValue, vm := .none } = T1 at X₁ st1
  have hcat : (Value.ref T.heap.size).category = 1 := rfl
  have hcellA : T1.heap[T.heap.size]? = some (freshCell cX kX) := by rw [← hT1]; exact State.heap_pushCell_size _ _
  have d3' : decode c.code (pc + 3) = .ok (.dup, 1) := by rw [hb]; exact d3
  obtain ⟨U, hsteps, hrun, hend, hW, hsame, ce, hce, hO⟩ := X₁.ctorThrow0 hexec htr (own := own) (cls := cls) (names := names) (ic := ic) hown' hcls hnames h (fun x hx => nomatch hx) hfX hkX hcellA (by rw [hhp, hT]; exact Nat.le_refl _)
    (g := { method := m, pc := pc + 4, locals := ls, stack := .ref T.heap.size :: .ref T.heap.size :: rest, locked := none }) rfl hsize rfl rfl (rest := rest) rfl
    (by rw [hb]; exact d4) (by rw [hb]; exact d7) hout hRframes (by simp only [List.map_cons, List.sum_cons, hcat]; omega) hlocks
  obtain ⟨f1, f2⟩ := vx_frame hsame
  rw [hhp] at f1 f2
  have hWs : s.WarmedH U.vm := State.WarmedH.trans hW0 hW
  have hcl : s.vm.findClass cls = some ce.cls := by
    have h9 := hO.cls
    rw [hvm] at h9
    exact h9
  have hall : s.sameButNew ({ U with vm := s.vm } : State) locs mc ms := by
    subst hA
    obtain ⟨e1, e2⟩ := hsame
    rw [State.setFrames_setFrames] at e1
    have h2 : (T.setVm s.vm).sameButNew ({ U with vm := s.vm } : State) [] (0 + 1) (0 + 6) := ⟨e1, e2⟩
    have h3 := X.same.trans h2
    rw [List.append_nil] at h3
    exact h3.mono hc hs
  refine ⟨U, ?_, .threw T.heap.size, hrun, hend, Or.inr ⟨T.heap.size, rfl, cls, ce, locs, hx U hWs.alike f1 (fun q hq => f2 q hq (fun z hz => nomatch hz)), hce, hO.vm, hcl, hWs, hall, hf⟩⟩
  refine st1 _ ?_
  show Steps p.tables e below (T1.setTop { method := m, pc := pc + 3, locals := ls, stack := .ref T.heap.size :: rest, locked := none }) _
  jvm_step X₁.here [X₁.here.top, hexec, d3', Value.category]
  exact hsteps
/-- 'throw new E("text")': new; dup; ldc; invokespecial; athrow -/
theorem vx_throwS {cc : ByteArray} {pc : Nat} (hexec : p.tables.exec = Jvm.exec) (hb : c.code = cc) (hl : l.stackTraces = false) {own cls text : String} {names : List String} {ik is ic mc ms sa : Nat} {A : Nat → Prop}
    (hown : s.vm.findClass own = some m.cls) (hcls : Bundle.fit cls = true) (hnames : ∀ n ∈ names, Bundle.fit n = true)
    (hk : (Cond.classLink own ik cls).before args s = true) (hini : (Cond.initialized cls).before args s = true) (hstr : vk_R own is text sa s) (hat : ∀ w ∈ vx_atS own ic cls names, w.before args s = true)
    (hgood : ∀ w ∈ Cond.classLink own ik cls :: Cond.initialized cls :: vx_atS own ic cls names, vx_ot w = true)
    (hU : vx_Zq Bundle.tN "UNASSIGNED_STACK" Bundle.steD A s s.heap) (hN : vx_Zq Bundle.tN "SUPPRESSED_SENTINEL" Bundle.listD A s s.heap) (hS : va_S A s.heap H locs) (hsize : ls.size = c.maxLocals)
    (d0 : decode cc pc = .ok (.new ik, 3)) (d3 : decode cc (pc + 3) = .ok (.dup, 1)) (d4 : decode cc (pc + 4) = .ok (.ldc is, 2)) (d6 : decode cc (pc + 6) = .ok (.invokespecial ic, 3)) (d9 : decode cc (pc + 9) = .ok (.athrow, 1))
    (hout : ∀ x ∈ c.exceptionTable.toList, covers x (pc + 9) = false)
    (hRframes : names.length + 3 < R.frames) (hRlocals : (rest.map fun v => v.category).sum + (13 * (names.length + 1) + 43) ≤ R.locals) (hRcells : cells + 1 ≤ R.cells) (hRslots : slots + 6 ≤ R.slots) (hlocks : meth.locks = false)
    (hx : ∀ t : State, s.vm.Alike t.vm → H.size ≤ t.heap.size → (∀ q : Nat, q < H.size → t.heap[q]? = H[q]?) → XC cls s t)
    (hf : ∀ z ∈ locs, free z.base) (hc : cells + 1 ≤ mc) (hs : slots + 6 ≤ ms) :
    W p l e R s m args below meth c H locs cells slots (vx_MQ below Qc XC args s mc ms free) (F0 m pc ls rest) := by
  intro T hT X
  have htr : e.platform.stackTraces = false := (show e.platform.stackTraces = l.stackTraces by rw [X.admits.platform]).trans hl
  have Y := vx_rebase X (R' := { frames := R.frames, locals := R.locals, cells := 1, slots := 6 }) (Nat.le_refl _) (Nat.le_refl _) hRcells hRslots
  obtain ⟨s', hA⟩ : ∃ z, z = (T.setVm s.vm).setFrames (.invoking m args :: below) := ⟨_, rfl⟩
  rw [← hA] at Y
  have hvm : s'.vm = s.vm := by rw [hA]; rfl
  have hhp : s'.heap = H := by rw [hA]; exact hT
  have hW0 : s.WarmedH s'.vm := by rw [hvm]; exact State.WarmedH.refl s
  have hat' : ∀ w ∈ vx_atS own ic cls names, w.before args s' = true := fun w hw => vx_ot_at hW0 hvm.symm (hgood w (List.mem_cons_of_mem _ (List.mem_cons_of_mem _ hw))) (hat w hw)
  have hk' : (Cond.classLink own ik cls).before args s' = true := vx_ot_at hW0 hvm.symm (hgood _ List.mem_cons_self) hk
  have hini' : (Cond.initialized cls).before args s' = true := vx_ot_at hW0 hvm.symm (hgood _ (List.mem_cons_of_mem _ List.mem_cons_self)) hini
  have hU' : vx_Zq Bundle.tN "UNASSIGNED_STACK" Bundle.steD A s' s'.heap := by rw [hhp]; exact vx_Zq.moved hW0.alike (hU.kept hS.2.1)
  have hN' : vx_Zq Bundle.tN "SUPPRESSED_SENTINEL" Bundle.listD A s' s'.heap := by rw [hhp]; exact vx_Zq.moved hW0.alike (hN.kept hS.2.1)
  have h : ∀ w ∈ Bundle.ownAtoms own ic cls names, w.before args s' = true := vx_own hat' (vx_isRefq hU'.1) (vx_isRefq hN'.1) hU'.2.word hN'.2.word
  have hown' : s'.vm.findClass own = some m.cls := by rw [hvm]; exact hown
  have hins : (Cond.instantiable cls 6).before args s' = true := h _ (by simp [Bundle.ownAtoms])
  obtain ⟨vm₁, cX, kX, hfX, hkX, -, -, X₁, st1⟩ := Y.newCold hexec (own := own) (C := cls) (index := ik) (n := 6) hown' hk' hins hini'
    (g := F0 m pc ls rest) rfl (by rw [hb]; exact d0) (Nat.le_refl _) (Nat.le_refl _)
  generalize hT1 : (T.setVm vm₁).pushCell { cls := cX, slots := kX.instanceTypes.map defaultValue, vm := .none } = T1 at X₁ st1
  have hcat : (Value.ref T.heap.size).category = 1 := rfl
  have hcellA : T1.heap[T.heap.size]? = some (freshCell cX kX) := by rw [← hT1]; exact State.heap_pushCell_size _ _
  have d3' : decode c.code (pc + 3) = .ok (.dup, 1) := by rw [hb]; exact d3
  have d4' : decode c.code (pc + 4) = .ok (.ldc is, 2) := by rw [hb]; exact d4
  have hstr' : vk_R own is text sa s' := vk_R.warm hW0 hstr
  obtain ⟨U, hsteps, hrun, hend, hW, hsame, ce, hce, hO⟩ := X₁.ctorThrowS hexec htr (own := own) (cls := cls) (names := names) (ic := ic) hown' hcls hnames h (fun x hx => nomatch hx) hfX hkX hcellA (by rw [hhp, hT]; exact Nat.le_refl _) (msg := .ref sa) rfl
    (g := { method := m, pc := pc + 6, locals := ls, stack := .ref sa :: .ref T.heap.size :: .ref T.heap.size :: rest, locked := none }) rfl hsize rfl rfl (rest := rest) rfl
    (by rw [hb]; exact d6) (by rw [hb]; exact d9) hout hRframes (by simp only [List.map_cons, List.sum_cons, hcat]; omega) hlocks
  obtain ⟨f1, f2⟩ := vx_frame hsame
  rw [hhp] at f1 f2
  have hWs : s.WarmedH U.vm := State.WarmedH.trans hW0 hW
  have hcl : s.vm.findClass cls = some ce.cls := by
    have h9 := hO.cls
    rw [hvm] at h9
    exact h9
  have hall : s.sameButNew ({ U with vm := s.vm } : State) locs mc ms := by
    subst hA
    obtain ⟨e1, e2⟩ := hsame
    rw [State.setFrames_setFrames] at e1
    have h2 : (T.setVm s.vm).sameButNew ({ U with vm := s.vm } : State) [] (0 + 1) (0 + 6) := ⟨e1, e2⟩
    have h3 := X.same.trans h2
    rw [List.append_nil] at h3
    exact h3.mono hc hs
  refine ⟨U, ?_, .threw T.heap.size, hrun, hend, Or.inr ⟨T.heap.size, rfl, cls, ce, locs, hx U hWs.alike f1 (fun q hq => f2 q hq (fun z hz => nomatch hz)), hce, hO.vm, hcl, hWs, hall, hf⟩⟩
  refine st1 _ ?_
  show Steps p.tables e below (T1.setTop { method := m, pc := pc + 3, locals := ls, stack := .ref T.heap.size :: rest, locked := none }) _
  jvm_step X₁.here [X₁.here.top, hexec, d3', Value.category]
  exact X₁.ldcString hexec (own := own) (text := text) (index := is) (a := sa) hown' hstr'.1 hstr'.2
    (g := { method := m, pc := pc + 4, locals := ls, stack := .ref T.heap.size :: .ref T.heap.size :: rest, locked := none }) rfl d4' _ hsteps
/-- 'throw new E("text")', the text by a wide index -/
theorem vx_throwSW {cc : ByteArray} {pc : Nat} (hexec : p.tables.exec = Jvm.exec) (hb : c.code = cc) (hl : l.stackTraces = false) {own cls text : String} {names : List String} {ik is ic mc ms sa : Nat} {A : Nat → Prop}
    (hown : s.vm.findClass own = some m.cls) (hcls : Bundle.fit cls = true) (hnames : ∀ n ∈ names, Bundle.fit n = true)
    (hk : (Cond.classLink own ik cls).before args s = true) (hini : (Cond.initialized cls).before args s = true) (hstr : vk_R own is text sa s) (hat : ∀ w ∈ vx_atS own ic cls names, w.before args s = true)
    (hgood : ∀ w ∈ Cond.classLink own ik cls :: Cond.initialized cls :: vx_atS own ic cls names, vx_ot w = true)
    (hU : vx_Zq Bundle.tN "UNASSIGNED_STACK" Bundle.steD A s s.heap) (hN : vx_Zq Bundle.tN "SUPPRESSED_SENTINEL" Bundle.listD A s s.heap) (hS : va_S A s.heap H locs) (hsize : ls.size = c.maxLocals)
    (d0 : decode cc pc = .ok (.new ik, 3)) (d3 : decode cc (pc + 3) = .ok (.dup, 1)) (d4 : decode cc (pc + 4) = .ok (.ldc_w is, 3)) (d7 : decode cc (pc + 7) = .ok (.invokespecial ic, 3)) (d10 : decode cc (pc + 10) = .ok (.athrow, 1))
    (hout : ∀ x ∈ c.exceptionTable.toList, covers x (pc + 10) = false)
    (hRframes : names.length + 3 < R.frames) (hRlocals : (rest.map fun v => v.category).sum + (13 * (names.length + 1) + 43) ≤ R.locals) (hRcells : cells + 1 ≤ R.cells) (hRslots : slots + 6 ≤ R.slots) (hlocks : meth.locks = false)
    (hx : ∀ t : State, s.vm.Alike t.vm → H.size ≤ t.heap.size → (∀ q : Nat, q < H.size → t.heap[q]? = H[q]?) → XC cls s t)
    (hf : ∀ z ∈ locs, free z.base) (hc : cells + 1 ≤ mc) (hs : slots + 6 ≤ ms) :
    W p l e R s m args below meth c H locs cells slots (vx_MQ below Qc XC args s mc ms free) (F0 m pc ls rest) := by
  intro T hT X
  have htr : e.platform.stackTraces = false := (show e.platform.stackTraces = l.stackTraces by rw [X.admits.platform]).trans hl
  have Y := vx_rebase X (R' := { frames := R.frames, locals := R.locals, cells := 1, slots := 6 }) (Nat.le_refl _) (Nat.le_refl _) hRcells hRslots
  obtain ⟨s', hA⟩ : ∃ z, z = (T.setVm s.vm).setFrames (.invoking m args :: below) := ⟨_, rfl⟩
  rw [← hA] at Y
  have hvm : s'.vm = s.vm := by rw [hA]; rfl
  have hhp : s'.heap = H := by rw [hA]; exact hT
  have hW0 : s.WarmedH s'.vm := by rw [hvm]; exact State.WarmedH.refl s
  have hat' : ∀ w ∈ vx_atS own ic cls names, w.before args s' = true := fun w hw => vx_ot_at hW0 hvm.symm (hgood w (List.mem_cons_of_mem _ (List.mem_cons_of_mem _ hw))) (hat w hw)
  have hk' : (Cond.classLink own ik cls).before args s' = true := vx_ot_at hW0 hvm.symm (hgood _ List.mem_cons_self) hk
  have hini' : (Cond.initialized cls).before args s' = true := vx_ot_at hW0 hvm.symm (hgood _ (List.mem_cons_of_mem _ List.mem_cons_self)) hini
  have hU' : vx_Zq Bundle.tN "UNASSIGNED_STACK" Bundle.steD A s' s'.heap := by rw [hhp]; exact vx_Zq.moved hW0.alike (hU.kept hS.2.1)
  have hN' : vx_Zq Bundle.tN "SUPPRESSED_SENTINEL" Bundle.listD A s' s'.heap := by rw [hhp]; exact vx_Zq.moved hW0.alike (hN.kept hS.2.1)
  have h : ∀ w ∈ Bundle.ownAtoms own ic cls names, w.before args s' = true := vx_own hat' (vx_isRefq hU'.1) (vx_isRefq hN'.1) hU'.2.word hN'.2.word
  have hown' : s'.vm.findClass own = some m.cls := by rw [hvm]; exact hown
  have hins : (Cond.instantiable cls 6).before args s' = true := h _ (by simp [Bundle.ownAtoms])
  obtain ⟨vm₁, cX, kX, hfX, hkX, -, -, X₁, st1⟩ := Y.newCold hexec (own := own) (C := cls) (index := ik) (n := 6) hown' hk' hins hini'
    (g := F0 m pc ls rest) rfl (by rw [hb]; exact d0) (Nat.le_refl _) (Nat.le_refl _)
  generalize hT1 : (T.setVm vm₁).pushCell { cls := cX, slots := kX.instanceTypes.map defaultValue, vm := .none } = T1 at X₁ st1
  have hcat : (Value.ref T.heap.size).category = 1 := rfl
  have hcellA : T1.heap[T.heap.size]? = some (freshCell cX kX) := by rw [← hT1]; exact State.heap_pushCell_size _ _
  have d3' : decode c.code (pc + 3) = .ok (.dup, 1) := by rw [hb]; exact d3
  have d4' : decode c.code (pc + 4) = .ok (.ldc_w is, 3) := by rw [hb]; exact d4
  have hstr' : vk_R own is text sa s' := vk_R.warm hW0 hstr
  obtain ⟨U, hsteps, hrun, hend, hW, hsame, ce, hce, hO⟩ := X₁.ctorThrowS hexec htr (own := own) (cls := cls) (names := names) (ic := ic) hown' hcls hnames h (fun x hx => nomatch hx) hfX hkX hcellA (by rw [hhp, hT]; exact Nat.le_refl _) (msg := .ref sa) rfl
    (g := { method := m, pc := pc + 7, locals := ls, stack := .ref sa :: .ref T.heap.size :: .ref T.heap.size :: rest, locked := none }) rfl hsize rfl rfl (rest := rest) rfl
    (by rw [hb]; exact d7) (by rw [hb]; exact d10) hout hRframes (by simp only [List.map_cons, List.sum_cons, hcat]; omega) hlocks
  obtain ⟨f1, f2⟩ := vx_frame hsame
  rw [hhp] at f1 f2
  have hWs : s.WarmedH U.vm := State.WarmedH.trans hW0 hW
  have hcl : s.vm.findClass cls = some ce.cls := by
    have h9 := hO.cls
    rw [hvm] at h9
    exact h9
  have hall : s.sameButNew ({ U with vm := s.vm } : State) locs mc ms := by
    subst hA
    obtain ⟨e1, e2⟩ := hsame
    rw [State.setFrames_setFrames] at e1
    have h2 : (T.setVm s.vm).sameButNew ({ U with vm := s.vm } : State) [] (0 + 1) (0 + 6) := ⟨e1, e2⟩
    have h3 := X.same.trans h2
    rw [List.append_nil] at h3
    exact h3.mono hc hs
  refine ⟨U, ?_, .threw T.heap.size, hrun, hend, Or.inr ⟨T.heap.size, rfl, cls, ce, locs, hx U hWs.alike f1 (fun q hq => f2 q hq (fun z hz => nomatch hz)), hce, hO.vm, hcl, hWs, hall, hf⟩⟩
  refine st1 _ ?_
  show Steps p.tables e below (T1.setTop { method := m, pc := pc + 3, locals := ls, stack := .ref T.heap.size :: rest, locked := none }) _
  jvm_step X₁.here [X₁.here.top, hexec, d3', Value.category]
  exact X₁.ldcStringW hexec (own := own) (text := text) (index := is) (a := sa) hown' hstr'.1 hstr'.2
    (g := { method := m, pc := pc + 4, locals := ls, stack := .ref T.heap.size :: .ref T.heap.size :: rest, locked := none }) rfl d4' _ hsteps
end Ends
section Bodies
variable {l : Launch}
theorem vx_ofW {y : MethodName} {ws ws' : List Cond} {rm : Room} {Pc : Array Value → State → Prop} {Qc : Array Value → State → Outcome → State → Prop} {XC : String → State → State → Prop} {mc ms : Nat} {free : Addr → Prop} {cc : ByteArray} {maxL : Nat} {ret : Option FieldType}
    (hy : plainName y.cls = true) (hw : ws = Cond.code y cc maxL ret :: ws')
    (body : ∀ p e s m args below meth c s₁, BodyLoose p l y (headSpec ws rm) cc maxL ret e s m args below meth c s₁ → c.maxLocals = maxL → (∀ x ∈ c.exceptionTable.toList, False) → Pc args s →
      W p l e (headSpec ws rm).room s m args below meth c s.heap [] 0 0 (vx_MQ below Qc XC args s mc ms free) (entryFrame m args maxL)) : vx_Met l y ws rm Pc Qc XC mc ms free := by
  refine MetFree.of_bodyS (code := cc) (maxLocals := maxL) (ret := ret) hy ?_ ?_
  · intro args s m h hn
    obtain ⟨meth, c, h1, h2, h3, h4, h5, h6, -, -⟩ := Cond.code_spec hn (atoms_spec (ws := ws) h _ (by rw [hw]; exact List.mem_cons_self))
    exact ⟨meth, c, h1, h2, h3, h4, h5, h6⟩
  · intro p e s m args below meth c s₁ B hml hP _
    have hh0 : s₁.heap = s.heap := by rw [B.state]; rfl
    have ht : ∀ x ∈ c.exceptionTable.toList, False := by
      obtain ⟨meth9, c9, h1, h2, -, -, -, -, h7, -⟩ := Cond.code_spec B.named (atoms_spec (ws := ws) B.pre _ (by rw [hw]; exact List.mem_cons_self))
      cases Option.some.inj (h1.symm.trans B.method)
      cases Option.some.inj (h2.symm.trans (Stand.of_body B).code)
      intro x hx
      rw [Array.isEmpty_iff.mp h7] at hx
      cases hx
    obtain ⟨t, a1, o, b1, b2, b3⟩ := body p e s m args below meth c s₁ B hml ht hP s₁ hh0 (Stand.of_body B)
    exact ⟨t, o, a1, b1, b2, b3⟩
/-- the table of a body with handlers -/
theorem vx_table {p : Program} {x y : MethodName} {S : Spec} {cc bytes : ByteArray} {maxL maxL' : Nat} {ret ret' : Option FieldType} {e : Env} {s s₁ : State} {m : MethodId} {args : Array Value} {below : List Frame} {meth : Method} {c : Code} {hh : List (Nat × Nat × Nat × Nat)}
    (B : BodyLoose p l y S cc maxL ret e s m args below meth c s₁) (h : (Cond.codeWith y bytes maxL' ret' hh).before args s = true) : c.exceptionTable.toList = tableOf hh := by
  obtain ⟨m9, meth9, c9, hn9, h1, h2, -, -, h6, -⟩ := Cond.codeWith_spec h
  cases Option.some.inj (hn9.symm.trans B.named)
  cases Option.some.inj (h1.symm.trans B.method)
  cases Option.some.inj (h2.symm.trans (Stand.of_body B).code)
  rw [← h6, table_eq]
end Bodies
end VXA
/-! ===== END ===== -/
/-! ===== BEGIN a static call of a method with an exception table ===== -/
section VXS
variable {p : Program} {l : Launch} {e : Env} {R : Room} {s : State} {m : MethodId} {args : Array Value} {below : List Frame} {meth : Method} {c : Code} {T : State} {H : Heap} {locs : List Loc} {cells slots : Nat}
abbrev vx_CSW (R : Room) (s : State) (args : Array Value) (own : String) (index : Nat) (y : MethodName) (bytes : ByteArray) (maxL : Nat) (ret : Option FieldType) (hh : List (Nat × Nat × Nat × Nat)) (ws : List Cond) (rm : Room) (mc ms n : Nat) : Prop :=
  (rm.cells = mc ∧ rm.slots = ms ∧ rm.frames + 1 ≤ R.frames ∧ 8 + (maxL + 11) + rm.locals ≤ R.locals ∧ (∀ w ∈ ws, ∀ (a' : Array Value) (U : State), s.WarmedH U.vm → w.before a' U = true) ∧ Cond.codeWith y bytes maxL ret hh ∈ ws) ∧
  (Cond.codeWith y bytes maxL ret hh).before args s = true ∧ (Cond.initialized y.cls).before args s = true ∧ (y.cls ≠ "java/lang/invoke/MethodHandle" ∧ y.cls ≠ "java/lang/invoke/VarHandle") ∧
  (∀ sig, parseMethodDescriptor y.desc = some sig → n = sig.parameters.length) ∧ (Cond.methodLink own index y).before args s = true ∧ (Cond.static y).before args s = true
theorem vx_cwSW {own : String} {index maxL mc ms : Nat} {y : MethodName} {bytes : ByteArray} {ret : Option FieldType} {hh : List (Nat × Nat × Nat × Nat)} {Ts ws ws' : List Cond} {rm : Room} (n : Nat) (ht : ∀ w ∈ Ts, w.before args s = true) (hT : GoodIn Ts (va_wsS own index y ws)) (hw : ws = Cond.codeWith y bytes maxL ret hh :: ws') (hrc : rm.cells = mc) (hrs : rm.slots = ms)
    (hd : y.cls ≠ "java/lang/invoke/MethodHandle" ∧ y.cls ≠ "java/lang/invoke/VarHandle" ∧ (parseMethodDescriptor y.desc).map (fun d => d.parameters.length) = some n) (hR : rm.frames + 1 ≤ R.frames ∧ 8 + (maxL + 11) + rm.locals ≤ R.locals) :
    vx_CSW R s args own index y bytes maxL ret hh ws rm mc ms n := by
  have ok : ∀ w ∈ va_wsS own index y ws, w.before args s = true := fun w h => ht w (hT w h).1
  have hG : GoodIn Ts ws := fun w h => hT w (by unfold va_wsS; exact List.mem_append_right _ h)
  have hc : Cond.codeWith y bytes maxL ret hh ∈ ws := by rw [hw]; exact List.mem_cons_self
  refine ⟨⟨hrc, hrs, hR.1, hR.2, pay_in ht hG, hc⟩, ht _ (hG _ hc).1, ok _ (by simp [va_wsS]), ⟨hd.1, hd.2.1⟩, fun sig h => ?_, ok _ (by simp [va_wsS]), ok _ (by simp [va_wsS])⟩
  have h2 := hd.2.2
  rw [h] at h2
  exact (Option.some.inj h2).symm
theorem vx_callSW (X : Stand p l e R s m args below meth c T locs cells slots) (hexec : p.tables.exec = Jvm.exec) {own : String} {index : Nat} {y : MethodName} {bytes : ByteArray} {maxL : Nat} {ret : Option FieldType} {hh : List (Nat × Nat × Nat × Nat)}
    (hown : s.vm.findClass own = some m.cls) (hlink : (Cond.methodLink own index y).before args s = true) (hstat : (Cond.static y).before args s = true) (hinit : (Cond.initialized y.cls).before args s = true)
    (hcode : (Cond.codeWith y bytes maxL ret hh).before args s = true) (hy : y.cls ≠ "java/lang/invoke/MethodHandle" ∧ y.cls ≠ "java/lang/invoke/VarHandle")
    {W9 : Nat} {Pre : Pt → Array Value → Prop} {Post : Pt → Array Value → Option Value → Pt → Prop} (hK : Back l R p e below s args y 3 W9 Pre Post)
    {g : JFrame} (hg : g.method = m) (hsize : g.locals.size = c.maxLocals) {argsL rest : List Value} (hlen : ∀ sig, parseMethodDescriptor y.desc = some sig → argsL.length = sig.parameters.length)
    (hstack : g.stack = argsL.reverse ++ rest) (hW : 2 * g.monitorRoom + (rest.map fun v => v.category).sum ≤ W9) (hdg : decode c.code g.pc = .ok (.invokestatic index, 3))
    (hpre : ∀ vm₁, s.WarmedH vm₁ → Pre ⟨T.setVm vm₁, locs, cells, slots⟩ argsL.toArray) :
    ∃ (v : Option Value) (vm₁ : Vm) (B : Pt), s.WarmedH vm₁ ∧ Stand p l e R s m args below meth c B.U B.locs B.cells B.slots ∧ Post ⟨T.setVm vm₁, locs, cells, slots⟩ argsL.toArray v B ∧
      ∀ target, Steps p.tables e below (B.U.setTop { g with pc := g.pc + 3, stack := v.toList ++ rest }) target → Steps p.tables e below (T.setTop g) target := by
  obtain ⟨mk, methM, cM, hnamed, hmethM, -, -, -, -, -, -, hsigM⟩ := Cond.codeWith_spec hcode
  have hstatic : methM.isStatic = true := Cond.static_spec hnamed hmethM hstat
  obtain ⟨kP, hkP, -⟩ := className_of_methodNamed hnamed
  have hinitP : kP.init = .initialized := Cond.initialized_spec (findClass_of_methodNamed hnamed) hkP hinit
  obtain ⟨vm₁, X₁, hstep₁⟩ := X.invokestatic hexec hown hlink hnamed hmethM hstatic hkP hinitP hy (g := g) hg (argsL := argsL) (rest := rest) (hlen _ hsigM) hstack hdg
  obtain ⟨v, B, X', hpost, hsteps⟩ := hK m meth c ⟨T.setVm vm₁, locs, cells, slots⟩ { g with stack := rest } (.invokestatic index) mk argsL.toArray X₁ hg hsize hdg hW (X₁.named hnamed) (hpre vm₁ X₁.warmed)
  exact ⟨v, vm₁, B, X₁.warmed, X', hpost, fun target h => hstep₁ _ fun acts => by rw [doInvoke_state]; exact hsteps.trans h⟩
theorem vx_runSW {y : MethodName} {bytes cc : ByteArray} {maxL nL mc ms n index : Nat} {ret : Option FieldType} {hh : List (Nat × Nat × Nat × Nat)} {ws : List Cond} {rm : Room} {Pc : Array Value → State → Prop} {Qc : Array Value → State → Outcome → State → Prop} {free : Addr → Prop} {Ts : List Cond} {own : String} {As rest : List Value} {g : JFrame}
    (S : CallFix p m c cc nL s args Ts own) (hM : Met l y ws rm Pc Qc mc ms free) (cw : vx_CSW R s args own index y bytes maxL ret hh ws rm mc ms n) (hp : PreS s H Pc As)
    (hg : g.method = m) (hn : As.length = n) (hsize : g.locals.size = nL) (hstack : g.stack = As.reverse ++ rest) (hW : 2 * g.monitorRoom + (rest.map fun v => v.category).sum ≤ 8) (hdg : decode cc g.pc = .ok (.invokestatic index, 3)) (hf : cells + mc ≤ R.cells ∧ slots + ms ≤ R.slots) :
    va_Run p l e R s m args below meth c H locs cells slots mc ms g rest (Qc As.toArray) (free) := by
  obtain ⟨⟨hrc, hrs, hfr, hlo, hws, hcw⟩, hcode, hini, hy, hlen, hl, hstt⟩ := cw
  have hK : Back l R p e below s args y 3 8 (PreOf R mc ms Pc) (PostOf Qc mc ms free) := va_backW (hh := hh) (bytes := bytes) (maxL := maxL) (ret := ret) hM hp.1 hrc hrs hfr hlo hws hcw (fun a' U hW => word_at hW (Or.inl (by first | rfl | simp [Cond.onTables, Cond.keeps, Cond.steady])) hini)
  obtain ⟨hx, hb, hml, ho, -⟩ := S
  intro T hT X
  obtain ⟨v, vm₁, ⟨U', l2, c2, s2⟩, hW₁, X', ⟨g', mk, t, L, e1, e2, hq, h1, hL, h2, h3⟩, st⟩ := vx_callSW X hx (hh := hh) (bytes := bytes) (maxL := maxL) (ret := ret) ho hl hstt hini hcode hy hK hg (hsize.trans hml.symm) (argsL := As) (rest := rest) (fun sig h => hn.trans (hlen sig h)) hstack hW (by rw [hb]; exact hdg)
    (fun vm₁ hW₁ => ⟨hf.1, hf.2, hp.2 (T.setVm vm₁) hT hW₁⟩)
  dsimp only [Pt.U, Pt.locs, Pt.cells, Pt.slots] at X' e1 e2 h1 h2 h3 st
  subst h1; subst h2; subst h3
  exact ⟨v, (T.setVm vm₁).calling g' mk As.toArray, t, U', L, hT, X', hL, e1, e2, hq, st⟩
/-- not caught here, past rows that name other classes: it goes on to the caller -/
theorem vx_outP {p : Program} {l : Launch} {e : Env} {R : Room} {s : State} {m : MethodId} {args : Array Value} {below : List Frame} {meth : Method} {c : Code} {H : Heap} {locs : List Loc} {cells slots : Nat} {free : Addr → Prop} {ls : Array Slot} {rest : List Value} {Qc : Array Value → State → Outcome → State → Prop} {XC : String → State → State → Prop}
    {pc : Nat} {own E : String} {ce : Cell} {q : Addr} {mc ms : Nat} (hown : s.vm.findClass own = some m.cls) (hlocks : meth.locks = false)
    (hpass : ∀ z ∈ c.exceptionTable.toList, covers z pc = false ∨ (z.catchType ≠ 0 ∧ ∃ nm : String, (Cond.classLink own z.catchType nm).before args s = true ∧ va_Nc E nm s)) (hcell : H[q]? = some ce) (hv : ce.vm = .none) (hcl : s.vm.findClass E = some ce.cls)
    (hx : ∀ t : State, t.heap = H → s.vm.Alike t.vm → XC E s t) (hf : ∀ z ∈ locs, free z.base) (hc : cells ≤ mc) (hs : slots ≤ ms) :
    vx_W p l e R s m args below meth c H locs cells slots (vx_MQ below Qc XC args s mc ms free) (F0 m pc ls rest) q := by
  intro T hT X
  have hpl : e.platform.magicAccessors = ({} : Platform).magicAccessors := by rw [X.admits.platform]
  obtain ⟨vm', hW', X', st⟩ := X.outThrough hlocks q (g := F0 m pc ls rest) rfl rfl rfl (cell := ce) (by rw [hT]; exact hcell) (by rw [hv]; rfl)
    (by obtain ⟨k9, h9, -⟩ := Vm.findClass_spec hcl; exact ⟨k9, h9⟩) (fun z hz => by
      rcases hpass z hz with h | ⟨hz0, nm, hl1, hn1⟩
      · exact Or.inl h
      · obtain ⟨c6, hc6, hcl6⟩ := Cond.classLink_spec hown hl1 e.platform hpl
        obtain ⟨a8, b8, h1, h2, h3⟩ := hn1
        cases Option.some.inj (h1.symm.trans hcl)
        cases Option.some.inj (h2.symm.trans hc6)
        exact Or.inr ⟨hz0, _, hcl6, h3⟩)
  obtain ⟨g₀, hfr⟩ := X'.frames_eq
  have hcell9 : ((T.setVm vm').setFrames (.throwing q :: below)).heap[q]? = some ce := by
    show T.heap[q]? = some ce
    rw [hT]; exact hcell
  have hend : Ended ((T.setVm vm').setFrames (.throwing q :: below)) below (.threw q) := State.frames_setFrames _ (State.cur_lt_of_frames hfr)
  refine ⟨(T.setVm vm').setFrames (.throwing q :: below), ?_, .threw q, X'.here.running, hend, Or.inr ⟨q, rfl, E, ce, locs, hx _ hT (X'.ends _).1.alike, hcell9, hv, hcl, (X'.ends _).1, (X'.ends _).2.mono hc hs, hf⟩⟩
  rw [X.pushThrowing_eq]
  exact st
/-- a thing of a world lies in the heap -/
theorem vx_lt {D : va_G} {cl : List vw_C} {ws : va_W} {H1 : Heap} (h : va_P D cl ws H1) {k : Nat} {q : Nat × va_E} (hk : ws[k]? = some q) : q.1 < H1.size := (h k q hk).lt
end VXS
/-! ===== END ===== -/
/-! ===== BEGIN methods with a table of their own: called by a name, returning or throwing ===== -/
section VXH
/-! vx_backW, vx_callVX, vx_callSX, vx_callVW, vx_runVW, vx_runVX, vx_runSX, vx_ofWH follow the same proofs as their sisters above (Free/Laws.lean, Shelf42/LK1.lean); vx_outP calls Shelf42/NT130.lean (outThrough). -/
section
variable {l : Launch} {R : Room} {p : Program} {e : Env} {below : List Frame} {s : State} {sargs : Array Value} {y : MethodName} {len W9 : Nat}
theorem vx_backW {ws : List Cond} {rm : Room} {Pc : Array Value → State → Prop} {Qc : Array Value → State → Outcome → State → Prop} {XC : String → State → State → Prop} {mc ms : Nat} {free : Addr → Prop} {bytes : ByteArray} {maxL : Nat} {ret : Option FieldType} {hh : List (Nat × Nat × Nat × Nat)}
    (hM : vx_Met l y ws rm Pc Qc XC mc ms free) (hblind : FrameBlind Pc) (hrc : rm.cells = mc) (hrs : rm.slots = ms)
    (hframes : rm.frames + 1 ≤ R.frames) (hlocals : W9 + (maxL + 11) + rm.locals ≤ R.locals)
    (hws : ∀ w ∈ ws, ∀ a' U, s.WarmedH U.vm → w.before a' U = true) (hcode : Cond.codeWith y bytes maxL ret hh ∈ ws) (hinit : ∀ a' U, s.WarmedH U.vm → (Cond.initialized y.cls).before a' U = true) :
    vx_Back l R p e below s sargs y len W9 (PreOf R mc ms Pc) (PostOf Qc mc ms free) (vx_Post XC mc ms free) := by
  intro m meth c A g ig mk a X hg hsize hdg hW hn hp
  have h1 : (headSpec ws rm).pre.before a A.U = true := atoms_intro fun w hw => hws w hw _ _ X.warmed
  have h2 : (Cond.codeWith y bytes maxL ret hh).before a A.U = true := hws _ hcode _ _ X.warmed
  have h3 : (Cond.initialized y.cls).before a A.U = true := hinit _ _ X.warmed
  have h4 : A.cells + (headSpec ws rm).room.cells ≤ R.cells := by rw [show (headSpec ws rm).room.cells = mc from hrc]; exact hp.1
  have h5 : A.slots + (headSpec ws rm).room.slots ≤ R.slots := by rw [show (headSpec ws rm).room.slots = ms from hrs]; exact hp.2.1
  have hPc : Pc a (A.U.calling g mk a) := hblind _ _ _ _ hp.2.2
  obtain ⟨U, Ls, c0, s0⟩ := A
  dsimp only [Pt.U, Pt.locs, Pt.cells, Pt.slots] at h1 h2 h3 h4 h5 X hn hPc ⊢
  obtain ⟨m9, methY, cY, hn9, hmY, hcY, -, hlY, -⟩ := Cond.codeWith_spec h2
  cases Option.some.inj (hn9.symm.trans hn)
  obtain ⟨kY, hkY, -⟩ := className_of_methodNamed hn
  have hinitY : kY.init = .initialized := Cond.initialized_spec (findClass_of_methodNamed hn) hkY h3
  have h : At U g.method c below := by rw [hg]; exact X.here
  have hlocals9 : W9 + (maxL + 11) + (headSpec ws rm).room.locals ≤ R.locals := hlocals
  have happ : (headSpec ws rm).appliesLoose y e.platform (U.calling g mk a) = true :=
    Spec.appliesLoose_calling (g := g) h hdg hn hkY hinitY
      (X.room_calling (g := g) (R' := (headSpec ws rm).room) hsize hmY hcY hframes (by rw [hlY]; omega) h4 h5) h1
  obtain ⟨mid, hmid⟩ := h.above
  have hfr : (U.setTop g).frames = (.java g :: mid) ++ below := by rw [State.frames_setTop' g h.top, hmid]; rfl
  obtain ⟨o, s₂, hsteps, -, hend, hq⟩ := Steps.callFree hM p X.admits X.cas X.clock (acts := []) hfr happ hPc trivial
  have hq' : vx_Q Qc XC mc ms free a (U.calling g mk a) o s₂ := hq
  rw [State.frames_setTop' g h.top] at hend
  obtain ⟨g₀, hg0⟩ := Option.isSome_iff_exists.mp h.top
  obtain ⟨r, hr⟩ := State.topJava?_eq_some.mp hg0
  have hr' : (({ U with heap := s₂.heap, slotsUsed := s₂.slotsUsed } : State).setVm s₂.vm).frames = .java g₀ :: r := hr
  rcases hq' with ⟨hqc, L, hfe, hL⟩ | ⟨q, rfl, E, ce, L, hx, hce, hcv, hcl, hW₂, hsm, hL⟩
  · obtain ⟨⟨v, rfl⟩, hW₂, e2, q2, q3, q4, q5, q6⟩ := id hfe
    have e3 : s₂ = ({ (U.calling g mk a).setFrames s₂.frames with heap := s₂.heap, slotsUsed := s₂.slotsUsed } : State).setVm s₂.vm := by
      have : s₂ = ({ s₂ with vm := (U.calling g mk a).vm } : State).setVm s₂.vm := rfl
      rw [e2] at this
      exact this
    obtain ⟨c₂, i₂, len₂, hc₂, hd₂, hf₂⟩ := hend
    have hW' : U.WarmedH s₂.vm := hW₂
    have hcc : c₂ = c := by
      have h1 : s₂.code? g.method = U.code? g.method := by
        rw [State.code?_eq, State.code?_eq, hW'.alike.method?]
      exact Option.some.inj (hc₂.symm.trans (h1.trans h.code))
    subst hcc
    have hlen : len₂ = len := by rw [hdg] at hd₂; cases hd₂; rfl
    subst hlen
    have hs₂ : s₂ = (({ U with heap := s₂.heap, slotsUsed := s₂.slotsUsed } : State).setVm s₂.vm).setTop { g with pc := g.pc + len₂, stack := v.toList ++ g.stack } := by
      refine e3.trans ?_
      rw [hf₂, State.calling_eq h.top, State.setFrames_setFrames, State.setTop_of_frames _ hr', hr]
      rfl
    have hsame : U.sameButNew ({ U with heap := s₂.heap, slotsUsed := s₂.slotsUsed } : State) L mc ms := by
      refine ⟨?_, q2, q3, q4, q5, q6⟩
      obtain ⟨t, ht, -⟩ := State.frames_cons hr
      show ({ U with heap := s₂.heap, slotsUsed := s₂.slotsUsed } : State) = { U.setFrames U.frames with heap := s₂.heap, slotsUsed := s₂.slotsUsed }
      rw [State.setFrames_self ht]
    subst hg
    refine Or.inl ⟨v, ⟨(({ U with heap := s₂.heap, slotsUsed := s₂.slotsUsed } : State).setVm s₂.vm), Ls ++ L, c0 + mc, s0 + ms⟩,
      ⟨X.admits, X.cas, X.clock, X.frames, X.room, X.hears, X.method, X.code, (X.here.setHeapUsed s₂.heap s₂.slotsUsed).setVm hW'.alike, X.tail, State.WarmedH.trans X.warmed hW', X.limits, X.bytes, X.same.trans (hsame.setVm s.vm)⟩,
      ⟨g, mk, s₂, L, rfl, rfl, hqc, rfl, hL, rfl, rfl⟩, ?_⟩
    show Steps p.tables e below _ ((({ U with heap := s₂.heap, slotsUsed := s₂.slotsUsed } : State).setVm s₂.vm).setTop { g with pc := g.pc + len₂, stack := v.toList ++ g.stack })
    rw [← hs₂]
    exact hsteps
  · obtain ⟨e2, q2, q3, q4, q5, q6⟩ := id hsm
    have e3 : s₂ = ({ (U.calling g mk a).setFrames s₂.frames with heap := s₂.heap, slotsUsed := s₂.slotsUsed } : State).setVm s₂.vm := by
      have : s₂ = ({ s₂ with vm := (U.calling g mk a).vm } : State).setVm s₂.vm := rfl
      rw [e2] at this
      exact this
    have hf₂ : s₂.frames = .throwing q :: .java g :: U.frames.tail := hend
    have hW' : U.WarmedH s₂.vm := hW₂
    have hs₂ : s₂ = ((({ U with heap := s₂.heap, slotsUsed := s₂.slotsUsed } : State).setVm s₂.vm).setTop g).pushFrame (.throwing q) := by
      refine e3.trans ?_
      rw [hf₂, State.calling_eq h.top, State.setFrames_setFrames, State.pushFrame, State.frames_setTop _ hr', State.setTop_of_frames _ hr', State.setFrames_setFrames, hr]
      rfl
    have hsame : U.sameButNew ({ U with heap := s₂.heap, slotsUsed := s₂.slotsUsed } : State) L mc ms := by
      refine ⟨?_, q2, q3, q4, q5, q6⟩
      obtain ⟨t, ht, -⟩ := State.frames_cons hr
      show ({ U with heap := s₂.heap, slotsUsed := s₂.slotsUsed } : State) = { U.setFrames U.frames with heap := s₂.heap, slotsUsed := s₂.slotsUsed }
      rw [State.setFrames_self ht]
    subst hg
    refine Or.inr ⟨q, ⟨(({ U with heap := s₂.heap, slotsUsed := s₂.slotsUsed } : State).setVm s₂.vm), Ls ++ L, c0 + mc, s0 + ms⟩,
      ⟨X.admits, X.cas, X.clock, X.frames, X.room, X.hears, X.method, X.code, (X.here.setHeapUsed s₂.heap s₂.slotsUsed).setVm hW'.alike, X.tail, State.WarmedH.trans X.warmed hW', X.limits, X.bytes, X.same.trans (hsame.setVm s.vm)⟩,
      ⟨g, mk, s₂, L, E, ce, rfl, rfl, hx, hce, hcv, hcl, rfl, hL, rfl, rfl⟩, ?_⟩
    show Steps p.tables e below _ (((({ U with heap := s₂.heap, slotsUsed := s₂.slotsUsed } : State).setVm s₂.vm).setTop g).pushFrame (.throwing q))
    rw [← hs₂]
    exact hsteps
end
variable {p : Program} {l : Launch} {e : Env} {R : Room} {s : State} {m : MethodId} {args : Array Value} {below : List Frame} {meth : Method} {c : Code} {T : State} {H : Heap} {locs : List Loc} {cells slots : Nat}
theorem vx_callVX (X : Stand p l e R s m args below meth c T locs cells slots) (hexec : p.tables.exec = Jvm.exec) {own C : String} {index : Nat} {y : MethodName} {bytes : ByteArray} {maxL : Nat} {ret : Option FieldType} {hh : List (Nat × Nat × Nat × Nat)}
    (hown : s.vm.findClass own = some m.cls) (hlink : (Cond.methodLink own index y).before args s = true) (hinst : (Cond.instanceMethod y).before args s = true) (hsel : (Cond.selects C y y).before args s = true)
    (hcode : (Cond.codeWith y bytes maxL ret hh).before args s = true) (hy : y.cls ≠ "java/lang/invoke/MethodHandle" ∧ y.cls ≠ "java/lang/invoke/VarHandle")
    {W9 : Nat} {Pre : Pt → Array Value → Prop} {Post : Pt → Array Value → Option Value → Pt → Prop} {PostX : Pt → Array Value → Addr → Pt → Prop} (hK : vx_Back l R p e below s args y 3 W9 Pre Post PostX)
    {b : Addr} {cellB : Cell} (hcell : T.heap[b]? = some cellB) (hobj : cellB.vm.isStatics = false) (hcls : s.vm.findClass C = some cellB.cls)
    {g : JFrame} (hg : g.method = m) (hsize : g.locals.size = c.maxLocals) {argsL rest : List Value} (hlen : ∀ sig, parseMethodDescriptor y.desc = some sig → argsL.length = sig.parameters.length)
    (hstack : g.stack = argsL.reverse ++ .ref b :: rest) (hW : 2 * g.monitorRoom + (rest.map fun v => v.category).sum ≤ W9) (hdg : decode c.code g.pc = .ok (.invokevirtual index, 3))
    (hpre : ∀ vm₁, s.WarmedH vm₁ → Pre ⟨T.setVm vm₁, locs, cells, slots⟩ (Value.ref b :: argsL).toArray) :
    (∃ (v : Option Value) (vm₁ : Vm) (B : Pt), s.WarmedH vm₁ ∧ Stand p l e R s m args below meth c B.U B.locs B.cells B.slots ∧ Post ⟨T.setVm vm₁, locs, cells, slots⟩ (Value.ref b :: argsL).toArray v B ∧
      ∀ target, Steps p.tables e below (B.U.setTop { g with pc := g.pc + 3, stack := v.toList ++ rest }) target → Steps p.tables e below (T.setTop g) target) ∨
    (∃ (q : Addr) (vm₁ : Vm) (B : Pt), s.WarmedH vm₁ ∧ Stand p l e R s m args below meth c B.U B.locs B.cells B.slots ∧ PostX ⟨T.setVm vm₁, locs, cells, slots⟩ (Value.ref b :: argsL).toArray q B ∧
      Steps p.tables e below (T.setTop g) ((B.U.setTop { g with stack := rest }).pushFrame (.throwing q))) := by
  obtain ⟨mk, methM, hnamed, hmethM, hstM, habM⟩ := Cond.instanceMethod_spec hinst
  obtain ⟨m8, methM', cM, hn8, hmethM', -, -, -, -, -, -, hsigM⟩ := Cond.codeWith_spec hcode
  cases Option.some.inj (hn8.symm.trans hnamed)
  cases hmethM.symm.trans hmethM'
  obtain ⟨c2, r2, m2, q1, q2, q3, q4, kP, hkP, hkPi⟩ := Cond.selects_spec hsel
  cases hcls.symm.trans q1
  cases (State.methodFound?_of_named hnamed hy).symm.trans q2
  cases hnamed.symm.trans q3
  have hselP : selectMethod e.platform s.vm cellB.cls mk = .method mk := by rw [Launch.admits_selectMethod X.admits]; exact q4
  obtain ⟨vm₁, X₁, hstep₁⟩ := X.invokevirtual hexec hown hlink hnamed hmethM hstM hkP hkPi hy (a := b) (cell := cellB) hcell
    (fun z h => by rw [h] at hobj; cases hobj) hselP hmethM habM hkP hkPi (g := g) hg (argsL := argsL) (rest := rest) (hlen _ hsigM) hstack hdg
  rcases hK m meth c ⟨T.setVm vm₁, locs, cells, slots⟩ { g with stack := rest } (.invokevirtual index) mk (Value.ref b :: argsL).toArray X₁ hg hsize hdg hW (X₁.named hnamed) (hpre vm₁ X₁.warmed) with ⟨v, B, X', hpost, hsteps⟩ | ⟨q, B, X', hpost, hsteps⟩
  · exact Or.inl ⟨v, vm₁, B, X₁.warmed, X', hpost, fun target h => hstep₁ _ fun acts => by rw [doInvoke_state]; exact hsteps.trans h⟩
  · exact Or.inr ⟨q, vm₁, B, X₁.warmed, X', hpost, hstep₁ _ fun acts => by rw [doInvoke_state]; exact hsteps⟩
theorem vx_callSX (X : Stand p l e R s m args below meth c T locs cells slots) (hexec : p.tables.exec = Jvm.exec) {own : String} {index : Nat} {y : MethodName} {bytes : ByteArray} {maxL : Nat} {ret : Option FieldType} {hh : List (Nat × Nat × Nat × Nat)}
    (hown : s.vm.findClass own = some m.cls) (hlink : (Cond.methodLink own index y).before args s = true) (hstat : (Cond.static y).before args s = true) (hinit : (Cond.initialized y.cls).before args s = true)
    (hcode : (Cond.codeWith y bytes maxL ret hh).before args s = true) (hy : y.cls ≠ "java/lang/invoke/MethodHandle" ∧ y.cls ≠ "java/lang/invoke/VarHandle")
    {W9 : Nat} {Pre : Pt → Array Value → Prop} {Post : Pt → Array Value → Option Value → Pt → Prop} {PostX : Pt → Array Value → Addr → Pt → Prop} (hK : vx_Back l R p e below s args y 3 W9 Pre Post PostX)
    {g : JFrame} (hg : g.method = m) (hsize : g.locals.size = c.maxLocals) {argsL rest : List Value} (hlen : ∀ sig, parseMethodDescriptor y.desc = some sig → argsL.length = sig.parameters.length)
    (hstack : g.stack = argsL.reverse ++ rest) (hW : 2 * g.monitorRoom + (rest.map fun v => v.category).sum ≤ W9) (hdg : decode c.code g.pc = .ok (.invokestatic index, 3))
    (hpre : ∀ vm₁, s.WarmedH vm₁ → Pre ⟨T.setVm vm₁, locs, cells, slots⟩ argsL.toArray) :
    (∃ (v : Option Value) (vm₁ : Vm) (B : Pt), s.WarmedH vm₁ ∧ Stand p l e R s m args below meth c B.U B.locs B.cells B.slots ∧ Post ⟨T.setVm vm₁, locs, cells, slots⟩ argsL.toArray v B ∧
      ∀ target, Steps p.tables e below (B.U.setTop { g with pc := g.pc + 3, stack := v.toList ++ rest }) target → Steps p.tables e below (T.setTop g) target) ∨
    (∃ (q : Addr) (vm₁ : Vm) (B : Pt), s.WarmedH vm₁ ∧ Stand p l e R s m args below meth c B.U B.locs B.cells B.slots ∧ PostX ⟨T.setVm vm₁, locs, cells, slots⟩ argsL.toArray q B ∧
      Steps p.tables e below (T.setTop g) ((B.U.setTop { g with stack := rest }).pushFrame (.throwing q))) := by
  obtain ⟨mk, methM, cM, hnamed, hmethM, -, -, -, -, -, -, hsigM⟩ := Cond.codeWith_spec hcode
  have hstatic : methM.isStatic = true := Cond.static_spec hnamed hmethM hstat
  obtain ⟨kP, hkP, -⟩ := className_of_methodNamed hnamed
  have hinitP : kP.init = .initialized := Cond.initialized_spec (findClass_of_methodNamed hnamed) hkP hinit
  obtain ⟨vm₁, X₁, hstep₁⟩ := X.invokestatic hexec hown hlink hnamed hmethM hstatic hkP hinitP hy (g := g) hg (argsL := argsL) (rest := rest) (hlen _ hsigM) hstack hdg
  rcases hK m meth c ⟨T.setVm vm₁, locs, cells, slots⟩ { g with stack := rest } (.invokestatic index) mk argsL.toArray X₁ hg hsize hdg hW (X₁.named hnamed) (hpre vm₁ X₁.warmed) with ⟨v, B, X', hpost, hsteps⟩ | ⟨q, B, X', hpost, hsteps⟩
  · exact Or.inl ⟨v, vm₁, B, X₁.warmed, X', hpost, fun target h => hstep₁ _ fun acts => by rw [doInvoke_state]; exact hsteps.trans h⟩
  · exact Or.inr ⟨q, vm₁, B, X₁.warmed, X', hpost, hstep₁ _ fun acts => by rw [doInvoke_state]; exact hsteps⟩
theorem vx_callVW (X : Stand p l e R s m args below meth c T locs cells slots) (hexec : p.tables.exec = Jvm.exec) {own C : String} {index : Nat} {y : MethodName} {bytes : ByteArray} {maxL : Nat} {ret : Option FieldType} {hh : List (Nat × Nat × Nat × Nat)}
    (hown : s.vm.findClass own = some m.cls) (hlink : (Cond.methodLink own index y).before args s = true) (hinst : (Cond.instanceMethod y).before args s = true) (hsel : (Cond.selects C y y).before args s = true)
    (hcode : (Cond.codeWith y bytes maxL ret hh).before args s = true) (hy : y.cls ≠ "java/lang/invoke/MethodHandle" ∧ y.cls ≠ "java/lang/invoke/VarHandle")
    {W9 : Nat} {Pre : Pt → Array Value → Prop} {Post : Pt → Array Value → Option Value → Pt → Prop} (hK : Back l R p e below s args y 3 W9 Pre Post)
    {b : Addr} {cellB : Cell} (hcell : T.heap[b]? = some cellB) (hobj : cellB.vm.isStatics = false) (hcls : s.vm.findClass C = some cellB.cls)
    {g : JFrame} (hg : g.method = m) (hsize : g.locals.size = c.maxLocals) {argsL rest : List Value} (hlen : ∀ sig, parseMethodDescriptor y.desc = some sig → argsL.length = sig.parameters.length)
    (hstack : g.stack = argsL.reverse ++ .ref b :: rest) (hW : 2 * g.monitorRoom + (rest.map fun v => v.category).sum ≤ W9) (hdg : decode c.code g.pc = .ok (.invokevirtual index, 3))
    (hpre : ∀ vm₁, s.WarmedH vm₁ → Pre ⟨T.setVm vm₁, locs, cells, slots⟩ (Value.ref b :: argsL).toArray) :
    ∃ (v : Option Value) (vm₁ : Vm) (B : Pt), s.WarmedH vm₁ ∧ Stand p l e R s m args below meth c B.U B.locs B.cells B.slots ∧ Post ⟨T.setVm vm₁, locs, cells, slots⟩ (Value.ref b :: argsL).toArray v B ∧
      ∀ target, Steps p.tables e below (B.U.setTop { g with pc := g.pc + 3, stack := v.toList ++ rest }) target → Steps p.tables e below (T.setTop g) target := by
  obtain ⟨mk, methM, hnamed, hmethM, hstM, habM⟩ := Cond.instanceMethod_spec hinst
  obtain ⟨m8, methM', cM, hn8, hmethM', -, -, -, -, -, -, hsigM⟩ := Cond.codeWith_spec hcode
  cases Option.some.inj (hn8.symm.trans hnamed)
  cases hmethM.symm.trans hmethM'
  obtain ⟨c2, r2, m2, q1, q2, q3, q4, kP, hkP, hkPi⟩ := Cond.selects_spec hsel
  cases hcls.symm.trans q1
  cases (State.methodFound?_of_named hnamed hy).symm.trans q2
  cases hnamed.symm.trans q3
  have hselP : selectMethod e.platform s.vm cellB.cls mk = .method mk := by rw [Launch.admits_selectMethod X.admits]; exact q4
  obtain ⟨vm₁, X₁, hstep₁⟩ := X.invokevirtual hexec hown hlink hnamed hmethM hstM hkP hkPi hy (a := b) (cell := cellB) hcell
    (fun z h => by rw [h] at hobj; cases hobj) hselP hmethM habM hkP hkPi (g := g) hg (argsL := argsL) (rest := rest) (hlen _ hsigM) hstack hdg
  obtain ⟨v, B, X', hpost, hsteps⟩ := hK m meth c ⟨T.setVm vm₁, locs, cells, slots⟩ { g with stack := rest } (.invokevirtual index) mk (Value.ref b :: argsL).toArray X₁ hg hsize hdg hW (X₁.named hnamed) (hpre vm₁ X₁.warmed)
  exact ⟨v, vm₁, B, X₁.warmed, X', hpost, fun target h => hstep₁ _ fun acts => by rw [doInvoke_state]; exact hsteps.trans h⟩
abbrev vx_CVW (R : Room) (s : State) (args : Array Value) (own C : String) (index : Nat) (y : MethodName) (bytes : ByteArray) (maxL : Nat) (ret : Option FieldType) (hh : List (Nat × Nat × Nat × Nat)) (ws : List Cond) (rm : Room) (mc ms n : Nat) : Prop :=
  (rm.cells = mc ∧ rm.slots = ms ∧ rm.frames + 1 ≤ R.frames ∧ 8 + (maxL + 11) + rm.locals ≤ R.locals ∧ (∀ w ∈ ws, ∀ (a' : Array Value) (U : State), s.WarmedH U.vm → w.before a' U = true) ∧ Cond.codeWith y bytes maxL ret hh ∈ ws) ∧
  (Cond.codeWith y bytes maxL ret hh).before args s = true ∧ (Cond.initialized y.cls).before args s = true ∧ (y.cls ≠ "java/lang/invoke/MethodHandle" ∧ y.cls ≠ "java/lang/invoke/VarHandle") ∧
  (∀ sig, parseMethodDescriptor y.desc = some sig → n = sig.parameters.length) ∧ (Cond.methodLink own index y).before args s = true ∧ (Cond.instanceMethod y).before args s = true ∧ (Cond.selects C y y).before args s = true
theorem vx_cwVW {own C : String} {index maxL mc ms : Nat} {y : MethodName} {bytes : ByteArray} {ret : Option FieldType} {hh : List (Nat × Nat × Nat × Nat)} {Ts ws ws' : List Cond} {rm : Room} (n : Nat) (ht : ∀ w ∈ Ts, w.before args s = true) (hT : GoodIn Ts (wsV own index C y ws)) (hw : ws = Cond.codeWith y bytes maxL ret hh :: ws') (hrc : rm.cells = mc) (hrs : rm.slots = ms)
    (hd : y.cls = C ∧ y.cls ≠ "java/lang/invoke/MethodHandle" ∧ y.cls ≠ "java/lang/invoke/VarHandle" ∧ (parseMethodDescriptor y.desc).map (fun d => d.parameters.length) = some n) (hR : rm.frames + 1 ≤ R.frames ∧ 8 + (maxL + 11) + rm.locals ≤ R.locals) :
    vx_CVW R s args own C index y bytes maxL ret hh ws rm mc ms n := by
  obtain ⟨hC, hd⟩ := hd
  subst hC
  have ok : ∀ w ∈ wsV own index y.cls y ws, w.before args s = true := fun w h => ht w (hT w h).1
  have hG : GoodIn Ts ws := fun w h => hT w (by unfold wsV; exact List.mem_append_right _ h)
  have hc : Cond.codeWith y bytes maxL ret hh ∈ ws := by rw [hw]; exact List.mem_cons_self
  refine ⟨⟨hrc, hrs, hR.1, hR.2, pay_in ht hG, hc⟩, ht _ (hG _ hc).1, ok _ (by simp [wsV]), ⟨hd.1, hd.2.1⟩, fun sig h => ?_, ok _ (by simp [wsV]), ok _ (by simp [wsV]), ok _ (by simp [wsV])⟩
  have h2 := hd.2.2
  rw [h] at h2
  exact (Option.some.inj h2).symm
theorem vx_runVW {y : MethodName} {bytes cc : ByteArray} {maxL nL mc ms n index : Nat} {ret : Option FieldType} {hh : List (Nat × Nat × Nat × Nat)} {ws : List Cond} {rm : Room} {Pc : Array Value → State → Prop} {Qc : Array Value → State → Outcome → State → Prop} {free : Addr → Prop} {Ts : List Cond} {own C : String} {b : Addr} {As rest : List Value} {g : JFrame}
    (S : CallFix p m c cc nL s args Ts own) (hM : Met l y ws rm Pc Qc mc ms free) (cw : vx_CVW R s args own C index y bytes maxL ret hh ws rm mc ms n) (hp : PreV s H C b Pc As)
    (hg : g.method = m) (hn : As.length = n) (hsize : g.locals.size = nL) (hstack : g.stack = As.reverse ++ .ref b :: rest) (hW : 2 * g.monitorRoom + (rest.map fun v => v.category).sum ≤ 8) (hdg : decode cc g.pc = .ok (.invokevirtual index, 3)) (hf : cells + mc ≤ R.cells ∧ slots + ms ≤ R.slots) :
    va_Run p l e R s m args below meth c H locs cells slots mc ms g rest (Qc (Value.ref b :: As).toArray) free := by
  obtain ⟨⟨hrc, hrs, hfr, hlo, hws, hcw⟩, hcode, hini, hy, hlen, hl, hin, hse⟩ := cw
  have hK : Back l R p e below s args y 3 8 (PreOf R mc ms Pc) (PostOf Qc mc ms free) := va_backW (hh := hh) (bytes := bytes) (maxL := maxL) (ret := ret) hM hp.1 hrc hrs hfr hlo hws hcw (fun a' U hW => word_at hW (Or.inl (by first | rfl | simp [Cond.onTables, Cond.keeps, Cond.steady])) hini)
  obtain ⟨hx, hb, hml, ho, -⟩ := S
  obtain ⟨-, ⟨cellB, hcB, hoB, hclB⟩, hPc⟩ := hp
  intro T hT X
  obtain ⟨v, vm₁, ⟨U', l2, c2, s2⟩, hW₁, X', ⟨g', mk, t, L, e1, e2, hq, h1, hL, h2, h3⟩, st⟩ := vx_callVW X hx (C := C) (hh := hh) (bytes := bytes) (maxL := maxL) (ret := ret) ho hl hin hse hcode hy hK (by rw [hT]; exact hcB) hoB hclB hg (hsize.trans hml.symm) (argsL := As) (rest := rest) (fun sig h => hn.trans (hlen sig h)) hstack hW (by rw [hb]; exact hdg)
    (fun vm₁ hW₁ => ⟨hf.1, hf.2, hPc (T.setVm vm₁) hT hW₁⟩)
  dsimp only [Pt.U, Pt.locs, Pt.cells, Pt.slots] at X' e1 e2 h1 h2 h3 st
  subst h1; subst h2; subst h3
  exact ⟨v, (T.setVm vm₁).calling g' mk (Value.ref b :: As).toArray, t, U', L, hT, X', hL, e1, e2, hq, st⟩
section
variable {y : MethodName} {bytes cc : ByteArray} {maxL nL mc ms n index : Nat} {ret : Option FieldType} {ws : List Cond} {rm : Room} {Pc : Array Value → State → Prop} {Qc : Array Value → State → Outcome → State → Prop} {XC : String → State → State → Prop} {free : Addr → Prop} {Ts : List Cond} {own C : String} {b : Addr} {As rest : List Value} {g : JFrame}
theorem vx_runVX {hh : List (Nat × Nat × Nat × Nat)} (S : CallFix p m c cc nL s args Ts own) (hM : vx_Met l y ws rm Pc Qc XC mc ms free) (cw : vx_CVW R s args own C index y bytes maxL ret hh ws rm mc ms n) (hp : PreV s H C b Pc As)
    (hg : g.method = m) (hn : As.length = n) (hsize : g.locals.size = nL) (hstack : g.stack = As.reverse ++ .ref b :: rest) (hW : 2 * g.monitorRoom + (rest.map fun v => v.category).sum ≤ 8) (hdg : decode cc g.pc = .ok (.invokevirtual index, 3)) (hf : cells + mc ≤ R.cells ∧ slots + ms ≤ R.slots) :
    vx_Run p l e R s m args below meth c H locs cells slots mc ms g rest (Qc (Value.ref b :: As).toArray) XC free := by
  obtain ⟨⟨hrc, hrs, hfr, hlo, hws, hcw⟩, hcode, hini, hy, hlen, hl, hin, hse⟩ := cw
  have hK : vx_Back l R p e below s args y 3 8 (PreOf R mc ms Pc) (PostOf Qc mc ms free) (vx_Post XC mc ms free) := vx_backW (hh := hh) (bytes := bytes) (maxL := maxL) (ret := ret) hM hp.1 hrc hrs hfr hlo hws hcw (fun a' U hW => word_at hW (Or.inl (by first | rfl | simp [Cond.onTables, Cond.keeps, Cond.steady])) hini)
  obtain ⟨hx, hb, hml, ho, -⟩ := S
  obtain ⟨-, ⟨cellB, hcB, hoB, hclB⟩, hPc⟩ := hp
  intro T hT X
  rcases vx_callVX X hx (C := C) (hh := hh) (bytes := bytes) (maxL := maxL) (ret := ret) ho hl hin hse hcode hy hK (by rw [hT]; exact hcB) hoB hclB hg (hsize.trans hml.symm) (argsL := As) (rest := rest) (fun sig h => hn.trans (hlen sig h)) hstack hW (by rw [hb]; exact hdg)
    (fun vm₁ hW₁ => ⟨hf.1, hf.2, hPc (T.setVm vm₁) hT hW₁⟩) with ⟨v, vm₁, ⟨U', l2, c2, s2⟩, hW₁, X', ⟨g', mk, t, L, e1, e2, hq, h1, hL, h2, h3⟩, st⟩ | ⟨q, vm₁, ⟨U', l2, c2, s2⟩, hW₁, X', ⟨g', mk, t, L, E, ce, e1, e2, hq, hce, hcv, hcl, h1, hL, h2, h3⟩, st⟩
  · dsimp only [Pt.U, Pt.locs, Pt.cells, Pt.slots] at X' e1 e2 h1 h2 h3 st
    subst h1; subst h2; subst h3
    exact Or.inl ⟨v, (T.setVm vm₁).calling g' mk (Value.ref b :: As).toArray, t, U', L, hT, X', hL, e1, e2, hq, st⟩
  · dsimp only [Pt.U, Pt.locs, Pt.cells, Pt.slots] at X' e1 e2 h1 h2 h3 st hcl
    subst h1; subst h2; subst h3
    exact Or.inr ⟨q, (T.setVm vm₁).calling g' mk (Value.ref b :: As).toArray, t, U', L, E, ce, hT, X', hL, e1, e2, hq, hce, hcv, vx_cls hW₁ hcl, st⟩
theorem vx_runSX {hh : List (Nat × Nat × Nat × Nat)} (S : CallFix p m c cc nL s args Ts own) (hM : vx_Met l y ws rm Pc Qc XC mc ms free) (cw : vx_CSW R s args own index y bytes maxL ret hh ws rm mc ms n) (hp : PreS s H Pc As)
    (hg : g.method = m) (hn : As.length = n) (hsize : g.locals.size = nL) (hstack : g.stack = As.reverse ++ rest) (hW : 2 * g.monitorRoom + (rest.map fun v => v.category).sum ≤ 8) (hdg : decode cc g.pc = .ok (.invokestatic index, 3)) (hf : cells + mc ≤ R.cells ∧ slots + ms ≤ R.slots) :
    vx_Run p l e R s m args below meth c H locs cells slots mc ms g rest (Qc As.toArray) XC free := by
  obtain ⟨⟨hrc, hrs, hfr, hlo, hws, hcw⟩, hcode, hini, hy, hlen, hl, hstt⟩ := cw
  have hK : vx_Back l R p e below s args y 3 8 (PreOf R mc ms Pc) (PostOf Qc mc ms free) (vx_Post XC mc ms free) := vx_backW (hh := hh) (bytes := bytes) (maxL := maxL) (ret := ret) hM hp.1 hrc hrs hfr hlo hws hcw (fun a' U hW => word_at hW (Or.inl (by first | rfl | simp [Cond.onTables, Cond.keeps, Cond.steady])) hini)
  obtain ⟨hx, hb, hml, ho, -⟩ := S
  intro T hT X
  rcases vx_callSX X hx (hh := hh) (bytes := bytes) (maxL := maxL) (ret := ret) ho hl hstt hini hcode hy hK hg (hsize.trans hml.symm) (argsL := As) (rest := rest) (fun sig h => hn.trans (hlen sig h)) hstack hW (by rw [hb]; exact hdg)
    (fun vm₁ hW₁ => ⟨hf.1, hf.2, hp.2 (T.setVm vm₁) hT hW₁⟩) with ⟨v, vm₁, ⟨U', l2, c2, s2⟩, hW₁, X', ⟨g', mk, t, L, e1, e2, hq, h1, hL, h2, h3⟩, st⟩ | ⟨q, vm₁, ⟨U', l2, c2, s2⟩, hW₁, X', ⟨g', mk, t, L, E, ce, e1, e2, hq, hce, hcv, hcl, h1, hL, h2, h3⟩, st⟩
  · dsimp only [Pt.U, Pt.locs, Pt.cells, Pt.slots] at X' e1 e2 h1 h2 h3 st
    subst h1; subst h2; subst h3
    exact Or.inl ⟨v, (T.setVm vm₁).calling g' mk As.toArray, t, U', L, hT, X', hL, e1, e2, hq, st⟩
  · dsimp only [Pt.U, Pt.locs, Pt.cells, Pt.slots] at X' e1 e2 h1 h2 h3 st hcl
    subst h1; subst h2; subst h3
    exact Or.inr ⟨q, (T.setVm vm₁).calling g' mk As.toArray, t, U', L, E, ce, hT, X', hL, e1, e2, hq, hce, hcv, vx_cls hW₁ hcl, st⟩
end
end VXH
theorem vx_ofWH {l : Launch} {y : MethodName} {ws ws' : List Cond} {rm : Room} {Pc : Array Value → State → Prop} {Qc : Array Value → State → Outcome → State → Prop} {XC : String → State → State → Prop} {mc ms : Nat} {free : Addr → Prop} {cc : ByteArray} {maxL : Nat} {ret : Option FieldType} {hh : List (Nat × Nat × Nat × Nat)}
    (hy : plainName y.cls = true) (hw : ws = Cond.codeWith y cc maxL ret hh :: ws')
    (body : ∀ p e s m args below meth c s₁, BodyLoose p l y (headSpec ws rm) cc maxL ret e s m args below meth c s₁ → c.maxLocals = maxL → Pc args s →
      W p l e (headSpec ws rm).room s m args below meth c s.heap [] 0 0 (vx_MQ below Qc XC args s mc ms free) (entryFrame m args maxL)) : vx_Met l y ws rm Pc Qc XC mc ms free := by
  refine MetFree.of_bodyS (code := cc) (maxLocals := maxL) (ret := ret) hy ?_ ?_
  · intro args s m h hn
    obtain ⟨m9, meth, c, hn9, h1, h2, h3, h4, -, h5, h6, -⟩ := Cond.codeWith_spec (atoms_spec (ws := ws) h _ (by rw [hw]; exact List.mem_cons_self))
    cases hn.symm.trans hn9
    exact ⟨meth, c, h1, h2, h3, h4, h5, h6⟩
  · intro p e s m args below meth c s₁ B hml hP _
    have hh0 : s₁.heap = s.heap := by rw [B.state]; rfl
    obtain ⟨t, a1, o, b1, b2, b3⟩ := body p e s m args below meth c s₁ B hml hP s₁ hh0 (Stand.of_body B)
    exact ⟨t, o, a1, b1, b2, b3⟩
/-! ===== END ===== -/
end
section
/-! ===== BEGIN printed: names, fields, word lists, decode rows ===== -/
def RX0 : String := "WatchPoses$OrderText"
def TX0 : u_T := fun k => match k with
  | 0 => ("WatchPoses$OrderText", "codes", "[I", true)
  | 1 => ("WatchPoses$OrderText", "length", "I", false)
  | 2 => ("WatchPoses$OrderText", "kinds", "[I", true)
  | 3 => ("WatchPoses$OrderText", "numbers", "[I", true)
  | 4 => ("WatchPoses$OrderText", "parts", "I", false)
  | 5 => ("WatchPoses$OrderText", "kind", "I", false)
  | 6 => ("WatchPoses$OrderText", "negative", "Z", false)
  | 7 => ("WatchPoses$OrderText", "digits", "I", false)
  | _ => ("WatchPoses$OrderText", "value", "I", false)
def tyX0 : Nat → FieldType := fun k => match k with
  | 0 => .array .int
  | 1 => .int
  | 2 => .array .int
  | 3 => .array .int
  | 4 => .int
  | 5 => .int
  | 6 => .boolean
  | 7 => .int
  | _ => .int
abbrev wsX00 : List Cond := u_ws RX0 TX0 9
theorem nmX0 : ∀ a, a < 9 → ∀ b, b < 9 → a ≠ b → (TX0 a).2.1 ≠ (TX0 b).2.1 := by decide +kernel
theorem tyX0_ok : ∀ k, k < 9 → parseFieldDescriptor (TX0 k).2.2.1 = some (tyX0 k) := by decide +kernel
abbrev cX0_init : ByteArray := prog_2_method_1_code
def yX0_init : MethodName := ⟨RX0, "<init>", "()V"⟩
def RX1 : String := "WatchPoses$Paper"
def TX1 : u_T := fun k => match k with
  | 0 => ("WatchPoses$Paper", "row", "[I", true)
  | _ => ("WatchPoses$Paper", "length", "I", false)
def tyX1 : Nat → FieldType := fun k => match k with
  | 0 => .array .int
  | _ => .int
abbrev wsX10 : List Cond := u_ws RX1 TX1 2
theorem nmX1 : ∀ a, a < 2 → ∀ b, b < 2 → a ≠ b → (TX1 a).2.1 ≠ (TX1 b).2.1 := by decide +kernel
theorem tyX1_ok : ∀ k, k < 2 → parseFieldDescriptor (TX1 k).2.2.1 = some (tyX1 k) := by decide +kernel
abbrev cX1_init : ByteArray := prog_3_method_1_code
def yX1_init : MethodName := ⟨RX1, "<init>", "()V"⟩
abbrev cX1_isFull : ByteArray := prog_3_method_2_code
def yX1_isFull : MethodName := ⟨RX1, "isFull", "()Z"⟩
abbrev cX1_print : ByteArray := prog_3_method_3_code
def yX1_print : MethodName := ⟨RX1, "print", "(LWatchPoses$Watch;)V"⟩
abbrev cX1_number : ByteArray := prog_3_method_4_code
def yX1_number : MethodName := ⟨RX1, "number", "(II)I"⟩
abbrev cX1_latestIn : ByteArray := prog_3_method_5_code
def yX1_latestIn : MethodName := ⟨RX1, "latestIn", "(I)I"⟩
abbrev cX1_readingsIn : ByteArray := prog_3_method_6_code
def yX1_readingsIn : MethodName := ⟨RX1, "readingsIn", "(I)I"⟩
abbrev cX1_copyFrom : ByteArray := prog_3_method_7_code
def yX1_copyFrom : MethodName := ⟨RX1, "copyFrom", "(LWatchPoses$Paper;)V"⟩
def RX2 : String := "WatchPoses$SavedStates"
def TX2 : u_T := fun k => match k with
  | 0 => ("WatchPoses$SavedStates", "ring", "[LWatchPoses$State;", true)
  | 1 => ("WatchPoses$SavedStates", "next", "I", false)
  | _ => ("WatchPoses$SavedStates", "size", "I", false)
def tyX2 : Nat → FieldType := fun k => match k with
  | 0 => .array (.object "WatchPoses$State")
  | 1 => .int
  | _ => .int
abbrev wsX20 : List Cond := u_ws RX2 TX2 3
theorem nmX2 : ∀ a, a < 3 → ∀ b, b < 3 → a ≠ b → (TX2 a).2.1 ≠ (TX2 b).2.1 := by decide +kernel
theorem tyX2_ok : ∀ k, k < 3 → parseFieldDescriptor (TX2 k).2.2.1 = some (tyX2 k) := by decide +kernel
abbrev cX2_init : ByteArray := prog_4_method_1_code
def yX2_init : MethodName := ⟨RX2, "<init>", "()V"⟩
abbrev cX2_push : ByteArray := prog_4_method_2_code
def yX2_push : MethodName := ⟨RX2, "push", "(LWatchPoses$State;)V"⟩
abbrev cX2_popInto : ByteArray := prog_4_method_3_code
def yX2_popInto : MethodName := ⟨RX2, "popInto", "(LWatchPoses$State;)V"⟩
def RX3 : String := "WatchPoses$State"
def TX3 : u_T := fun k => match k with
  | 0 => ("WatchPoses$State", "watch", "LWatchPoses$Watch;", true)
  | 1 => ("WatchPoses$State", "paper", "LWatchPoses$Paper;", true)
  | 2 => ("WatchPoses$State", "settings", "[I", true)
  | 3 => ("WatchPoses$State", "readings", "I", false)
  | 4 => ("WatchPoses$State", "stopPart", "I", false)
  | 5 => ("WatchPoses$State", "stopReason", "I", false)
  | _ => ("WatchPoses$State", "stopPose", "I", false)
def tyX3 : Nat → FieldType := fun k => match k with
  | 0 => .object "WatchPoses$Watch"
  | 1 => .object "WatchPoses$Paper"
  | 2 => .array .int
  | 3 => .int
  | 4 => .int
  | 5 => .int
  | _ => .int
abbrev wsX30 : List Cond := u_ws RX3 TX3 7
theorem nmX3 : ∀ a, a < 7 → ∀ b, b < 7 → a ≠ b → (TX3 a).2.1 ≠ (TX3 b).2.1 := by decide +kernel
theorem tyX3_ok : ∀ k, k < 7 → parseFieldDescriptor (TX3 k).2.2.1 = some (tyX3 k) := by decide +kernel
abbrev cX3_init : ByteArray := prog_5_method_1_code
def yX3_init : MethodName := ⟨RX3, "<init>", "()V"⟩
abbrev cX3_whyNoReading : ByteArray := prog_5_method_2_code
def yX3_whyNoReading : MethodName := ⟨RX3, "whyNoReading", "(I)I"⟩
abbrev cX3_makeReading : ByteArray := prog_5_method_3_code
def yX3_makeReading : MethodName := ⟨RX3, "makeReading", "(I)V"⟩
abbrev cX3_whyNoDayRate : ByteArray := prog_5_method_4_code
def yX3_whyNoDayRate : MethodName := ⟨RX3, "whyNoDayRate", "()I"⟩
abbrev cX3_dayRateByPoses : ByteArray := prog_5_method_5_code
def yX3_dayRateByPoses : MethodName := ⟨RX3, "dayRateByPoses", "()I"⟩
abbrev cX3_dayRateByPaper : ByteArray := prog_5_method_6_code
def yX3_dayRateByPaper : MethodName := ⟨RX3, "dayRateByPaper", "()I"⟩
abbrev cX3_copyFrom : ByteArray := prog_5_method_10_code
def yX3_copyFrom : MethodName := ⟨RX3, "copyFrom", "(LWatchPoses$State;)V"⟩
def RX4 : String := "WatchPoses$Watch"
def TX4 : u_T := fun k => match k with
  | 0 => ("WatchPoses$Watch", "weights", "[I", true)
  | 1 => ("WatchPoses$Watch", "regulator", "I", false)
  | 2 => ("WatchPoses$Watch", "stud", "I", false)
  | 3 => ("WatchPoses$Watch", "hoursLeft", "I", false)
  | 4 => ("WatchPoses$Watch", "magnetism", "I", false)
  | 5 => ("WatchPoses$Watch", "dirt", "I", false)
  | 6 => ("WatchPoses$Watch", "lies", "I", false)
  | 7 => ("WatchPoses$Watch", "hour", "I", false)
  | 8 => ("WatchPoses$Watch", "error", "I", false)
  | 9 => ("WatchPoses$Watch", "stood", "I", false)
  | _ => ("WatchPoses$Watch", "went", "I", false)
def tyX4 : Nat → FieldType := fun k => match k with
  | 0 => .array .int
  | 1 => .int
  | 2 => .int
  | 3 => .int
  | 4 => .int
  | 5 => .int
  | 6 => .int
  | 7 => .int
  | 8 => .int
  | 9 => .int
  | _ => .int
abbrev wsX40 : List Cond := u_ws RX4 TX4 11
theorem nmX4 : ∀ a, a < 11 → ∀ b, b < 11 → a ≠ b → (TX4 a).2.1 ≠ (TX4 b).2.1 := by decide +kernel
theorem tyX4_ok : ∀ k, k < 11 → parseFieldDescriptor (TX4 k).2.2.1 = some (tyX4 k) := by decide +kernel
abbrev cX4_init : ByteArray := prog_6_method_1_code
def yX4_init : MethodName := ⟨RX4, "<init>", "()V"⟩
abbrev cX4_weightOf : ByteArray := prog_6_method_2_code
def yX4_weightOf : MethodName := ⟨RX4, "weightOf", "(I)I"⟩
abbrev cX4_putWeight : ByteArray := prog_6_method_3_code
def yX4_putWeight : MethodName := ⟨RX4, "putWeight", "(II)V"⟩
abbrev cX4_tighten : ByteArray := prog_6_method_4_code
def yX4_tighten : MethodName := ⟨RX4, "tighten", "(I)V"⟩
abbrev cX4_swingIn : ByteArray := prog_6_method_5_code
def yX4_swingIn : MethodName := ⟨RX4, "swingIn", "(I)I"⟩
abbrev cX4_rateIn : ByteArray := prog_6_method_6_code
def yX4_rateIn : MethodName := ⟨RX4, "rateIn", "(I)I"⟩
abbrev cX4_beatErrorIn : ByteArray := prog_6_method_7_code
def yX4_beatErrorIn : MethodName := ⟨RX4, "beatErrorIn", "(I)I"⟩
abbrev cX4_goes : ByteArray := prog_6_method_8_code
def yX4_goes : MethodName := ⟨RX4, "goes", "()Z"⟩
abbrev cX4_run : ByteArray := prog_6_method_9_code
def yX4_run : MethodName := ⟨RX4, "run", "(I)I"⟩
abbrev cX4_runHour : ByteArray := prog_6_method_10_code
def yX4_runHour : MethodName := ⟨RX4, "runHour", "()V"⟩
abbrev cX4_copyFrom : ByteArray := prog_6_method_11_code
def yX4_copyFrom : MethodName := ⟨RX4, "copyFrom", "(LWatchPoses$Watch;)V"⟩
def RX5 : String := "WatchPoses"
def TX5 : u_T := fun k => match k with
  | 0 => ("WatchPoses", "now", "LWatchPoses$State;", true)
  | 1 => ("WatchPoses", "snapshot", "LWatchPoses$State;", true)
  | 2 => ("WatchPoses", "saved", "LWatchPoses$SavedStates;", true)
  | 3 => ("WatchPoses", "text", "LWatchPoses$OrderText;", true)
  | 4 => ("WatchPoses", "trial", "LWatchPoses$Watch;", true)
  | _ => ("WatchPoses", "hasSnapshot", "Z", false)
def tyX5 : Nat → FieldType := fun k => match k with
  | 0 => .object "WatchPoses$State"
  | 1 => .object "WatchPoses$State"
  | 2 => .object "WatchPoses$SavedStates"
  | 3 => .object "WatchPoses$OrderText"
  | 4 => .object "WatchPoses$Watch"
  | _ => .boolean
abbrev wsX50 : List Cond := u_ws RX5 TX5 6
theorem nmX5 : ∀ a, a < 6 → ∀ b, b < 6 → a ≠ b → (TX5 a).2.1 ≠ (TX5 b).2.1 := by decide +kernel
theorem tyX5_ok : ∀ k, k < 6 → parseFieldDescriptor (TX5 k).2.2.1 = some (tyX5 k) := by decide +kernel
abbrev cX5_init : ByteArray := prog_1_method_1_code
def yX5_init : MethodName := ⟨RX5, "<init>", "()V"⟩
abbrev cX5_wind : ByteArray := prog_1_method_2_code
def yX5_wind : MethodName := ⟨RX5, "wind", "(I)I"⟩
abbrev cX5_weigh : ByteArray := prog_1_method_3_code
def yX5_weigh : MethodName := ⟨RX5, "weigh", "(II)I"⟩
abbrev cX5_adjust : ByteArray := prog_1_method_4_code
def yX5_adjust : MethodName := ⟨RX5, "adjust", "(II)I"⟩
abbrev cX5_magnetise : ByteArray := prog_1_method_5_code
def yX5_magnetise : MethodName := ⟨RX5, "magnetise", "(I)I"⟩
abbrev cX5_demagnetise : ByteArray := prog_1_method_6_code
def yX5_demagnetise : MethodName := ⟨RX5, "demagnetise", "()I"⟩
abbrev cX5_clean : ByteArray := prog_1_method_7_code
def yX5_clean : MethodName := ⟨RX5, "clean", "()I"⟩
abbrev cX5_lay : ByteArray := prog_1_method_8_code
def yX5_lay : MethodName := ⟨RX5, "lay", "(I)I"⟩
abbrev cX5_pass : ByteArray := prog_1_method_9_code
def yX5_pass : MethodName := ⟨RX5, "pass", "(I)I"⟩
abbrev cX5_read : ByteArray := prog_1_method_10_code
def yX5_read : MethodName := ⟨RX5, "read", "(I)I"⟩
abbrev cX5_renew : ByteArray := prog_1_method_11_code
def yX5_renew : MethodName := ⟨RX5, "renew", "()I"⟩
abbrev cX5_set : ByteArray := prog_1_method_12_code
def yX5_set : MethodName := ⟨RX5, "set", "(II)I"⟩
abbrev cX5_undo : ByteArray := prog_1_method_18_code
def yX5_undo : MethodName := ⟨RX5, "undo", "()I"⟩
abbrev cX5_restore : ByteArray := prog_1_method_20_code
def yX5_restore : MethodName := ⟨RX5, "restore", "()I"⟩
abbrev cX5_pose : ByteArray := prog_1_method_21_code
def yX5_pose : MethodName := ⟨RX5, "pose", "(II)I"⟩
abbrev cX5_reading : ByteArray := prog_1_method_22_code
def yX5_reading : MethodName := ⟨RX5, "reading", "(II)I"⟩
abbrev cX5_count : ByteArray := prog_1_method_23_code
def yX5_count : MethodName := ⟨RX5, "count", "(I)I"⟩
abbrev cX5_ifWorn : ByteArray := prog_1_method_24_code
def yX5_ifWorn : MethodName := ⟨RX5, "ifWorn", "(IIII)I"⟩
abbrev cX5_bestRegulator : ByteArray := prog_1_method_25_code
def yX5_bestRegulator : MethodName := ⟨RX5, "bestRegulator", "()I"⟩
abbrev cX5_stopsIn : ByteArray := prog_1_method_26_code
def yX5_stopsIn : MethodName := ⟨RX5, "stopsIn", "(I)I"⟩
abbrev cX5_nightPose : ByteArray := prog_1_method_27_code
def yX5_nightPose : MethodName := ⟨RX5, "nightPose", "()I"⟩
abbrev cX5_going : ByteArray := prog_1_method_28_code
def yX5_going : MethodName := ⟨RX5, "going", "()D"⟩
abbrev cX5_isPose : ByteArray := prog_1_method_30_code
def yX5_isPose : MethodName := ⟨RX5, "isPose", "(I)Z"⟩
abbrev cX5_demandPose : ByteArray := prog_1_method_31_code
def yX5_demandPose : MethodName := ⟨RX5, "demandPose", "(I)V"⟩
abbrev cX5_demandRange : ByteArray := prog_1_method_32_code
def yX5_demandRange : MethodName := ⟨RX5, "demandRange", "(III)V"⟩
abbrev cX5_poseNumber : ByteArray := prog_1_method_35_code
def yX5_poseNumber : MethodName := ⟨RX5, "poseNumber", "(II)I"⟩
abbrev cX5_readingNumber : ByteArray := prog_1_method_36_code
def yX5_readingNumber : MethodName := ⟨RX5, "readingNumber", "(II)I"⟩
abbrev cX5_countNumber : ByteArray := prog_1_method_37_code
def yX5_countNumber : MethodName := ⟨RX5, "countNumber", "(I)I"⟩
abbrev cX5_wornNumber : ByteArray := prog_1_method_38_code
def yX5_wornNumber : MethodName := ⟨RX5, "wornNumber", "(IIII)I"⟩
abbrev cX5_hoursUntilStop : ByteArray := prog_1_method_39_code
def yX5_hoursUntilStop : MethodName := ⟨RX5, "hoursUntilStop", "(I)I"⟩
def RX6 : String := "WatchPosesModel"
def TX6 : u_T := fun k => match k with
  | _ => ("", "", "", false)
def tyX6 : Nat → FieldType := fun k => match k with
  | _ => .int
abbrev wsX60 : List Cond := u_ws RX6 TX6 0
theorem nmX6 : ∀ a, a < 0 → ∀ b, b < 0 → a ≠ b → (TX6 a).2.1 ≠ (TX6 b).2.1 := by decide +kernel
theorem tyX6_ok : ∀ k, k < 0 → parseFieldDescriptor (TX6 k).2.2.1 = some (tyX6 k) := by decide +kernel
def RJx8e188 : String := "java/lang/Cloneable"
def TJx8e188 : u_T := fun k => match k with
  | _ => ("", "", "", false)
def tyJx8e188 : Nat → FieldType := fun k => match k with
  | _ => .int
abbrev wsJx8e1880 : List Cond := u_ws RJx8e188 TJx8e188 0
theorem nmJx8e188 : ∀ a, a < 0 → ∀ b, b < 0 → a ≠ b → (TJx8e188 a).2.1 ≠ (TJx8e188 b).2.1 := by decide +kernel
theorem tyJx8e188_ok : ∀ k, k < 0 → parseFieldDescriptor (TJx8e188 k).2.2.1 = some (tyJx8e188 k) := by decide +kernel
def RJ9 : String := "java/lang/Math"
def TJ9 : u_T := fun k => match k with
  | _ => ("", "", "", false)
def tyJ9 : Nat → FieldType := fun k => match k with
  | _ => .int
abbrev wsJ90 : List Cond := u_ws RJ9 TJ9 0
theorem nmJ9 : ∀ a, a < 0 → ∀ b, b < 0 → a ≠ b → (TJ9 a).2.1 ≠ (TJ9 b).2.1 := by decide +kernel
theorem tyJ9_ok : ∀ k, k < 0 → parseFieldDescriptor (TJ9 k).2.2.1 = some (tyJ9 k) := by decide +kernel
abbrev cJ9_floorDiv_7cf53 : ByteArray := prog_14_method_47_code
def yJ9_floorDiv_7cf53 : MethodName := ⟨RJ9, "floorDiv", "(II)I"⟩
abbrev cJ9_abs_0f7a4 : ByteArray := prog_14_method_59_code
def yJ9_abs_0f7a4 : MethodName := ⟨RJ9, "abs", "(I)I"⟩
abbrev cJ9_max_7cf53 : ByteArray := prog_14_method_65_code
def yJ9_max_7cf53 : MethodName := ⟨RJ9, "max", "(II)I"⟩
abbrev cJ9_min_7cf53 : ByteArray := prog_14_method_69_code
def yJ9_min_7cf53 : MethodName := ⟨RJ9, "min", "(II)I"⟩
def RJ0 : String := "java/lang/String"
def TJ0 : u_T := fun k => match k with
  | _ => ("", "", "", false)
def tyJ0 : Nat → FieldType := fun k => match k with
  | _ => .int
abbrev wsJ00 : List Cond := u_ws RJ0 TJ0 0
theorem nmJ0 : ∀ a, a < 0 → ∀ b, b < 0 → a ≠ b → (TJ0 a).2.1 ≠ (TJ0 b).2.1 := by decide +kernel
theorem tyJ0_ok : ∀ k, k < 0 → parseFieldDescriptor (TJ0 k).2.2.1 = some (tyJ0 k) := by decide +kernel
def RJ10 : String := "java/lang/System"
def TJ10 : u_T := fun k => match k with
  | _ => ("", "", "", false)
def tyJ10 : Nat → FieldType := fun k => match k with
  | _ => .int
abbrev wsJ100 : List Cond := u_ws RJ10 TJ10 0
theorem nmJ10 : ∀ a, a < 0 → ∀ b, b < 0 → a ≠ b → (TJ10 a).2.1 ≠ (TJ10 b).2.1 := by decide +kernel
theorem tyJ10_ok : ∀ k, k < 0 → parseFieldDescriptor (TJ10 k).2.2.1 = some (tyJ10 k) := by decide +kernel
def RL : String := "WatchPosesLaw"
abbrev cL_cell : ByteArray := method_2_code
def yL_cell : MethodName := ⟨RL, "cell", "([II)I"⟩
abbrev cL_low : ByteArray := method_3_code
def yL_low : MethodName := ⟨RL, "low", "(II)I"⟩
abbrev cL_wind : ByteArray := method_4_code
def yL_wind : MethodName := ⟨RL, "wind", "(LWatchPoses;I)I"⟩
abbrev cL_weigh : ByteArray := method_5_code
def yL_weigh : MethodName := ⟨RL, "weigh", "(LWatchPoses;II)I"⟩
abbrev cL_adjust : ByteArray := method_6_code
def yL_adjust : MethodName := ⟨RL, "adjust", "(LWatchPoses;II)I"⟩
abbrev cL_magnetise : ByteArray := method_7_code
def yL_magnetise : MethodName := ⟨RL, "magnetise", "(LWatchPoses;I)I"⟩
abbrev cL_lay : ByteArray := method_8_code
def yL_lay : MethodName := ⟨RL, "lay", "(LWatchPoses;I)I"⟩
abbrev cL_pass : ByteArray := method_9_code
def yL_pass : MethodName := ⟨RL, "pass", "(LWatchPoses;I)I"⟩
abbrev cL_read : ByteArray := method_10_code
def yL_read : MethodName := ⟨RL, "read", "(LWatchPoses;I)I"⟩
abbrev cL_set : ByteArray := method_11_code
def yL_set : MethodName := ⟨RL, "set", "(LWatchPoses;II)I"⟩
abbrev cL_undo : ByteArray := method_12_code
def yL_undo : MethodName := ⟨RL, "undo", "(LWatchPoses;)I"⟩
abbrev cL_restore : ByteArray := method_13_code
def yL_restore : MethodName := ⟨RL, "restore", "(LWatchPoses;)I"⟩
abbrev cL_pose : ByteArray := method_14_code
def yL_pose : MethodName := ⟨RL, "pose", "(LWatchPoses;II)I"⟩
abbrev cL_reading : ByteArray := method_15_code
def yL_reading : MethodName := ⟨RL, "reading", "(LWatchPoses;II)I"⟩
abbrev cL_swing : ByteArray := method_16_code
def yL_swing : MethodName := ⟨RL, "swing", "([II)I"⟩
abbrev cL_goes : ByteArray := method_17_code
def yL_goes : MethodName := ⟨RL, "goes", "([II)Z"⟩
abbrev cL_down : ByteArray := method_18_code
def yL_down : MethodName := ⟨RL, "down", "(II)I"⟩
abbrev cL_rate : ByteArray := method_19_code
def yL_rate : MethodName := ⟨RL, "rate", "([II)I"⟩
abbrev cL_beat : ByteArray := method_20_code
def yL_beat : MethodName := ⟨RL, "beat", "([II)I"⟩
abbrev cL_why : ByteArray := method_21_code
def yL_why : MethodName := ⟨RL, "why", "([II)I"⟩
abbrev cL_hour : ByteArray := method_22_code
def yL_hour : MethodName := ⟨RL, "hour", "([I)V"⟩
abbrev cL_hours : ByteArray := method_23_code
def yL_hours : MethodName := ⟨RL, "hours", "([II)I"⟩
abbrev cL_copy : ByteArray := method_24_code
def yL_copy : MethodName := ⟨RL, "copy", "([I[I)V"⟩
abbrev cL_latest : ByteArray := method_25_code
def yL_latest : MethodName := ⟨RL, "latest", "([I[II)I"⟩
abbrev cL_arePoses : ByteArray := method_26_code
def yL_arePoses : MethodName := ⟨RL, "arePoses", "(LWatchPoses;[I[I[I)Z"⟩
abbrev cL_isAhead : ByteArray := method_27_code
def yL_isAhead : MethodName := ⟨RL, "isAhead", "(LWatchPoses;[II)Z"⟩
abbrev cL_isSo : ByteArray := method_28_code
def yL_isSo : MethodName := ⟨RL, "isSo", "(LWatchPoses;[I[I[I[I)Z"⟩
abbrev cL_act : ByteArray := method_29_code
def yL_act : MethodName := ⟨RL, "act", "(LWatchPoses;II[I[I[I[I)Z"⟩
abbrev cL_law : ByteArray := code
def yL_law : MethodName := ⟨RL, "law", "([I)Z"⟩
def wsX0_init : List Cond := .code yX0_init cX0_init 1 none :: ([.methodLink RX0 3 objectInit, .instanceMethod objectInit, .code objectInit ⟨#[0xb1]⟩ 1 none, .arrayClass .int, .fieldLink RX0 11 "WatchPoses$OrderText" "codes" "[I", .fieldLink RX0 15 "WatchPoses$OrderText" "length" "I", .fieldLink RX0 19 "WatchPoses$OrderText" "kinds" "[I", .fieldLink RX0 22 "WatchPoses$OrderText" "numbers" "[I", .fieldLink RX0 25 "WatchPoses$OrderText" "parts" "I", .fieldLink RX0 28 "WatchPoses$OrderText" "kind" "I", .fieldLink RX0 31 "WatchPoses$OrderText" "negative" "Z", .fieldLink RX0 35 "WatchPoses$OrderText" "digits" "I", .fieldLink RX0 38 "WatchPoses$OrderText" "value" "I"] ++ wsX00)
def wsX1_init : List Cond := .code yX1_init cX1_init 1 none :: ([.methodLink RX1 3 objectInit, .instanceMethod objectInit, .code objectInit ⟨#[0xb1]⟩ 1 none, .arrayClass .int, .fieldLink RX1 11 "WatchPoses$Paper" "row" "[I", .fieldLink RX1 15 "WatchPoses$Paper" "length" "I"] ++ wsX10)
def wsX1_isFull : List Cond := .code yX1_isFull cX1_isFull 1 (some .boolean) :: ([.fieldLink RX1 15 "WatchPoses$Paper" "length" "I"] ++ wsX10)
def wsX4_swingIn : List Cond := .code yX4_swingIn cX4_swingIn 3 (some .int) :: ([.fieldLink RX4 30 "WatchPoses$Watch" "hoursLeft" "I", .fieldLink RX4 36 "WatchPoses$Watch" "dirt" "I", .methodLink RX4 64 Lib.Math.max.name, .static Lib.Math.max.name, .initialized "java/lang/Math", .code Lib.Math.max.name Lib.Math.max.code 2 (some .int)] ++ wsX40)
def wsX5_isPose : List Cond := .code yX5_isPose cX5_isPose 1 (some .boolean) :: ([])
def wsX4_weightOf : List Cond := .code yX4_weightOf cX4_weightOf 2 (some .int) :: ([.fieldLink RX4 20 "WatchPoses$Watch" "weights" "[I", .static yX5_isPose, .initialized RX5, .code yX5_isPose cX5_isPose 1 (some .boolean)] ++ wsX40)
def wsJ9_floorDiv_7cf53 : List Cond := .code yJ9_floorDiv_7cf53 cJ9_floorDiv_7cf53 3 (some .int) :: ([])
def wsX4_rateIn_r1 : List Cond := [Cond.fieldLink RX4 23 "WatchPoses$Watch" "regulator" "I", Cond.fieldLink RX4 33 "WatchPoses$Watch" "magnetism" "I", Cond.methodLink RX4 67 yX4_swingIn, Cond.instanceMethod yX4_swingIn, Cond.selects RX4 yX4_swingIn yX4_swingIn, Cond.initialized RX4, Cond.code yX4_swingIn cX4_swingIn 3 (some .int), Cond.fieldLink RX4 30 "WatchPoses$Watch" "hoursLeft" "I", Cond.fieldLink RX4 36 "WatchPoses$Watch" "dirt" "I", Cond.methodLink RX4 64 Lib.Math.max.name, Cond.static Lib.Math.max.name, Cond.initialized "java/lang/Math", Cond.code Lib.Math.max.name Lib.Math.max.code 2 (some .int), Cond.methodLink RX4 71 yX4_weightOf, Cond.instanceMethod yX4_weightOf, Cond.selects RX4 yX4_weightOf yX4_weightOf, Cond.code yX4_weightOf cX4_weightOf 2 (some .int), Cond.fieldLink RX4 20 "WatchPoses$Watch" "weights" "[I", Cond.static yX5_isPose, Cond.initialized RX5, Cond.code yX5_isPose cX5_isPose 1 (some .boolean), Cond.methodLink RX4 74 yJ9_floorDiv_7cf53, Cond.static yJ9_floorDiv_7cf53, Cond.initialized RJ9]
def wsX4_rateIn_r2 : List Cond := [Cond.code yJ9_floorDiv_7cf53 cJ9_floorDiv_7cf53 3 (some .int)]
def wsX4_rateIn : List Cond := .code yX4_rateIn cX4_rateIn 4 (some .int) :: ((wsX4_rateIn_r1 ++ wsX4_rateIn_r2) ++ wsX40)
def wsX4_beatErrorIn : List Cond := .code yX4_beatErrorIn cX4_beatErrorIn 3 (some .int) :: ([.fieldLink RX4 27 "WatchPoses$Watch" "stud" "I", .methodLink RX4 77 Lib.Math.abs.name, .static Lib.Math.abs.name, .initialized "java/lang/Math", .code Lib.Math.abs.name Lib.Math.abs.code 1 (some .int), .fieldLink RX4 36 "WatchPoses$Watch" "dirt" "I"] ++ wsX40)
def wsX1_print_r1 : List Cond := [Cond.fieldLink RX1 15 "WatchPoses$Paper" "length" "I", Cond.fieldLink RX1 11 "WatchPoses$Paper" "row" "[I", Cond.fieldLink RX1 23 "WatchPoses$Watch" "hour" "I", Cond.fieldLink RX1 28 "WatchPoses$Watch" "lies" "I", Cond.methodLink RX1 19 yX1_isFull, Cond.instanceMethod yX1_isFull, Cond.selects RX1 yX1_isFull yX1_isFull, Cond.initialized RX1, Cond.code yX1_isFull cX1_isFull 1 (some .boolean), Cond.methodLink RX1 31 yX4_rateIn, Cond.instanceMethod yX4_rateIn, Cond.selects RX4 yX4_rateIn yX4_rateIn, Cond.initialized RX4, Cond.code yX4_rateIn cX4_rateIn 4 (some .int), Cond.fieldLink RX4 23 "WatchPoses$Watch" "regulator" "I", Cond.fieldLink RX4 33 "WatchPoses$Watch" "magnetism" "I", Cond.methodLink RX4 67 yX4_swingIn, Cond.instanceMethod yX4_swingIn, Cond.selects RX4 yX4_swingIn yX4_swingIn, Cond.code yX4_swingIn cX4_swingIn 3 (some .int), Cond.fieldLink RX4 30 "WatchPoses$Watch" "hoursLeft" "I", Cond.fieldLink RX4 36 "WatchPoses$Watch" "dirt" "I", Cond.methodLink RX4 64 Lib.Math.max.name, Cond.static Lib.Math.max.name]
def wsX1_print_r2 : List Cond := [Cond.initialized "java/lang/Math", Cond.code Lib.Math.max.name Lib.Math.max.code 2 (some .int), Cond.methodLink RX4 71 yX4_weightOf, Cond.instanceMethod yX4_weightOf, Cond.selects RX4 yX4_weightOf yX4_weightOf, Cond.code yX4_weightOf cX4_weightOf 2 (some .int), Cond.fieldLink RX4 20 "WatchPoses$Watch" "weights" "[I", Cond.static yX5_isPose, Cond.initialized RX5, Cond.code yX5_isPose cX5_isPose 1 (some .boolean), Cond.methodLink RX4 74 yJ9_floorDiv_7cf53, Cond.static yJ9_floorDiv_7cf53, Cond.initialized RJ9, Cond.code yJ9_floorDiv_7cf53 cJ9_floorDiv_7cf53 3 (some .int), Cond.methodLink RX1 35 yX4_beatErrorIn, Cond.instanceMethod yX4_beatErrorIn, Cond.selects RX4 yX4_beatErrorIn yX4_beatErrorIn, Cond.code yX4_beatErrorIn cX4_beatErrorIn 3 (some .int), Cond.fieldLink RX4 27 "WatchPoses$Watch" "stud" "I", Cond.methodLink RX4 77 Lib.Math.abs.name, Cond.static Lib.Math.abs.name, Cond.code Lib.Math.abs.name Lib.Math.abs.code 1 (some .int), Cond.methodLink RX1 38 yX4_swingIn]
def wsX1_print : List Cond := .code yX1_print cX1_print 3 none :: ((wsX1_print_r1 ++ wsX1_print_r2) ++ wsX10 ++ wsX40)
def wsX1_number : List Cond := .code yX1_number cX1_number 3 (some .int) :: ([.fieldLink RX1 15 "WatchPoses$Paper" "length" "I", .fieldLink RX1 11 "WatchPoses$Paper" "row" "[I"] ++ wsX10)
def wsX1_latestIn : List Cond := .code yX1_latestIn cX1_latestIn 3 (some .int) :: ([.fieldLink RX1 15 "WatchPoses$Paper" "length" "I", .methodLink RX1 41 yX1_number, .instanceMethod yX1_number, .selects RX1 yX1_number yX1_number, .initialized RX1, .code yX1_number cX1_number 3 (some .int), .fieldLink RX1 11 "WatchPoses$Paper" "row" "[I"] ++ wsX10)
def wsX1_readingsIn : List Cond := .code yX1_readingsIn cX1_readingsIn 4 (some .int) :: ([.fieldLink RX1 15 "WatchPoses$Paper" "length" "I", .methodLink RX1 41 yX1_number, .instanceMethod yX1_number, .selects RX1 yX1_number yX1_number, .initialized RX1, .code yX1_number cX1_number 3 (some .int), .fieldLink RX1 11 "WatchPoses$Paper" "row" "[I"] ++ wsX10)
def wsX1_copyFrom : List Cond := .code yX1_copyFrom cX1_copyFrom 2 none :: ([.fieldLink RX1 11 "WatchPoses$Paper" "row" "[I", .methodLink RX1 45 arraycopyName, .native arraycopyName, .static arraycopyName, .initialized "java/lang/System", .fieldLink RX1 15 "WatchPoses$Paper" "length" "I"] ++ wsX10)
def wsX4_init : List Cond := .code yX4_init cX4_init 1 none :: ([.methodLink RX4 3 objectInit, .instanceMethod objectInit, .code objectInit ⟨#[0xb1]⟩ 1 none, .fieldLink RX4 9 "WatchPoses$Watch" "FIRST_WEIGHTS" "[I", .methodLink RX4 15 ⟨"[I", "clone", "()Ljava/lang/Object;"⟩, .sameMethod "[I" "java/lang/Object" "clone" "()Ljava/lang/Object;", .native ⟨"java/lang/Object", "clone", "()Ljava/lang/Object;"⟩, .instanceMethod ⟨"java/lang/Object", "clone", "()Ljava/lang/Object;"⟩, .selects "[I" ⟨"[I", "clone", "()Ljava/lang/Object;"⟩ ⟨"java/lang/Object", "clone", "()Ljava/lang/Object;"⟩, .classLink RX4 16 "[I", .fieldLink RX4 20 "WatchPoses$Watch" "weights" "[I", .fieldLink RX4 23 "WatchPoses$Watch" "regulator" "I", .fieldLink RX4 27 "WatchPoses$Watch" "stud" "I", .fieldLink RX4 30 "WatchPoses$Watch" "hoursLeft" "I", .fieldLink RX4 33 "WatchPoses$Watch" "magnetism" "I", .fieldLink RX4 36 "WatchPoses$Watch" "dirt" "I", .fieldLink RX4 39 "WatchPoses$Watch" "lies" "I", .fieldLink RX4 42 "WatchPoses$Watch" "hour" "I", .fieldLink RX4 45 "WatchPoses$Watch" "error" "I", .fieldLink RX4 48 "WatchPoses$Watch" "stood" "I", .fieldLink RX4 51 "WatchPoses$Watch" "went" "I"] ++ wsX40)
def wsX3_init_r1 : List Cond := [Cond.methodLink RX3 3 objectInit, Cond.instanceMethod objectInit, Cond.code objectInit ⟨#[0xb1]⟩ 1 none, Cond.classLink RX3 9 RX4, Cond.instantiable RX4 11, Cond.initialized RX4, Cond.fieldLink RX3 12 "WatchPoses$State" "watch" "LWatchPoses$Watch;", Cond.classLink RX3 18 RX1, Cond.instantiable RX1 2, Cond.initialized RX1, Cond.fieldLink RX3 21 "WatchPoses$State" "paper" "LWatchPoses$Paper;", Cond.fieldLink RX3 25 "WatchPoses$State" "FIRST_SETTINGS" "[I", Cond.methodLink RX3 29 ⟨"[I", "clone", "()Ljava/lang/Object;"⟩, Cond.sameMethod "[I" "java/lang/Object" "clone" "()Ljava/lang/Object;", Cond.native ⟨"java/lang/Object", "clone", "()Ljava/lang/Object;"⟩, Cond.instanceMethod ⟨"java/lang/Object", "clone", "()Ljava/lang/Object;"⟩, Cond.selects "[I" ⟨"[I", "clone", "()Ljava/lang/Object;"⟩ ⟨"java/lang/Object", "clone", "()Ljava/lang/Object;"⟩, Cond.classLink RX3 30 "[I", Cond.fieldLink RX3 34 "WatchPoses$State" "settings" "[I", Cond.fieldLink RX3 37 "WatchPoses$State" "readings" "I", Cond.fieldLink RX3 41 "WatchPoses$State" "stopPart" "I", Cond.fieldLink RX3 44 "WatchPoses$State" "stopReason" "I", Cond.fieldLink RX3 47 "WatchPoses$State" "stopPose" "I", Cond.instanceMethod yX4_init]
def wsX3_init_r2 : List Cond := [Cond.code yX4_init cX4_init 1 none, Cond.methodLink RX4 3 objectInit, Cond.fieldLink RX4 9 "WatchPoses$Watch" "FIRST_WEIGHTS" "[I", Cond.methodLink RX4 15 ⟨"[I", "clone", "()Ljava/lang/Object;"⟩, Cond.classLink RX4 16 "[I", Cond.fieldLink RX4 20 "WatchPoses$Watch" "weights" "[I", Cond.fieldLink RX4 23 "WatchPoses$Watch" "regulator" "I", Cond.fieldLink RX4 27 "WatchPoses$Watch" "stud" "I", Cond.fieldLink RX4 30 "WatchPoses$Watch" "hoursLeft" "I", Cond.fieldLink RX4 33 "WatchPoses$Watch" "magnetism" "I", Cond.fieldLink RX4 36 "WatchPoses$Watch" "dirt" "I", Cond.fieldLink RX4 39 "WatchPoses$Watch" "lies" "I", Cond.fieldLink RX4 42 "WatchPoses$Watch" "hour" "I", Cond.fieldLink RX4 45 "WatchPoses$Watch" "error" "I", Cond.fieldLink RX4 48 "WatchPoses$Watch" "stood" "I", Cond.fieldLink RX4 51 "WatchPoses$Watch" "went" "I", Cond.instanceMethod yX1_init, Cond.code yX1_init cX1_init 1 none, Cond.methodLink RX1 3 objectInit, Cond.arrayClass .int, Cond.fieldLink RX1 11 "WatchPoses$Paper" "row" "[I", Cond.fieldLink RX1 15 "WatchPoses$Paper" "length" "I"]
def wsX3_init : List Cond := .code yX3_init cX3_init 1 none :: ((wsX3_init_r1 ++ wsX3_init_r2) ++ wsX40 ++ wsX30 ++ wsX10)
def wsX2_init_r1 : List Cond := [Cond.methodLink RX2 1 objectInit, Cond.instanceMethod objectInit, Cond.code objectInit ⟨#[0xb1]⟩ 1 none, Cond.classLink RX2 9 RX3, Cond.fieldLink RX2 11 "WatchPoses$SavedStates" "ring" "[LWatchPoses$State;", Cond.fieldLink RX2 15 "WatchPoses$SavedStates" "next" "I", Cond.fieldLink RX2 19 "WatchPoses$SavedStates" "size" "I", Cond.instantiable RX3 7, Cond.initialized RX3, Cond.instanceMethod yX3_init, Cond.code yX3_init cX3_init 1 none, Cond.methodLink RX3 3 objectInit, Cond.classLink RX3 9 RX4, Cond.instantiable RX4 11, Cond.initialized RX4, Cond.fieldLink RX3 12 "WatchPoses$State" "watch" "LWatchPoses$Watch;", Cond.classLink RX3 18 RX1, Cond.instantiable RX1 2, Cond.initialized RX1, Cond.fieldLink RX3 21 "WatchPoses$State" "paper" "LWatchPoses$Paper;", Cond.fieldLink RX3 25 "WatchPoses$State" "FIRST_SETTINGS" "[I", Cond.methodLink RX3 29 ⟨"[I", "clone", "()Ljava/lang/Object;"⟩, Cond.sameMethod "[I" "java/lang/Object" "clone" "()Ljava/lang/Object;", Cond.native ⟨"java/lang/Object", "clone", "()Ljava/lang/Object;"⟩]
def wsX2_init_r2 : List Cond := [Cond.instanceMethod ⟨"java/lang/Object", "clone", "()Ljava/lang/Object;"⟩, Cond.selects "[I" ⟨"[I", "clone", "()Ljava/lang/Object;"⟩ ⟨"java/lang/Object", "clone", "()Ljava/lang/Object;"⟩, Cond.classLink RX3 30 "[I", Cond.fieldLink RX3 34 "WatchPoses$State" "settings" "[I", Cond.fieldLink RX3 37 "WatchPoses$State" "readings" "I", Cond.fieldLink RX3 41 "WatchPoses$State" "stopPart" "I", Cond.fieldLink RX3 44 "WatchPoses$State" "stopReason" "I", Cond.fieldLink RX3 47 "WatchPoses$State" "stopPose" "I", Cond.instanceMethod yX4_init, Cond.code yX4_init cX4_init 1 none, Cond.methodLink RX4 3 objectInit, Cond.fieldLink RX4 9 "WatchPoses$Watch" "FIRST_WEIGHTS" "[I", Cond.methodLink RX4 15 ⟨"[I", "clone", "()Ljava/lang/Object;"⟩, Cond.classLink RX4 16 "[I", Cond.fieldLink RX4 20 "WatchPoses$Watch" "weights" "[I", Cond.fieldLink RX4 23 "WatchPoses$Watch" "regulator" "I", Cond.fieldLink RX4 27 "WatchPoses$Watch" "stud" "I", Cond.fieldLink RX4 30 "WatchPoses$Watch" "hoursLeft" "I", Cond.fieldLink RX4 33 "WatchPoses$Watch" "magnetism" "I", Cond.fieldLink RX4 36 "WatchPoses$Watch" "dirt" "I", Cond.fieldLink RX4 39 "WatchPoses$Watch" "lies" "I", Cond.fieldLink RX4 42 "WatchPoses$Watch" "hour" "I", Cond.fieldLink RX4 45 "WatchPoses$Watch" "error" "I", Cond.fieldLink RX4 48 "WatchPoses$Watch" "stood" "I"]
def wsX2_init_r3 : List Cond := [Cond.fieldLink RX4 51 "WatchPoses$Watch" "went" "I", Cond.instanceMethod yX1_init, Cond.code yX1_init cX1_init 1 none, Cond.methodLink RX1 3 objectInit, Cond.arrayClass .int, Cond.fieldLink RX1 11 "WatchPoses$Paper" "row" "[I", Cond.fieldLink RX1 15 "WatchPoses$Paper" "length" "I"]
def wsX2_init : List Cond := .code yX2_init cX2_init 2 none :: ((wsX2_init_r1 ++ (wsX2_init_r2 ++ wsX2_init_r3)) ++ wsX20 ++ wsX30 ++ wsX40 ++ wsX10)
def wsX4_copyFrom : List Cond := .code yX4_copyFrom cX4_copyFrom 2 none :: ([.fieldLink RX4 20 "WatchPoses$Watch" "weights" "[I", .methodLink RX4 90 arraycopyName, .native arraycopyName, .static arraycopyName, .initialized "java/lang/System", .fieldLink RX4 23 "WatchPoses$Watch" "regulator" "I", .fieldLink RX4 27 "WatchPoses$Watch" "stud" "I", .fieldLink RX4 30 "WatchPoses$Watch" "hoursLeft" "I", .fieldLink RX4 33 "WatchPoses$Watch" "magnetism" "I", .fieldLink RX4 36 "WatchPoses$Watch" "dirt" "I", .fieldLink RX4 39 "WatchPoses$Watch" "lies" "I", .fieldLink RX4 42 "WatchPoses$Watch" "hour" "I", .fieldLink RX4 45 "WatchPoses$Watch" "error" "I", .fieldLink RX4 48 "WatchPoses$Watch" "stood" "I", .fieldLink RX4 51 "WatchPoses$Watch" "went" "I"] ++ wsX40)
def wsX3_copyFrom_r1 : List Cond := [Cond.fieldLink RX3 12 "WatchPoses$State" "watch" "LWatchPoses$Watch;", Cond.fieldLink RX3 21 "WatchPoses$State" "paper" "LWatchPoses$Paper;", Cond.fieldLink RX3 34 "WatchPoses$State" "settings" "[I", Cond.methodLink RX3 114 arraycopyName, Cond.native arraycopyName, Cond.static arraycopyName, Cond.initialized "java/lang/System", Cond.fieldLink RX3 37 "WatchPoses$State" "readings" "I", Cond.fieldLink RX3 41 "WatchPoses$State" "stopPart" "I", Cond.fieldLink RX3 44 "WatchPoses$State" "stopReason" "I", Cond.fieldLink RX3 47 "WatchPoses$State" "stopPose" "I", Cond.methodLink RX3 108 yX4_copyFrom, Cond.instanceMethod yX4_copyFrom, Cond.selects RX4 yX4_copyFrom yX4_copyFrom, Cond.initialized RX4, Cond.code yX4_copyFrom cX4_copyFrom 2 none, Cond.fieldLink RX4 20 "WatchPoses$Watch" "weights" "[I", Cond.methodLink RX4 90 arraycopyName, Cond.fieldLink RX4 23 "WatchPoses$Watch" "regulator" "I", Cond.fieldLink RX4 27 "WatchPoses$Watch" "stud" "I", Cond.fieldLink RX4 30 "WatchPoses$Watch" "hoursLeft" "I", Cond.fieldLink RX4 33 "WatchPoses$Watch" "magnetism" "I", Cond.fieldLink RX4 36 "WatchPoses$Watch" "dirt" "I", Cond.fieldLink RX4 39 "WatchPoses$Watch" "lies" "I"]
def wsX3_copyFrom_r2 : List Cond := [Cond.fieldLink RX4 42 "WatchPoses$Watch" "hour" "I", Cond.fieldLink RX4 45 "WatchPoses$Watch" "error" "I", Cond.fieldLink RX4 48 "WatchPoses$Watch" "stood" "I", Cond.fieldLink RX4 51 "WatchPoses$Watch" "went" "I", Cond.methodLink RX3 111 yX1_copyFrom, Cond.instanceMethod yX1_copyFrom, Cond.selects RX1 yX1_copyFrom yX1_copyFrom, Cond.initialized RX1, Cond.code yX1_copyFrom cX1_copyFrom 2 none, Cond.fieldLink RX1 11 "WatchPoses$Paper" "row" "[I", Cond.methodLink RX1 45 arraycopyName, Cond.fieldLink RX1 15 "WatchPoses$Paper" "length" "I"]
def wsX3_copyFrom : List Cond := .code yX3_copyFrom cX3_copyFrom 2 none :: ((wsX3_copyFrom_r1 ++ wsX3_copyFrom_r2) ++ wsX30 ++ wsX40 ++ wsX10)
def wsX2_push_r1 : List Cond := [Cond.fieldLink RX2 11 "WatchPoses$SavedStates" "ring" "[LWatchPoses$State;", Cond.fieldLink RX2 15 "WatchPoses$SavedStates" "next" "I", Cond.fieldLink RX2 19 "WatchPoses$SavedStates" "size" "I", Cond.methodLink RX2 27 Lib.Math.min.name, Cond.static Lib.Math.min.name, Cond.initialized "java/lang/Math", Cond.code Lib.Math.min.name Lib.Math.min.code 2 (some .int), Cond.methodLink RX2 23 yX3_copyFrom, Cond.instanceMethod yX3_copyFrom, Cond.selects RX3 yX3_copyFrom yX3_copyFrom, Cond.initialized RX3, Cond.code yX3_copyFrom cX3_copyFrom 2 none, Cond.fieldLink RX3 12 "WatchPoses$State" "watch" "LWatchPoses$Watch;", Cond.fieldLink RX3 21 "WatchPoses$State" "paper" "LWatchPoses$Paper;", Cond.fieldLink RX3 34 "WatchPoses$State" "settings" "[I", Cond.methodLink RX3 114 arraycopyName, Cond.native arraycopyName, Cond.static arraycopyName, Cond.initialized "java/lang/System", Cond.fieldLink RX3 37 "WatchPoses$State" "readings" "I", Cond.fieldLink RX3 41 "WatchPoses$State" "stopPart" "I", Cond.fieldLink RX3 44 "WatchPoses$State" "stopReason" "I", Cond.fieldLink RX3 47 "WatchPoses$State" "stopPose" "I", Cond.methodLink RX3 108 yX4_copyFrom]
def wsX2_push_r2 : List Cond := [Cond.instanceMethod yX4_copyFrom, Cond.selects RX4 yX4_copyFrom yX4_copyFrom, Cond.initialized RX4, Cond.code yX4_copyFrom cX4_copyFrom 2 none, Cond.fieldLink RX4 20 "WatchPoses$Watch" "weights" "[I", Cond.methodLink RX4 90 arraycopyName, Cond.fieldLink RX4 23 "WatchPoses$Watch" "regulator" "I", Cond.fieldLink RX4 27 "WatchPoses$Watch" "stud" "I", Cond.fieldLink RX4 30 "WatchPoses$Watch" "hoursLeft" "I", Cond.fieldLink RX4 33 "WatchPoses$Watch" "magnetism" "I", Cond.fieldLink RX4 36 "WatchPoses$Watch" "dirt" "I", Cond.fieldLink RX4 39 "WatchPoses$Watch" "lies" "I", Cond.fieldLink RX4 42 "WatchPoses$Watch" "hour" "I", Cond.fieldLink RX4 45 "WatchPoses$Watch" "error" "I", Cond.fieldLink RX4 48 "WatchPoses$Watch" "stood" "I", Cond.fieldLink RX4 51 "WatchPoses$Watch" "went" "I", Cond.methodLink RX3 111 yX1_copyFrom, Cond.instanceMethod yX1_copyFrom, Cond.selects RX1 yX1_copyFrom yX1_copyFrom, Cond.initialized RX1, Cond.code yX1_copyFrom cX1_copyFrom 2 none, Cond.fieldLink RX1 11 "WatchPoses$Paper" "row" "[I", Cond.methodLink RX1 45 arraycopyName, Cond.fieldLink RX1 15 "WatchPoses$Paper" "length" "I"]
def wsX2_push : List Cond := .code yX2_push cX2_push 2 none :: ((wsX2_push_r1 ++ wsX2_push_r2) ++ wsX20 ++ wsX30 ++ wsX40 ++ wsX10)
def wsX2_popInto_r1 : List Cond := [Cond.fieldLink RX2 19 "WatchPoses$SavedStates" "size" "I", Cond.fieldLink RX2 15 "WatchPoses$SavedStates" "next" "I", Cond.fieldLink RX2 11 "WatchPoses$SavedStates" "ring" "[LWatchPoses$State;", Cond.methodLink RX2 23 yX3_copyFrom, Cond.instanceMethod yX3_copyFrom, Cond.selects RX3 yX3_copyFrom yX3_copyFrom, Cond.initialized RX3, Cond.code yX3_copyFrom cX3_copyFrom 2 none, Cond.fieldLink RX3 12 "WatchPoses$State" "watch" "LWatchPoses$Watch;", Cond.fieldLink RX3 21 "WatchPoses$State" "paper" "LWatchPoses$Paper;", Cond.fieldLink RX3 34 "WatchPoses$State" "settings" "[I", Cond.methodLink RX3 114 arraycopyName, Cond.native arraycopyName, Cond.static arraycopyName, Cond.initialized "java/lang/System", Cond.fieldLink RX3 37 "WatchPoses$State" "readings" "I", Cond.fieldLink RX3 41 "WatchPoses$State" "stopPart" "I", Cond.fieldLink RX3 44 "WatchPoses$State" "stopReason" "I", Cond.fieldLink RX3 47 "WatchPoses$State" "stopPose" "I", Cond.methodLink RX3 108 yX4_copyFrom, Cond.instanceMethod yX4_copyFrom, Cond.selects RX4 yX4_copyFrom yX4_copyFrom, Cond.initialized RX4, Cond.code yX4_copyFrom cX4_copyFrom 2 none]
def wsX2_popInto_r2 : List Cond := [Cond.fieldLink RX4 20 "WatchPoses$Watch" "weights" "[I", Cond.methodLink RX4 90 arraycopyName, Cond.fieldLink RX4 23 "WatchPoses$Watch" "regulator" "I", Cond.fieldLink RX4 27 "WatchPoses$Watch" "stud" "I", Cond.fieldLink RX4 30 "WatchPoses$Watch" "hoursLeft" "I", Cond.fieldLink RX4 33 "WatchPoses$Watch" "magnetism" "I", Cond.fieldLink RX4 36 "WatchPoses$Watch" "dirt" "I", Cond.fieldLink RX4 39 "WatchPoses$Watch" "lies" "I", Cond.fieldLink RX4 42 "WatchPoses$Watch" "hour" "I", Cond.fieldLink RX4 45 "WatchPoses$Watch" "error" "I", Cond.fieldLink RX4 48 "WatchPoses$Watch" "stood" "I", Cond.fieldLink RX4 51 "WatchPoses$Watch" "went" "I", Cond.methodLink RX3 111 yX1_copyFrom, Cond.instanceMethod yX1_copyFrom, Cond.selects RX1 yX1_copyFrom yX1_copyFrom, Cond.initialized RX1, Cond.code yX1_copyFrom cX1_copyFrom 2 none, Cond.fieldLink RX1 11 "WatchPoses$Paper" "row" "[I", Cond.methodLink RX1 45 arraycopyName, Cond.fieldLink RX1 15 "WatchPoses$Paper" "length" "I"]
def wsX2_popInto : List Cond := .code yX2_popInto cX2_popInto 2 none :: ((wsX2_popInto_r1 ++ wsX2_popInto_r2) ++ wsX20 ++ wsX30 ++ wsX40 ++ wsX10)
def wsX3_whyNoReading_r1 : List Cond := [Cond.fieldLink RX3 12 "WatchPoses$State" "watch" "LWatchPoses$Watch;", Cond.fieldLink RX3 50 "WatchPoses$Watch" "hoursLeft" "I", Cond.fieldLink RX3 34 "WatchPoses$State" "settings" "[I", Cond.fieldLink RX3 60 "WatchPoses$Watch" "magnetism" "I", Cond.fieldLink RX3 21 "WatchPoses$State" "paper" "LWatchPoses$Paper;", Cond.methodLink RX3 53 yX4_swingIn, Cond.instanceMethod yX4_swingIn, Cond.selects RX4 yX4_swingIn yX4_swingIn, Cond.initialized RX4, Cond.code yX4_swingIn cX4_swingIn 3 (some .int), Cond.fieldLink RX4 30 "WatchPoses$Watch" "hoursLeft" "I", Cond.fieldLink RX4 36 "WatchPoses$Watch" "dirt" "I", Cond.methodLink RX4 64 Lib.Math.max.name, Cond.static Lib.Math.max.name, Cond.initialized "java/lang/Math", Cond.code Lib.Math.max.name Lib.Math.max.code 2 (some .int), Cond.methodLink RX3 57 yX4_beatErrorIn, Cond.instanceMethod yX4_beatErrorIn, Cond.selects RX4 yX4_beatErrorIn yX4_beatErrorIn, Cond.code yX4_beatErrorIn cX4_beatErrorIn 3 (some .int), Cond.fieldLink RX4 27 "WatchPoses$Watch" "stud" "I", Cond.methodLink RX4 77 Lib.Math.abs.name, Cond.static Lib.Math.abs.name, Cond.code Lib.Math.abs.name Lib.Math.abs.code 1 (some .int)]
def wsX3_whyNoReading_r2 : List Cond := [Cond.methodLink RX3 63 yX1_isFull, Cond.instanceMethod yX1_isFull, Cond.selects RX1 yX1_isFull yX1_isFull, Cond.initialized RX1, Cond.code yX1_isFull cX1_isFull 1 (some .boolean), Cond.fieldLink RX1 15 "WatchPoses$Paper" "length" "I"]
def wsX3_whyNoReading : List Cond := .code yX3_whyNoReading cX3_whyNoReading 2 (some .int) :: ((wsX3_whyNoReading_r1 ++ wsX3_whyNoReading_r2) ++ wsX30 ++ wsX40 ++ wsX10)
def wsX3_makeReading_r1 : List Cond := [Cond.fieldLink RX3 12 "WatchPoses$State" "watch" "LWatchPoses$Watch;", Cond.fieldLink RX3 67 "WatchPoses$Watch" "lies" "I", Cond.fieldLink RX3 21 "WatchPoses$State" "paper" "LWatchPoses$Paper;", Cond.fieldLink RX3 37 "WatchPoses$State" "readings" "I", Cond.methodLink RX3 70 yX1_print, Cond.instanceMethod yX1_print, Cond.selects RX1 yX1_print yX1_print, Cond.initialized RX1, Cond.code yX1_print cX1_print 3 none, Cond.fieldLink RX1 15 "WatchPoses$Paper" "length" "I", Cond.fieldLink RX1 11 "WatchPoses$Paper" "row" "[I", Cond.fieldLink RX1 23 "WatchPoses$Watch" "hour" "I", Cond.fieldLink RX1 28 "WatchPoses$Watch" "lies" "I", Cond.methodLink RX1 19 yX1_isFull, Cond.instanceMethod yX1_isFull, Cond.selects RX1 yX1_isFull yX1_isFull, Cond.code yX1_isFull cX1_isFull 1 (some .boolean), Cond.methodLink RX1 31 yX4_rateIn, Cond.instanceMethod yX4_rateIn, Cond.selects RX4 yX4_rateIn yX4_rateIn, Cond.initialized RX4, Cond.code yX4_rateIn cX4_rateIn 4 (some .int), Cond.fieldLink RX4 23 "WatchPoses$Watch" "regulator" "I", Cond.fieldLink RX4 33 "WatchPoses$Watch" "magnetism" "I"]
def wsX3_makeReading_r2 : List Cond := [Cond.methodLink RX4 67 yX4_swingIn, Cond.instanceMethod yX4_swingIn, Cond.selects RX4 yX4_swingIn yX4_swingIn, Cond.code yX4_swingIn cX4_swingIn 3 (some .int), Cond.fieldLink RX4 30 "WatchPoses$Watch" "hoursLeft" "I", Cond.fieldLink RX4 36 "WatchPoses$Watch" "dirt" "I", Cond.methodLink RX4 64 Lib.Math.max.name, Cond.static Lib.Math.max.name, Cond.initialized "java/lang/Math", Cond.code Lib.Math.max.name Lib.Math.max.code 2 (some .int), Cond.methodLink RX4 71 yX4_weightOf, Cond.instanceMethod yX4_weightOf, Cond.selects RX4 yX4_weightOf yX4_weightOf, Cond.code yX4_weightOf cX4_weightOf 2 (some .int), Cond.fieldLink RX4 20 "WatchPoses$Watch" "weights" "[I", Cond.static yX5_isPose, Cond.initialized RX5, Cond.code yX5_isPose cX5_isPose 1 (some .boolean), Cond.methodLink RX4 74 yJ9_floorDiv_7cf53, Cond.static yJ9_floorDiv_7cf53, Cond.initialized RJ9, Cond.code yJ9_floorDiv_7cf53 cJ9_floorDiv_7cf53 3 (some .int), Cond.methodLink RX1 35 yX4_beatErrorIn, Cond.instanceMethod yX4_beatErrorIn]
def wsX3_makeReading_r3 : List Cond := [Cond.selects RX4 yX4_beatErrorIn yX4_beatErrorIn, Cond.code yX4_beatErrorIn cX4_beatErrorIn 3 (some .int), Cond.fieldLink RX4 27 "WatchPoses$Watch" "stud" "I", Cond.methodLink RX4 77 Lib.Math.abs.name, Cond.static Lib.Math.abs.name, Cond.code Lib.Math.abs.name Lib.Math.abs.code 1 (some .int), Cond.methodLink RX1 38 yX4_swingIn]
def wsX3_makeReading : List Cond := .code yX3_makeReading cX3_makeReading 2 none :: ((wsX3_makeReading_r1 ++ (wsX3_makeReading_r2 ++ wsX3_makeReading_r3)) ++ wsX30 ++ wsX40 ++ wsX10)
def wsX3_whyNoDayRate_r1 : List Cond := [Cond.constant RX3 74 (2000000000), Cond.constant RX3 75 (-2000000000), Cond.fieldLink RX3 21 "WatchPoses$State" "paper" "LWatchPoses$Paper;", Cond.methodLink RX3 83 Lib.Math.min.name, Cond.static Lib.Math.min.name, Cond.initialized "java/lang/Math", Cond.code Lib.Math.min.name Lib.Math.min.code 2 (some .int), Cond.methodLink RX3 88 Lib.Math.max.name, Cond.static Lib.Math.max.name, Cond.code Lib.Math.max.name Lib.Math.max.code 2 (some .int), Cond.fieldLink RX3 12 "WatchPoses$State" "watch" "LWatchPoses$Watch;", Cond.fieldLink RX3 91 "WatchPoses$Watch" "hour" "I", Cond.fieldLink RX3 34 "WatchPoses$State" "settings" "[I", Cond.methodLink RX3 76 yX1_latestIn, Cond.instanceMethod yX1_latestIn, Cond.selects RX1 yX1_latestIn yX1_latestIn, Cond.initialized RX1, Cond.code yX1_latestIn cX1_latestIn 3 (some .int), Cond.fieldLink RX1 15 "WatchPoses$Paper" "length" "I", Cond.methodLink RX1 41 yX1_number, Cond.instanceMethod yX1_number, Cond.selects RX1 yX1_number yX1_number, Cond.code yX1_number cX1_number 3 (some .int), Cond.fieldLink RX1 11 "WatchPoses$Paper" "row" "[I"]
def wsX3_whyNoDayRate_r2 : List Cond := [Cond.methodLink RX3 79 yX1_number]
def wsX3_whyNoDayRate : List Cond := .code yX3_whyNoDayRate cX3_whyNoDayRate 7 (some .int) :: ((wsX3_whyNoDayRate_r1 ++ wsX3_whyNoDayRate_r2) ++ wsX30 ++ wsX40 ++ wsX10)
def wsX3_dayRateByPoses_r1 : List Cond := [Cond.fieldLink RX3 21 "WatchPoses$State" "paper" "LWatchPoses$Paper;", Cond.methodLink RX3 94 yX3_whyNoDayRate, Cond.instanceMethod yX3_whyNoDayRate, Cond.selects RX3 yX3_whyNoDayRate yX3_whyNoDayRate, Cond.initialized RX3, Cond.code yX3_whyNoDayRate cX3_whyNoDayRate 7 (some .int), Cond.constant RX3 74 (2000000000), Cond.constant RX3 75 (-2000000000), Cond.methodLink RX3 83 Lib.Math.min.name, Cond.static Lib.Math.min.name, Cond.initialized "java/lang/Math", Cond.code Lib.Math.min.name Lib.Math.min.code 2 (some .int), Cond.methodLink RX3 88 Lib.Math.max.name, Cond.static Lib.Math.max.name, Cond.code Lib.Math.max.name Lib.Math.max.code 2 (some .int), Cond.fieldLink RX3 12 "WatchPoses$State" "watch" "LWatchPoses$Watch;", Cond.fieldLink RX3 91 "WatchPoses$Watch" "hour" "I", Cond.fieldLink RX3 34 "WatchPoses$State" "settings" "[I", Cond.methodLink RX3 76 yX1_latestIn, Cond.instanceMethod yX1_latestIn, Cond.selects RX1 yX1_latestIn yX1_latestIn, Cond.initialized RX1, Cond.code yX1_latestIn cX1_latestIn 3 (some .int), Cond.fieldLink RX1 15 "WatchPoses$Paper" "length" "I"]
def wsX3_dayRateByPoses_r2 : List Cond := [Cond.methodLink RX1 41 yX1_number, Cond.instanceMethod yX1_number, Cond.selects RX1 yX1_number yX1_number, Cond.code yX1_number cX1_number 3 (some .int), Cond.fieldLink RX1 11 "WatchPoses$Paper" "row" "[I", Cond.methodLink RX3 79 yX1_number, Cond.methodLink RX3 98 yJ9_floorDiv_7cf53, Cond.static yJ9_floorDiv_7cf53, Cond.initialized RJ9, Cond.code yJ9_floorDiv_7cf53 cJ9_floorDiv_7cf53 3 (some .int)]
def wsX3_dayRateByPoses : List Cond := .code yX3_dayRateByPoses cX3_dayRateByPoses 3 (some .int) :: ((wsX3_dayRateByPoses_r1 ++ wsX3_dayRateByPoses_r2) ++ wsX30 ++ wsX40 ++ wsX10)
def wsX3_dayRateByPaper_r1 : List Cond := [Cond.constant RX3 74 (2000000000), Cond.constant RX3 75 (-2000000000), Cond.fieldLink RX3 21 "WatchPoses$State" "paper" "LWatchPoses$Paper;", Cond.fieldLink RX3 101 "WatchPoses$Paper" "length" "I", Cond.fieldLink RX3 12 "WatchPoses$State" "watch" "LWatchPoses$Watch;", Cond.fieldLink RX3 91 "WatchPoses$Watch" "hour" "I", Cond.fieldLink RX3 34 "WatchPoses$State" "settings" "[I", Cond.methodLink RX3 83 Lib.Math.min.name, Cond.static Lib.Math.min.name, Cond.initialized "java/lang/Math", Cond.code Lib.Math.min.name Lib.Math.min.code 2 (some .int), Cond.methodLink RX3 88 Lib.Math.max.name, Cond.static Lib.Math.max.name, Cond.code Lib.Math.max.name Lib.Math.max.code 2 (some .int), Cond.methodLink RX3 79 yX1_number, Cond.instanceMethod yX1_number, Cond.selects RX1 yX1_number yX1_number, Cond.initialized RX1, Cond.code yX1_number cX1_number 3 (some .int), Cond.fieldLink RX1 15 "WatchPoses$Paper" "length" "I", Cond.fieldLink RX1 11 "WatchPoses$Paper" "row" "[I", Cond.methodLink RX3 98 yJ9_floorDiv_7cf53, Cond.static yJ9_floorDiv_7cf53, Cond.initialized RJ9]
def wsX3_dayRateByPaper_r2 : List Cond := [Cond.code yJ9_floorDiv_7cf53 cJ9_floorDiv_7cf53 3 (some .int)]
def wsX3_dayRateByPaper : List Cond := .code yX3_dayRateByPaper cX3_dayRateByPaper 9 (some .int) :: ((wsX3_dayRateByPaper_r1 ++ wsX3_dayRateByPaper_r2) ++ wsX30 ++ wsX10 ++ wsX40)
def wsX4_putWeight : List Cond := .code yX4_putWeight cX4_putWeight 3 none :: ([.fieldLink RX4 20 "WatchPoses$Watch" "weights" "[I", .static yX5_isPose, .initialized RX5, .code yX5_isPose cX5_isPose 1 (some .boolean)] ++ wsX40)
def wsX4_tighten : List Cond := .code yX4_tighten cX4_tighten 2 none :: ([.fieldLink RX4 30 "WatchPoses$Watch" "hoursLeft" "I", .methodLink RX4 58 Lib.Math.min.name, .static Lib.Math.min.name, .initialized "java/lang/Math", .code Lib.Math.min.name Lib.Math.min.code 2 (some .int)] ++ wsX40)
def wsX4_goes : List Cond := .code yX4_goes cX4_goes 1 (some .boolean) :: ([.fieldLink RX4 30 "WatchPoses$Watch" "hoursLeft" "I", .fieldLink RX4 39 "WatchPoses$Watch" "lies" "I", .methodLink RX4 67 yX4_swingIn, .instanceMethod yX4_swingIn, .selects RX4 yX4_swingIn yX4_swingIn, .initialized RX4, .code yX4_swingIn cX4_swingIn 3 (some .int), .fieldLink RX4 36 "WatchPoses$Watch" "dirt" "I", .methodLink RX4 64 Lib.Math.max.name, .static Lib.Math.max.name, .initialized "java/lang/Math", .code Lib.Math.max.name Lib.Math.max.code 2 (some .int)] ++ wsX40)
def wsX4_runHour_r1 : List Cond := [Cond.fieldLink RX4 42 "WatchPoses$Watch" "hour" "I", Cond.fieldLink RX4 48 "WatchPoses$Watch" "stood" "I", Cond.fieldLink RX4 45 "WatchPoses$Watch" "error" "I", Cond.fieldLink RX4 39 "WatchPoses$Watch" "lies" "I", Cond.fieldLink RX4 30 "WatchPoses$Watch" "hoursLeft" "I", Cond.fieldLink RX4 51 "WatchPoses$Watch" "went" "I", Cond.fieldLink RX4 36 "WatchPoses$Watch" "dirt" "I", Cond.methodLink RX4 58 Lib.Math.min.name, Cond.static Lib.Math.min.name, Cond.initialized "java/lang/Math", Cond.code Lib.Math.min.name Lib.Math.min.code 2 (some .int), Cond.methodLink RX4 83 yX4_goes, Cond.instanceMethod yX4_goes, Cond.selects RX4 yX4_goes yX4_goes, Cond.initialized RX4, Cond.code yX4_goes cX4_goes 1 (some .boolean), Cond.methodLink RX4 67 yX4_swingIn, Cond.instanceMethod yX4_swingIn, Cond.selects RX4 yX4_swingIn yX4_swingIn, Cond.code yX4_swingIn cX4_swingIn 3 (some .int), Cond.methodLink RX4 64 Lib.Math.max.name, Cond.static Lib.Math.max.name, Cond.code Lib.Math.max.name Lib.Math.max.code 2 (some .int), Cond.methodLink RX4 87 yX4_rateIn]
def wsX4_runHour_r2 : List Cond := [Cond.instanceMethod yX4_rateIn, Cond.selects RX4 yX4_rateIn yX4_rateIn, Cond.code yX4_rateIn cX4_rateIn 4 (some .int), Cond.fieldLink RX4 23 "WatchPoses$Watch" "regulator" "I", Cond.fieldLink RX4 33 "WatchPoses$Watch" "magnetism" "I", Cond.methodLink RX4 71 yX4_weightOf, Cond.instanceMethod yX4_weightOf, Cond.selects RX4 yX4_weightOf yX4_weightOf, Cond.code yX4_weightOf cX4_weightOf 2 (some .int), Cond.fieldLink RX4 20 "WatchPoses$Watch" "weights" "[I", Cond.static yX5_isPose, Cond.initialized RX5, Cond.code yX5_isPose cX5_isPose 1 (some .boolean), Cond.methodLink RX4 74 yJ9_floorDiv_7cf53, Cond.static yJ9_floorDiv_7cf53, Cond.initialized RJ9, Cond.code yJ9_floorDiv_7cf53 cJ9_floorDiv_7cf53 3 (some .int)]
def wsX4_runHour : List Cond := .code yX4_runHour cX4_runHour 1 none :: ((wsX4_runHour_r1 ++ wsX4_runHour_r2) ++ wsX40)
def wsX4_run_r1 : List Cond := [Cond.fieldLink RX4 51 "WatchPoses$Watch" "went" "I", Cond.methodLink RX4 80 yX4_runHour, Cond.instanceMethod yX4_runHour, Cond.selects RX4 yX4_runHour yX4_runHour, Cond.initialized RX4, Cond.code yX4_runHour cX4_runHour 1 none, Cond.fieldLink RX4 42 "WatchPoses$Watch" "hour" "I", Cond.fieldLink RX4 48 "WatchPoses$Watch" "stood" "I", Cond.fieldLink RX4 45 "WatchPoses$Watch" "error" "I", Cond.fieldLink RX4 39 "WatchPoses$Watch" "lies" "I", Cond.fieldLink RX4 30 "WatchPoses$Watch" "hoursLeft" "I", Cond.fieldLink RX4 36 "WatchPoses$Watch" "dirt" "I", Cond.methodLink RX4 58 Lib.Math.min.name, Cond.static Lib.Math.min.name, Cond.initialized "java/lang/Math", Cond.code Lib.Math.min.name Lib.Math.min.code 2 (some .int), Cond.methodLink RX4 83 yX4_goes, Cond.instanceMethod yX4_goes, Cond.selects RX4 yX4_goes yX4_goes, Cond.code yX4_goes cX4_goes 1 (some .boolean), Cond.methodLink RX4 67 yX4_swingIn, Cond.instanceMethod yX4_swingIn, Cond.selects RX4 yX4_swingIn yX4_swingIn, Cond.code yX4_swingIn cX4_swingIn 3 (some .int)]
def wsX4_run_r2 : List Cond := [Cond.methodLink RX4 64 Lib.Math.max.name, Cond.static Lib.Math.max.name, Cond.code Lib.Math.max.name Lib.Math.max.code 2 (some .int), Cond.methodLink RX4 87 yX4_rateIn, Cond.instanceMethod yX4_rateIn, Cond.selects RX4 yX4_rateIn yX4_rateIn, Cond.code yX4_rateIn cX4_rateIn 4 (some .int), Cond.fieldLink RX4 23 "WatchPoses$Watch" "regulator" "I", Cond.fieldLink RX4 33 "WatchPoses$Watch" "magnetism" "I", Cond.methodLink RX4 71 yX4_weightOf, Cond.instanceMethod yX4_weightOf, Cond.selects RX4 yX4_weightOf yX4_weightOf, Cond.code yX4_weightOf cX4_weightOf 2 (some .int), Cond.fieldLink RX4 20 "WatchPoses$Watch" "weights" "[I", Cond.static yX5_isPose, Cond.initialized RX5, Cond.code yX5_isPose cX5_isPose 1 (some .boolean), Cond.methodLink RX4 74 yJ9_floorDiv_7cf53, Cond.static yJ9_floorDiv_7cf53, Cond.initialized RJ9, Cond.code yJ9_floorDiv_7cf53 cJ9_floorDiv_7cf53 3 (some .int)]
def wsX4_run : List Cond := .code yX4_run cX4_run 4 (some .int) :: ((wsX4_run_r1 ++ wsX4_run_r2) ++ wsX40)
def wsX5_init_r1 : List Cond := [Cond.methodLink RX5 1 objectInit, Cond.instanceMethod objectInit, Cond.code objectInit ⟨#[0xb1]⟩ 1 none, Cond.classLink RX5 7 RX3, Cond.instantiable RX3 7, Cond.initialized RX3, Cond.fieldLink RX5 10 "WatchPoses" "now" "LWatchPoses$State;", Cond.fieldLink RX5 16 "WatchPoses" "snapshot" "LWatchPoses$State;", Cond.classLink RX5 19 RX2, Cond.instantiable RX2 3, Cond.initialized RX2, Cond.fieldLink RX5 22 "WatchPoses" "saved" "LWatchPoses$SavedStates;", Cond.classLink RX5 26 RX0, Cond.instantiable RX0 9, Cond.initialized RX0, Cond.fieldLink RX5 29 "WatchPoses" "text" "LWatchPoses$OrderText;", Cond.classLink RX5 33 RX4, Cond.instantiable RX4 11, Cond.initialized RX4, Cond.fieldLink RX5 36 "WatchPoses" "trial" "LWatchPoses$Watch;", Cond.fieldLink RX5 40 "WatchPoses" "hasSnapshot" "Z", Cond.instanceMethod yX3_init, Cond.code yX3_init cX3_init 1 none, Cond.methodLink RX3 3 objectInit]
def wsX5_init_r2 : List Cond := [Cond.classLink RX3 9 RX4, Cond.fieldLink RX3 12 "WatchPoses$State" "watch" "LWatchPoses$Watch;", Cond.classLink RX3 18 RX1, Cond.instantiable RX1 2, Cond.initialized RX1, Cond.fieldLink RX3 21 "WatchPoses$State" "paper" "LWatchPoses$Paper;", Cond.fieldLink RX3 25 "WatchPoses$State" "FIRST_SETTINGS" "[I", Cond.methodLink RX3 29 ⟨"[I", "clone", "()Ljava/lang/Object;"⟩, Cond.sameMethod "[I" "java/lang/Object" "clone" "()Ljava/lang/Object;", Cond.native ⟨"java/lang/Object", "clone", "()Ljava/lang/Object;"⟩, Cond.instanceMethod ⟨"java/lang/Object", "clone", "()Ljava/lang/Object;"⟩, Cond.selects "[I" ⟨"[I", "clone", "()Ljava/lang/Object;"⟩ ⟨"java/lang/Object", "clone", "()Ljava/lang/Object;"⟩, Cond.classLink RX3 30 "[I", Cond.fieldLink RX3 34 "WatchPoses$State" "settings" "[I", Cond.fieldLink RX3 37 "WatchPoses$State" "readings" "I", Cond.fieldLink RX3 41 "WatchPoses$State" "stopPart" "I", Cond.fieldLink RX3 44 "WatchPoses$State" "stopReason" "I", Cond.fieldLink RX3 47 "WatchPoses$State" "stopPose" "I", Cond.instanceMethod yX4_init, Cond.code yX4_init cX4_init 1 none, Cond.methodLink RX4 3 objectInit, Cond.fieldLink RX4 9 "WatchPoses$Watch" "FIRST_WEIGHTS" "[I", Cond.methodLink RX4 15 ⟨"[I", "clone", "()Ljava/lang/Object;"⟩, Cond.classLink RX4 16 "[I"]
def wsX5_init_r3 : List Cond := [Cond.fieldLink RX4 20 "WatchPoses$Watch" "weights" "[I", Cond.fieldLink RX4 23 "WatchPoses$Watch" "regulator" "I", Cond.fieldLink RX4 27 "WatchPoses$Watch" "stud" "I", Cond.fieldLink RX4 30 "WatchPoses$Watch" "hoursLeft" "I", Cond.fieldLink RX4 33 "WatchPoses$Watch" "magnetism" "I", Cond.fieldLink RX4 36 "WatchPoses$Watch" "dirt" "I", Cond.fieldLink RX4 39 "WatchPoses$Watch" "lies" "I", Cond.fieldLink RX4 42 "WatchPoses$Watch" "hour" "I", Cond.fieldLink RX4 45 "WatchPoses$Watch" "error" "I", Cond.fieldLink RX4 48 "WatchPoses$Watch" "stood" "I", Cond.fieldLink RX4 51 "WatchPoses$Watch" "went" "I", Cond.instanceMethod yX1_init, Cond.code yX1_init cX1_init 1 none, Cond.methodLink RX1 3 objectInit, Cond.arrayClass .int, Cond.fieldLink RX1 11 "WatchPoses$Paper" "row" "[I", Cond.fieldLink RX1 15 "WatchPoses$Paper" "length" "I", Cond.methodLink RX5 21 yX2_init, Cond.instanceMethod yX2_init, Cond.code yX2_init cX2_init 2 none, Cond.methodLink RX2 1 objectInit, Cond.classLink RX2 9 RX3, Cond.fieldLink RX2 11 "WatchPoses$SavedStates" "ring" "[LWatchPoses$State;", Cond.fieldLink RX2 15 "WatchPoses$SavedStates" "next" "I"]
def wsX5_init_r4 : List Cond := [Cond.fieldLink RX2 19 "WatchPoses$SavedStates" "size" "I", Cond.instanceMethod yX0_init, Cond.code yX0_init cX0_init 1 none, Cond.methodLink RX0 3 objectInit, Cond.fieldLink RX0 11 "WatchPoses$OrderText" "codes" "[I", Cond.fieldLink RX0 15 "WatchPoses$OrderText" "length" "I", Cond.fieldLink RX0 19 "WatchPoses$OrderText" "kinds" "[I", Cond.fieldLink RX0 22 "WatchPoses$OrderText" "numbers" "[I", Cond.fieldLink RX0 25 "WatchPoses$OrderText" "parts" "I", Cond.fieldLink RX0 28 "WatchPoses$OrderText" "kind" "I", Cond.fieldLink RX0 31 "WatchPoses$OrderText" "negative" "Z", Cond.fieldLink RX0 35 "WatchPoses$OrderText" "digits" "I", Cond.fieldLink RX0 38 "WatchPoses$OrderText" "value" "I"]
def wsX5_init : List Cond := .code yX5_init cX5_init 1 none :: ((wsX5_init_r1 ++ (wsX5_init_r2 ++ (wsX5_init_r3 ++ wsX5_init_r4))) ++ wsX30 ++ wsX50 ++ wsX20 ++ wsX00 ++ wsX40 ++ wsX10)
def wsX5_demandRange : List Cond := .code yX5_demandRange cX5_demandRange 3 none :: ([.classLink RX5 152 "java/lang/IllegalArgumentException", .initialized "java/lang/IllegalArgumentException"] ++ (vx_atS RX5 156 "java/lang/IllegalArgumentException" ["java/lang/RuntimeException", "java/lang/Exception"]).filter goodWord)
def wsX5_wind_r1 : List Cond := [Cond.fieldLink RX5 22 "WatchPoses" "saved" "LWatchPoses$SavedStates;", Cond.fieldLink RX5 10 "WatchPoses" "now" "LWatchPoses$State;", Cond.fieldLink RX5 52 "WatchPoses$State" "watch" "LWatchPoses$Watch;", Cond.fieldLink RX5 59 "WatchPoses$Watch" "hoursLeft" "I", Cond.methodLink RX5 44 yX5_demandRange, Cond.static yX5_demandRange, Cond.initialized RX5, Cond.code yX5_demandRange cX5_demandRange 3 none, Cond.classLink RX5 152 "java/lang/IllegalArgumentException", Cond.initialized "java/lang/IllegalArgumentException", Cond.methodLink RX5 48 yX2_push, Cond.instanceMethod yX2_push, Cond.selects RX2 yX2_push yX2_push, Cond.initialized RX2, Cond.code yX2_push cX2_push 2 none, Cond.fieldLink RX2 11 "WatchPoses$SavedStates" "ring" "[LWatchPoses$State;", Cond.fieldLink RX2 15 "WatchPoses$SavedStates" "next" "I", Cond.fieldLink RX2 19 "WatchPoses$SavedStates" "size" "I", Cond.methodLink RX2 27 Lib.Math.min.name, Cond.static Lib.Math.min.name, Cond.initialized "java/lang/Math", Cond.code Lib.Math.min.name Lib.Math.min.code 2 (some .int), Cond.methodLink RX2 23 yX3_copyFrom, Cond.instanceMethod yX3_copyFrom]
def wsX5_wind_r2 : List Cond := [Cond.selects RX3 yX3_copyFrom yX3_copyFrom, Cond.initialized RX3, Cond.code yX3_copyFrom cX3_copyFrom 2 none, Cond.fieldLink RX3 12 "WatchPoses$State" "watch" "LWatchPoses$Watch;", Cond.fieldLink RX3 21 "WatchPoses$State" "paper" "LWatchPoses$Paper;", Cond.fieldLink RX3 34 "WatchPoses$State" "settings" "[I", Cond.methodLink RX3 114 arraycopyName, Cond.native arraycopyName, Cond.static arraycopyName, Cond.initialized "java/lang/System", Cond.fieldLink RX3 37 "WatchPoses$State" "readings" "I", Cond.fieldLink RX3 41 "WatchPoses$State" "stopPart" "I", Cond.fieldLink RX3 44 "WatchPoses$State" "stopReason" "I", Cond.fieldLink RX3 47 "WatchPoses$State" "stopPose" "I", Cond.methodLink RX3 108 yX4_copyFrom, Cond.instanceMethod yX4_copyFrom, Cond.selects RX4 yX4_copyFrom yX4_copyFrom, Cond.initialized RX4, Cond.code yX4_copyFrom cX4_copyFrom 2 none, Cond.fieldLink RX4 20 "WatchPoses$Watch" "weights" "[I", Cond.methodLink RX4 90 arraycopyName, Cond.fieldLink RX4 23 "WatchPoses$Watch" "regulator" "I", Cond.fieldLink RX4 27 "WatchPoses$Watch" "stud" "I", Cond.fieldLink RX4 30 "WatchPoses$Watch" "hoursLeft" "I"]
def wsX5_wind_r3 : List Cond := [Cond.fieldLink RX4 33 "WatchPoses$Watch" "magnetism" "I", Cond.fieldLink RX4 36 "WatchPoses$Watch" "dirt" "I", Cond.fieldLink RX4 39 "WatchPoses$Watch" "lies" "I", Cond.fieldLink RX4 42 "WatchPoses$Watch" "hour" "I", Cond.fieldLink RX4 45 "WatchPoses$Watch" "error" "I", Cond.fieldLink RX4 48 "WatchPoses$Watch" "stood" "I", Cond.fieldLink RX4 51 "WatchPoses$Watch" "went" "I", Cond.methodLink RX3 111 yX1_copyFrom, Cond.instanceMethod yX1_copyFrom, Cond.selects RX1 yX1_copyFrom yX1_copyFrom, Cond.initialized RX1, Cond.code yX1_copyFrom cX1_copyFrom 2 none, Cond.fieldLink RX1 11 "WatchPoses$Paper" "row" "[I", Cond.methodLink RX1 45 arraycopyName, Cond.fieldLink RX1 15 "WatchPoses$Paper" "length" "I", Cond.methodLink RX5 55 yX4_tighten, Cond.instanceMethod yX4_tighten, Cond.selects RX4 yX4_tighten yX4_tighten, Cond.code yX4_tighten cX4_tighten 2 none, Cond.methodLink RX4 58 Lib.Math.min.name]
def wsX5_wind : List Cond := .code yX5_wind cX5_wind 2 (some .int) :: ((wsX5_wind_r1 ++ (wsX5_wind_r2 ++ wsX5_wind_r3)) ++ wsX50 ++ wsX30 ++ wsX40 ++ wsX20 ++ wsX10 ++ (vx_atS RX5 156 "java/lang/IllegalArgumentException" ["java/lang/RuntimeException", "java/lang/Exception"]).filter goodWord)
def wsX5_demandPose : List Cond := .code yX5_demandPose cX5_demandPose 1 none :: ([.classLink RX5 123 "java/lang/IndexOutOfBoundsException", .initialized "java/lang/IndexOutOfBoundsException", .methodLink RX5 244 yX5_isPose, .static yX5_isPose, .initialized RX5, .code yX5_isPose cX5_isPose 1 (some .boolean)] ++ (vx_atS RX5 127 "java/lang/IndexOutOfBoundsException" ["java/lang/RuntimeException", "java/lang/Exception"]).filter goodWord)
def wsX5_weigh_r1 : List Cond := [Cond.fieldLink RX5 22 "WatchPoses" "saved" "LWatchPoses$SavedStates;", Cond.fieldLink RX5 10 "WatchPoses" "now" "LWatchPoses$State;", Cond.fieldLink RX5 52 "WatchPoses$State" "watch" "LWatchPoses$Watch;", Cond.methodLink RX5 63 yX5_demandPose, Cond.static yX5_demandPose, Cond.initialized RX5, Cond.code yX5_demandPose cX5_demandPose 1 none, Cond.classLink RX5 123 "java/lang/IndexOutOfBoundsException", Cond.initialized "java/lang/IndexOutOfBoundsException", Cond.methodLink RX5 244 yX5_isPose, Cond.static yX5_isPose, Cond.code yX5_isPose cX5_isPose 1 (some .boolean), Cond.methodLink RX5 44 yX5_demandRange, Cond.static yX5_demandRange, Cond.code yX5_demandRange cX5_demandRange 3 none, Cond.classLink RX5 152 "java/lang/IllegalArgumentException", Cond.initialized "java/lang/IllegalArgumentException", Cond.methodLink RX5 48 yX2_push, Cond.instanceMethod yX2_push, Cond.selects RX2 yX2_push yX2_push, Cond.initialized RX2, Cond.code yX2_push cX2_push 2 none, Cond.fieldLink RX2 11 "WatchPoses$SavedStates" "ring" "[LWatchPoses$State;", Cond.fieldLink RX2 15 "WatchPoses$SavedStates" "next" "I"]
def wsX5_weigh_r2 : List Cond := [Cond.fieldLink RX2 19 "WatchPoses$SavedStates" "size" "I", Cond.methodLink RX2 27 Lib.Math.min.name, Cond.static Lib.Math.min.name, Cond.initialized "java/lang/Math", Cond.code Lib.Math.min.name Lib.Math.min.code 2 (some .int), Cond.methodLink RX2 23 yX3_copyFrom, Cond.instanceMethod yX3_copyFrom, Cond.selects RX3 yX3_copyFrom yX3_copyFrom, Cond.initialized RX3, Cond.code yX3_copyFrom cX3_copyFrom 2 none, Cond.fieldLink RX3 12 "WatchPoses$State" "watch" "LWatchPoses$Watch;", Cond.fieldLink RX3 21 "WatchPoses$State" "paper" "LWatchPoses$Paper;", Cond.fieldLink RX3 34 "WatchPoses$State" "settings" "[I", Cond.methodLink RX3 114 arraycopyName, Cond.native arraycopyName, Cond.static arraycopyName, Cond.initialized "java/lang/System", Cond.fieldLink RX3 37 "WatchPoses$State" "readings" "I", Cond.fieldLink RX3 41 "WatchPoses$State" "stopPart" "I", Cond.fieldLink RX3 44 "WatchPoses$State" "stopReason" "I", Cond.fieldLink RX3 47 "WatchPoses$State" "stopPose" "I", Cond.methodLink RX3 108 yX4_copyFrom, Cond.instanceMethod yX4_copyFrom, Cond.selects RX4 yX4_copyFrom yX4_copyFrom]
def wsX5_weigh_r3 : List Cond := [Cond.initialized RX4, Cond.code yX4_copyFrom cX4_copyFrom 2 none, Cond.fieldLink RX4 20 "WatchPoses$Watch" "weights" "[I", Cond.methodLink RX4 90 arraycopyName, Cond.fieldLink RX4 23 "WatchPoses$Watch" "regulator" "I", Cond.fieldLink RX4 27 "WatchPoses$Watch" "stud" "I", Cond.fieldLink RX4 30 "WatchPoses$Watch" "hoursLeft" "I", Cond.fieldLink RX4 33 "WatchPoses$Watch" "magnetism" "I", Cond.fieldLink RX4 36 "WatchPoses$Watch" "dirt" "I", Cond.fieldLink RX4 39 "WatchPoses$Watch" "lies" "I", Cond.fieldLink RX4 42 "WatchPoses$Watch" "hour" "I", Cond.fieldLink RX4 45 "WatchPoses$Watch" "error" "I", Cond.fieldLink RX4 48 "WatchPoses$Watch" "stood" "I", Cond.fieldLink RX4 51 "WatchPoses$Watch" "went" "I", Cond.methodLink RX3 111 yX1_copyFrom, Cond.instanceMethod yX1_copyFrom, Cond.selects RX1 yX1_copyFrom yX1_copyFrom, Cond.initialized RX1, Cond.code yX1_copyFrom cX1_copyFrom 2 none, Cond.fieldLink RX1 11 "WatchPoses$Paper" "row" "[I", Cond.methodLink RX1 45 arraycopyName, Cond.fieldLink RX1 15 "WatchPoses$Paper" "length" "I", Cond.methodLink RX5 66 yX4_weightOf, Cond.instanceMethod yX4_weightOf]
def wsX5_weigh_r4 : List Cond := [Cond.selects RX4 yX4_weightOf yX4_weightOf, Cond.code yX4_weightOf cX4_weightOf 2 (some .int), Cond.methodLink RX5 70 yX4_putWeight, Cond.instanceMethod yX4_putWeight, Cond.selects RX4 yX4_putWeight yX4_putWeight, Cond.code yX4_putWeight cX4_putWeight 3 none]
def wsX5_weigh : List Cond := .code yX5_weigh cX5_weigh 4 (some .int) :: ((wsX5_weigh_r1 ++ (wsX5_weigh_r2 ++ (wsX5_weigh_r3 ++ wsX5_weigh_r4))) ++ wsX50 ++ wsX30 ++ wsX20 ++ wsX40 ++ wsX10 ++ (vx_atS RX5 127 "java/lang/IndexOutOfBoundsException" ["java/lang/RuntimeException", "java/lang/Exception"]).filter goodWord ++ (vx_atS RX5 156 "java/lang/IllegalArgumentException" ["java/lang/RuntimeException", "java/lang/Exception"]).filter goodWord)
def wsX5_adjust_r1 : List Cond := [Cond.fieldLink RX5 22 "WatchPoses" "saved" "LWatchPoses$SavedStates;", Cond.fieldLink RX5 10 "WatchPoses" "now" "LWatchPoses$State;", Cond.fieldLink RX5 52 "WatchPoses$State" "watch" "LWatchPoses$Watch;", Cond.fieldLink RX5 74 "WatchPoses$Watch" "regulator" "I", Cond.fieldLink RX5 77 "WatchPoses$Watch" "stud" "I", Cond.methodLink RX5 44 yX5_demandRange, Cond.static yX5_demandRange, Cond.initialized RX5, Cond.code yX5_demandRange cX5_demandRange 3 none, Cond.classLink RX5 152 "java/lang/IllegalArgumentException", Cond.initialized "java/lang/IllegalArgumentException", Cond.methodLink RX5 48 yX2_push, Cond.instanceMethod yX2_push, Cond.selects RX2 yX2_push yX2_push, Cond.initialized RX2, Cond.code yX2_push cX2_push 2 none, Cond.fieldLink RX2 11 "WatchPoses$SavedStates" "ring" "[LWatchPoses$State;", Cond.fieldLink RX2 15 "WatchPoses$SavedStates" "next" "I", Cond.fieldLink RX2 19 "WatchPoses$SavedStates" "size" "I", Cond.methodLink RX2 27 Lib.Math.min.name, Cond.static Lib.Math.min.name, Cond.initialized "java/lang/Math", Cond.code Lib.Math.min.name Lib.Math.min.code 2 (some .int), Cond.methodLink RX2 23 yX3_copyFrom]
def wsX5_adjust_r2 : List Cond := [Cond.instanceMethod yX3_copyFrom, Cond.selects RX3 yX3_copyFrom yX3_copyFrom, Cond.initialized RX3, Cond.code yX3_copyFrom cX3_copyFrom 2 none, Cond.fieldLink RX3 12 "WatchPoses$State" "watch" "LWatchPoses$Watch;", Cond.fieldLink RX3 21 "WatchPoses$State" "paper" "LWatchPoses$Paper;", Cond.fieldLink RX3 34 "WatchPoses$State" "settings" "[I", Cond.methodLink RX3 114 arraycopyName, Cond.native arraycopyName, Cond.static arraycopyName, Cond.initialized "java/lang/System", Cond.fieldLink RX3 37 "WatchPoses$State" "readings" "I", Cond.fieldLink RX3 41 "WatchPoses$State" "stopPart" "I", Cond.fieldLink RX3 44 "WatchPoses$State" "stopReason" "I", Cond.fieldLink RX3 47 "WatchPoses$State" "stopPose" "I", Cond.methodLink RX3 108 yX4_copyFrom, Cond.instanceMethod yX4_copyFrom, Cond.selects RX4 yX4_copyFrom yX4_copyFrom, Cond.initialized RX4, Cond.code yX4_copyFrom cX4_copyFrom 2 none, Cond.fieldLink RX4 20 "WatchPoses$Watch" "weights" "[I", Cond.methodLink RX4 90 arraycopyName, Cond.fieldLink RX4 23 "WatchPoses$Watch" "regulator" "I", Cond.fieldLink RX4 27 "WatchPoses$Watch" "stud" "I"]
def wsX5_adjust_r3 : List Cond := [Cond.fieldLink RX4 30 "WatchPoses$Watch" "hoursLeft" "I", Cond.fieldLink RX4 33 "WatchPoses$Watch" "magnetism" "I", Cond.fieldLink RX4 36 "WatchPoses$Watch" "dirt" "I", Cond.fieldLink RX4 39 "WatchPoses$Watch" "lies" "I", Cond.fieldLink RX4 42 "WatchPoses$Watch" "hour" "I", Cond.fieldLink RX4 45 "WatchPoses$Watch" "error" "I", Cond.fieldLink RX4 48 "WatchPoses$Watch" "stood" "I", Cond.fieldLink RX4 51 "WatchPoses$Watch" "went" "I", Cond.methodLink RX3 111 yX1_copyFrom, Cond.instanceMethod yX1_copyFrom, Cond.selects RX1 yX1_copyFrom yX1_copyFrom, Cond.initialized RX1, Cond.code yX1_copyFrom cX1_copyFrom 2 none, Cond.fieldLink RX1 11 "WatchPoses$Paper" "row" "[I", Cond.methodLink RX1 45 arraycopyName, Cond.fieldLink RX1 15 "WatchPoses$Paper" "length" "I"]
def wsX5_adjust : List Cond := .code yX5_adjust cX5_adjust 4 (some .int) :: ((wsX5_adjust_r1 ++ (wsX5_adjust_r2 ++ wsX5_adjust_r3)) ++ wsX50 ++ wsX30 ++ wsX40 ++ wsX20 ++ wsX10 ++ (vx_atS RX5 156 "java/lang/IllegalArgumentException" ["java/lang/RuntimeException", "java/lang/Exception"]).filter goodWord)
def wsX5_magnetise_r1 : List Cond := [Cond.fieldLink RX5 22 "WatchPoses" "saved" "LWatchPoses$SavedStates;", Cond.fieldLink RX5 10 "WatchPoses" "now" "LWatchPoses$State;", Cond.fieldLink RX5 52 "WatchPoses$State" "watch" "LWatchPoses$Watch;", Cond.fieldLink RX5 80 "WatchPoses$Watch" "magnetism" "I", Cond.methodLink RX5 83 Lib.Math.min.name, Cond.static Lib.Math.min.name, Cond.initialized "java/lang/Math", Cond.code Lib.Math.min.name Lib.Math.min.code 2 (some .int), Cond.methodLink RX5 44 yX5_demandRange, Cond.static yX5_demandRange, Cond.initialized RX5, Cond.code yX5_demandRange cX5_demandRange 3 none, Cond.classLink RX5 152 "java/lang/IllegalArgumentException", Cond.initialized "java/lang/IllegalArgumentException", Cond.methodLink RX5 48 yX2_push, Cond.instanceMethod yX2_push, Cond.selects RX2 yX2_push yX2_push, Cond.initialized RX2, Cond.code yX2_push cX2_push 2 none, Cond.fieldLink RX2 11 "WatchPoses$SavedStates" "ring" "[LWatchPoses$State;", Cond.fieldLink RX2 15 "WatchPoses$SavedStates" "next" "I", Cond.fieldLink RX2 19 "WatchPoses$SavedStates" "size" "I", Cond.methodLink RX2 27 Lib.Math.min.name, Cond.methodLink RX2 23 yX3_copyFrom]
def wsX5_magnetise_r2 : List Cond := [Cond.instanceMethod yX3_copyFrom, Cond.selects RX3 yX3_copyFrom yX3_copyFrom, Cond.initialized RX3, Cond.code yX3_copyFrom cX3_copyFrom 2 none, Cond.fieldLink RX3 12 "WatchPoses$State" "watch" "LWatchPoses$Watch;", Cond.fieldLink RX3 21 "WatchPoses$State" "paper" "LWatchPoses$Paper;", Cond.fieldLink RX3 34 "WatchPoses$State" "settings" "[I", Cond.methodLink RX3 114 arraycopyName, Cond.native arraycopyName, Cond.static arraycopyName, Cond.initialized "java/lang/System", Cond.fieldLink RX3 37 "WatchPoses$State" "readings" "I", Cond.fieldLink RX3 41 "WatchPoses$State" "stopPart" "I", Cond.fieldLink RX3 44 "WatchPoses$State" "stopReason" "I", Cond.fieldLink RX3 47 "WatchPoses$State" "stopPose" "I", Cond.methodLink RX3 108 yX4_copyFrom, Cond.instanceMethod yX4_copyFrom, Cond.selects RX4 yX4_copyFrom yX4_copyFrom, Cond.initialized RX4, Cond.code yX4_copyFrom cX4_copyFrom 2 none, Cond.fieldLink RX4 20 "WatchPoses$Watch" "weights" "[I", Cond.methodLink RX4 90 arraycopyName, Cond.fieldLink RX4 23 "WatchPoses$Watch" "regulator" "I", Cond.fieldLink RX4 27 "WatchPoses$Watch" "stud" "I"]
def wsX5_magnetise_r3 : List Cond := [Cond.fieldLink RX4 30 "WatchPoses$Watch" "hoursLeft" "I", Cond.fieldLink RX4 33 "WatchPoses$Watch" "magnetism" "I", Cond.fieldLink RX4 36 "WatchPoses$Watch" "dirt" "I", Cond.fieldLink RX4 39 "WatchPoses$Watch" "lies" "I", Cond.fieldLink RX4 42 "WatchPoses$Watch" "hour" "I", Cond.fieldLink RX4 45 "WatchPoses$Watch" "error" "I", Cond.fieldLink RX4 48 "WatchPoses$Watch" "stood" "I", Cond.fieldLink RX4 51 "WatchPoses$Watch" "went" "I", Cond.methodLink RX3 111 yX1_copyFrom, Cond.instanceMethod yX1_copyFrom, Cond.selects RX1 yX1_copyFrom yX1_copyFrom, Cond.initialized RX1, Cond.code yX1_copyFrom cX1_copyFrom 2 none, Cond.fieldLink RX1 11 "WatchPoses$Paper" "row" "[I", Cond.methodLink RX1 45 arraycopyName, Cond.fieldLink RX1 15 "WatchPoses$Paper" "length" "I"]
def wsX5_magnetise : List Cond := .code yX5_magnetise cX5_magnetise 2 (some .int) :: ((wsX5_magnetise_r1 ++ (wsX5_magnetise_r2 ++ wsX5_magnetise_r3)) ++ wsX50 ++ wsX30 ++ wsX40 ++ wsX20 ++ wsX10 ++ (vx_atS RX5 156 "java/lang/IllegalArgumentException" ["java/lang/RuntimeException", "java/lang/Exception"]).filter goodWord)
def wsX5_demagnetise_r1 : List Cond := [Cond.fieldLink RX5 22 "WatchPoses" "saved" "LWatchPoses$SavedStates;", Cond.fieldLink RX5 10 "WatchPoses" "now" "LWatchPoses$State;", Cond.fieldLink RX5 52 "WatchPoses$State" "watch" "LWatchPoses$Watch;", Cond.fieldLink RX5 80 "WatchPoses$Watch" "magnetism" "I", Cond.methodLink RX5 48 yX2_push, Cond.instanceMethod yX2_push, Cond.selects RX2 yX2_push yX2_push, Cond.initialized RX2, Cond.code yX2_push cX2_push 2 none, Cond.fieldLink RX2 11 "WatchPoses$SavedStates" "ring" "[LWatchPoses$State;", Cond.fieldLink RX2 15 "WatchPoses$SavedStates" "next" "I", Cond.fieldLink RX2 19 "WatchPoses$SavedStates" "size" "I", Cond.methodLink RX2 27 Lib.Math.min.name, Cond.static Lib.Math.min.name, Cond.initialized "java/lang/Math", Cond.code Lib.Math.min.name Lib.Math.min.code 2 (some .int), Cond.methodLink RX2 23 yX3_copyFrom, Cond.instanceMethod yX3_copyFrom, Cond.selects RX3 yX3_copyFrom yX3_copyFrom, Cond.initialized RX3, Cond.code yX3_copyFrom cX3_copyFrom 2 none, Cond.fieldLink RX3 12 "WatchPoses$State" "watch" "LWatchPoses$Watch;", Cond.fieldLink RX3 21 "WatchPoses$State" "paper" "LWatchPoses$Paper;", Cond.fieldLink RX3 34 "WatchPoses$State" "settings" "[I"]
def wsX5_demagnetise_r2 : List Cond := [Cond.methodLink RX3 114 arraycopyName, Cond.native arraycopyName, Cond.static arraycopyName, Cond.initialized "java/lang/System", Cond.fieldLink RX3 37 "WatchPoses$State" "readings" "I", Cond.fieldLink RX3 41 "WatchPoses$State" "stopPart" "I", Cond.fieldLink RX3 44 "WatchPoses$State" "stopReason" "I", Cond.fieldLink RX3 47 "WatchPoses$State" "stopPose" "I", Cond.methodLink RX3 108 yX4_copyFrom, Cond.instanceMethod yX4_copyFrom, Cond.selects RX4 yX4_copyFrom yX4_copyFrom, Cond.initialized RX4, Cond.code yX4_copyFrom cX4_copyFrom 2 none, Cond.fieldLink RX4 20 "WatchPoses$Watch" "weights" "[I", Cond.methodLink RX4 90 arraycopyName, Cond.fieldLink RX4 23 "WatchPoses$Watch" "regulator" "I", Cond.fieldLink RX4 27 "WatchPoses$Watch" "stud" "I", Cond.fieldLink RX4 30 "WatchPoses$Watch" "hoursLeft" "I", Cond.fieldLink RX4 33 "WatchPoses$Watch" "magnetism" "I", Cond.fieldLink RX4 36 "WatchPoses$Watch" "dirt" "I", Cond.fieldLink RX4 39 "WatchPoses$Watch" "lies" "I", Cond.fieldLink RX4 42 "WatchPoses$Watch" "hour" "I", Cond.fieldLink RX4 45 "WatchPoses$Watch" "error" "I", Cond.fieldLink RX4 48 "WatchPoses$Watch" "stood" "I"]
def wsX5_demagnetise_r3 : List Cond := [Cond.fieldLink RX4 51 "WatchPoses$Watch" "went" "I", Cond.methodLink RX3 111 yX1_copyFrom, Cond.instanceMethod yX1_copyFrom, Cond.selects RX1 yX1_copyFrom yX1_copyFrom, Cond.initialized RX1, Cond.code yX1_copyFrom cX1_copyFrom 2 none, Cond.fieldLink RX1 11 "WatchPoses$Paper" "row" "[I", Cond.methodLink RX1 45 arraycopyName, Cond.fieldLink RX1 15 "WatchPoses$Paper" "length" "I"]
def wsX5_demagnetise : List Cond := .code yX5_demagnetise cX5_demagnetise 2 (some .int) :: ((wsX5_demagnetise_r1 ++ (wsX5_demagnetise_r2 ++ wsX5_demagnetise_r3)) ++ wsX50 ++ wsX30 ++ wsX40 ++ wsX20 ++ wsX10)
def wsX5_clean_r1 : List Cond := [Cond.fieldLink RX5 22 "WatchPoses" "saved" "LWatchPoses$SavedStates;", Cond.fieldLink RX5 10 "WatchPoses" "now" "LWatchPoses$State;", Cond.fieldLink RX5 52 "WatchPoses$State" "watch" "LWatchPoses$Watch;", Cond.fieldLink RX5 89 "WatchPoses$Watch" "dirt" "I", Cond.methodLink RX5 48 yX2_push, Cond.instanceMethod yX2_push, Cond.selects RX2 yX2_push yX2_push, Cond.initialized RX2, Cond.code yX2_push cX2_push 2 none, Cond.fieldLink RX2 11 "WatchPoses$SavedStates" "ring" "[LWatchPoses$State;", Cond.fieldLink RX2 15 "WatchPoses$SavedStates" "next" "I", Cond.fieldLink RX2 19 "WatchPoses$SavedStates" "size" "I", Cond.methodLink RX2 27 Lib.Math.min.name, Cond.static Lib.Math.min.name, Cond.initialized "java/lang/Math", Cond.code Lib.Math.min.name Lib.Math.min.code 2 (some .int), Cond.methodLink RX2 23 yX3_copyFrom, Cond.instanceMethod yX3_copyFrom, Cond.selects RX3 yX3_copyFrom yX3_copyFrom, Cond.initialized RX3, Cond.code yX3_copyFrom cX3_copyFrom 2 none, Cond.fieldLink RX3 12 "WatchPoses$State" "watch" "LWatchPoses$Watch;", Cond.fieldLink RX3 21 "WatchPoses$State" "paper" "LWatchPoses$Paper;", Cond.fieldLink RX3 34 "WatchPoses$State" "settings" "[I"]
def wsX5_clean_r2 : List Cond := [Cond.methodLink RX3 114 arraycopyName, Cond.native arraycopyName, Cond.static arraycopyName, Cond.initialized "java/lang/System", Cond.fieldLink RX3 37 "WatchPoses$State" "readings" "I", Cond.fieldLink RX3 41 "WatchPoses$State" "stopPart" "I", Cond.fieldLink RX3 44 "WatchPoses$State" "stopReason" "I", Cond.fieldLink RX3 47 "WatchPoses$State" "stopPose" "I", Cond.methodLink RX3 108 yX4_copyFrom, Cond.instanceMethod yX4_copyFrom, Cond.selects RX4 yX4_copyFrom yX4_copyFrom, Cond.initialized RX4, Cond.code yX4_copyFrom cX4_copyFrom 2 none, Cond.fieldLink RX4 20 "WatchPoses$Watch" "weights" "[I", Cond.methodLink RX4 90 arraycopyName, Cond.fieldLink RX4 23 "WatchPoses$Watch" "regulator" "I", Cond.fieldLink RX4 27 "WatchPoses$Watch" "stud" "I", Cond.fieldLink RX4 30 "WatchPoses$Watch" "hoursLeft" "I", Cond.fieldLink RX4 33 "WatchPoses$Watch" "magnetism" "I", Cond.fieldLink RX4 36 "WatchPoses$Watch" "dirt" "I", Cond.fieldLink RX4 39 "WatchPoses$Watch" "lies" "I", Cond.fieldLink RX4 42 "WatchPoses$Watch" "hour" "I", Cond.fieldLink RX4 45 "WatchPoses$Watch" "error" "I", Cond.fieldLink RX4 48 "WatchPoses$Watch" "stood" "I"]
def wsX5_clean_r3 : List Cond := [Cond.fieldLink RX4 51 "WatchPoses$Watch" "went" "I", Cond.methodLink RX3 111 yX1_copyFrom, Cond.instanceMethod yX1_copyFrom, Cond.selects RX1 yX1_copyFrom yX1_copyFrom, Cond.initialized RX1, Cond.code yX1_copyFrom cX1_copyFrom 2 none, Cond.fieldLink RX1 11 "WatchPoses$Paper" "row" "[I", Cond.methodLink RX1 45 arraycopyName, Cond.fieldLink RX1 15 "WatchPoses$Paper" "length" "I"]
def wsX5_clean : List Cond := .code yX5_clean cX5_clean 2 (some .int) :: ((wsX5_clean_r1 ++ (wsX5_clean_r2 ++ wsX5_clean_r3)) ++ wsX50 ++ wsX30 ++ wsX40 ++ wsX20 ++ wsX10)
def wsX5_lay_r1 : List Cond := [Cond.fieldLink RX5 22 "WatchPoses" "saved" "LWatchPoses$SavedStates;", Cond.fieldLink RX5 10 "WatchPoses" "now" "LWatchPoses$State;", Cond.fieldLink RX5 52 "WatchPoses$State" "watch" "LWatchPoses$Watch;", Cond.fieldLink RX5 92 "WatchPoses$Watch" "lies" "I", Cond.methodLink RX5 63 yX5_demandPose, Cond.static yX5_demandPose, Cond.initialized RX5, Cond.code yX5_demandPose cX5_demandPose 1 none, Cond.classLink RX5 123 "java/lang/IndexOutOfBoundsException", Cond.initialized "java/lang/IndexOutOfBoundsException", Cond.methodLink RX5 244 yX5_isPose, Cond.static yX5_isPose, Cond.code yX5_isPose cX5_isPose 1 (some .boolean), Cond.methodLink RX5 48 yX2_push, Cond.instanceMethod yX2_push, Cond.selects RX2 yX2_push yX2_push, Cond.initialized RX2, Cond.code yX2_push cX2_push 2 none, Cond.fieldLink RX2 11 "WatchPoses$SavedStates" "ring" "[LWatchPoses$State;", Cond.fieldLink RX2 15 "WatchPoses$SavedStates" "next" "I", Cond.fieldLink RX2 19 "WatchPoses$SavedStates" "size" "I", Cond.methodLink RX2 27 Lib.Math.min.name, Cond.static Lib.Math.min.name, Cond.initialized "java/lang/Math"]
def wsX5_lay_r2 : List Cond := [Cond.code Lib.Math.min.name Lib.Math.min.code 2 (some .int), Cond.methodLink RX2 23 yX3_copyFrom, Cond.instanceMethod yX3_copyFrom, Cond.selects RX3 yX3_copyFrom yX3_copyFrom, Cond.initialized RX3, Cond.code yX3_copyFrom cX3_copyFrom 2 none, Cond.fieldLink RX3 12 "WatchPoses$State" "watch" "LWatchPoses$Watch;", Cond.fieldLink RX3 21 "WatchPoses$State" "paper" "LWatchPoses$Paper;", Cond.fieldLink RX3 34 "WatchPoses$State" "settings" "[I", Cond.methodLink RX3 114 arraycopyName, Cond.native arraycopyName, Cond.static arraycopyName, Cond.initialized "java/lang/System", Cond.fieldLink RX3 37 "WatchPoses$State" "readings" "I", Cond.fieldLink RX3 41 "WatchPoses$State" "stopPart" "I", Cond.fieldLink RX3 44 "WatchPoses$State" "stopReason" "I", Cond.fieldLink RX3 47 "WatchPoses$State" "stopPose" "I", Cond.methodLink RX3 108 yX4_copyFrom, Cond.instanceMethod yX4_copyFrom, Cond.selects RX4 yX4_copyFrom yX4_copyFrom, Cond.initialized RX4, Cond.code yX4_copyFrom cX4_copyFrom 2 none, Cond.fieldLink RX4 20 "WatchPoses$Watch" "weights" "[I", Cond.methodLink RX4 90 arraycopyName]
def wsX5_lay_r3 : List Cond := [Cond.fieldLink RX4 23 "WatchPoses$Watch" "regulator" "I", Cond.fieldLink RX4 27 "WatchPoses$Watch" "stud" "I", Cond.fieldLink RX4 30 "WatchPoses$Watch" "hoursLeft" "I", Cond.fieldLink RX4 33 "WatchPoses$Watch" "magnetism" "I", Cond.fieldLink RX4 36 "WatchPoses$Watch" "dirt" "I", Cond.fieldLink RX4 39 "WatchPoses$Watch" "lies" "I", Cond.fieldLink RX4 42 "WatchPoses$Watch" "hour" "I", Cond.fieldLink RX4 45 "WatchPoses$Watch" "error" "I", Cond.fieldLink RX4 48 "WatchPoses$Watch" "stood" "I", Cond.fieldLink RX4 51 "WatchPoses$Watch" "went" "I", Cond.methodLink RX3 111 yX1_copyFrom, Cond.instanceMethod yX1_copyFrom, Cond.selects RX1 yX1_copyFrom yX1_copyFrom, Cond.initialized RX1, Cond.code yX1_copyFrom cX1_copyFrom 2 none, Cond.fieldLink RX1 11 "WatchPoses$Paper" "row" "[I", Cond.methodLink RX1 45 arraycopyName, Cond.fieldLink RX1 15 "WatchPoses$Paper" "length" "I"]
def wsX5_lay : List Cond := .code yX5_lay cX5_lay 3 (some .int) :: ((wsX5_lay_r1 ++ (wsX5_lay_r2 ++ wsX5_lay_r3)) ++ wsX50 ++ wsX30 ++ wsX40 ++ wsX20 ++ wsX10 ++ (vx_atS RX5 127 "java/lang/IndexOutOfBoundsException" ["java/lang/RuntimeException", "java/lang/Exception"]).filter goodWord)
def wsX5_pass_r1 : List Cond := [Cond.fieldLink RX5 22 "WatchPoses" "saved" "LWatchPoses$SavedStates;", Cond.fieldLink RX5 10 "WatchPoses" "now" "LWatchPoses$State;", Cond.fieldLink RX5 52 "WatchPoses$State" "watch" "LWatchPoses$Watch;", Cond.methodLink RX5 44 yX5_demandRange, Cond.static yX5_demandRange, Cond.initialized RX5, Cond.code yX5_demandRange cX5_demandRange 3 none, Cond.classLink RX5 152 "java/lang/IllegalArgumentException", Cond.initialized "java/lang/IllegalArgumentException", Cond.methodLink RX5 48 yX2_push, Cond.instanceMethod yX2_push, Cond.selects RX2 yX2_push yX2_push, Cond.initialized RX2, Cond.code yX2_push cX2_push 2 none, Cond.fieldLink RX2 11 "WatchPoses$SavedStates" "ring" "[LWatchPoses$State;", Cond.fieldLink RX2 15 "WatchPoses$SavedStates" "next" "I", Cond.fieldLink RX2 19 "WatchPoses$SavedStates" "size" "I", Cond.methodLink RX2 27 Lib.Math.min.name, Cond.static Lib.Math.min.name, Cond.initialized "java/lang/Math", Cond.code Lib.Math.min.name Lib.Math.min.code 2 (some .int), Cond.methodLink RX2 23 yX3_copyFrom, Cond.instanceMethod yX3_copyFrom, Cond.selects RX3 yX3_copyFrom yX3_copyFrom]
def wsX5_pass_r2 : List Cond := [Cond.initialized RX3, Cond.code yX3_copyFrom cX3_copyFrom 2 none, Cond.fieldLink RX3 12 "WatchPoses$State" "watch" "LWatchPoses$Watch;", Cond.fieldLink RX3 21 "WatchPoses$State" "paper" "LWatchPoses$Paper;", Cond.fieldLink RX3 34 "WatchPoses$State" "settings" "[I", Cond.methodLink RX3 114 arraycopyName, Cond.native arraycopyName, Cond.static arraycopyName, Cond.initialized "java/lang/System", Cond.fieldLink RX3 37 "WatchPoses$State" "readings" "I", Cond.fieldLink RX3 41 "WatchPoses$State" "stopPart" "I", Cond.fieldLink RX3 44 "WatchPoses$State" "stopReason" "I", Cond.fieldLink RX3 47 "WatchPoses$State" "stopPose" "I", Cond.methodLink RX3 108 yX4_copyFrom, Cond.instanceMethod yX4_copyFrom, Cond.selects RX4 yX4_copyFrom yX4_copyFrom, Cond.initialized RX4, Cond.code yX4_copyFrom cX4_copyFrom 2 none, Cond.fieldLink RX4 20 "WatchPoses$Watch" "weights" "[I", Cond.methodLink RX4 90 arraycopyName, Cond.fieldLink RX4 23 "WatchPoses$Watch" "regulator" "I", Cond.fieldLink RX4 27 "WatchPoses$Watch" "stud" "I", Cond.fieldLink RX4 30 "WatchPoses$Watch" "hoursLeft" "I", Cond.fieldLink RX4 33 "WatchPoses$Watch" "magnetism" "I"]
def wsX5_pass_r3 : List Cond := [Cond.fieldLink RX4 36 "WatchPoses$Watch" "dirt" "I", Cond.fieldLink RX4 39 "WatchPoses$Watch" "lies" "I", Cond.fieldLink RX4 42 "WatchPoses$Watch" "hour" "I", Cond.fieldLink RX4 45 "WatchPoses$Watch" "error" "I", Cond.fieldLink RX4 48 "WatchPoses$Watch" "stood" "I", Cond.fieldLink RX4 51 "WatchPoses$Watch" "went" "I", Cond.methodLink RX3 111 yX1_copyFrom, Cond.instanceMethod yX1_copyFrom, Cond.selects RX1 yX1_copyFrom yX1_copyFrom, Cond.initialized RX1, Cond.code yX1_copyFrom cX1_copyFrom 2 none, Cond.fieldLink RX1 11 "WatchPoses$Paper" "row" "[I", Cond.methodLink RX1 45 arraycopyName, Cond.fieldLink RX1 15 "WatchPoses$Paper" "length" "I", Cond.methodLink RX5 95 yX4_run, Cond.instanceMethod yX4_run, Cond.selects RX4 yX4_run yX4_run, Cond.code yX4_run cX4_run 4 (some .int), Cond.methodLink RX4 80 yX4_runHour, Cond.instanceMethod yX4_runHour, Cond.selects RX4 yX4_runHour yX4_runHour, Cond.code yX4_runHour cX4_runHour 1 none, Cond.methodLink RX4 58 Lib.Math.min.name, Cond.methodLink RX4 83 yX4_goes]
def wsX5_pass_r4 : List Cond := [Cond.instanceMethod yX4_goes, Cond.selects RX4 yX4_goes yX4_goes, Cond.code yX4_goes cX4_goes 1 (some .boolean), Cond.methodLink RX4 67 yX4_swingIn, Cond.instanceMethod yX4_swingIn, Cond.selects RX4 yX4_swingIn yX4_swingIn, Cond.code yX4_swingIn cX4_swingIn 3 (some .int), Cond.methodLink RX4 64 Lib.Math.max.name, Cond.static Lib.Math.max.name, Cond.code Lib.Math.max.name Lib.Math.max.code 2 (some .int), Cond.methodLink RX4 87 yX4_rateIn, Cond.instanceMethod yX4_rateIn, Cond.selects RX4 yX4_rateIn yX4_rateIn, Cond.code yX4_rateIn cX4_rateIn 4 (some .int), Cond.methodLink RX4 71 yX4_weightOf, Cond.instanceMethod yX4_weightOf, Cond.selects RX4 yX4_weightOf yX4_weightOf, Cond.code yX4_weightOf cX4_weightOf 2 (some .int), Cond.static yX5_isPose, Cond.code yX5_isPose cX5_isPose 1 (some .boolean), Cond.methodLink RX4 74 yJ9_floorDiv_7cf53, Cond.static yJ9_floorDiv_7cf53, Cond.initialized RJ9, Cond.code yJ9_floorDiv_7cf53 cJ9_floorDiv_7cf53 3 (some .int)]
def wsX5_pass : List Cond := .code yX5_pass cX5_pass 2 (some .int) :: ((wsX5_pass_r1 ++ (wsX5_pass_r2 ++ (wsX5_pass_r3 ++ wsX5_pass_r4))) ++ wsX50 ++ wsX30 ++ wsX20 ++ wsX40 ++ wsX10 ++ (vx_atS RX5 156 "java/lang/IllegalArgumentException" ["java/lang/RuntimeException", "java/lang/Exception"]).filter goodWord)
def wsX5_read_r1 : List Cond := [Cond.classLink RX5 101 "java/lang/IllegalStateException", Cond.initialized "java/lang/IllegalStateException", Cond.fieldLink RX5 10 "WatchPoses" "now" "LWatchPoses$State;", Cond.fieldLink RX5 22 "WatchPoses" "saved" "LWatchPoses$SavedStates;", Cond.fieldLink RX5 52 "WatchPoses$State" "watch" "LWatchPoses$Watch;", Cond.methodLink RX5 63 yX5_demandPose, Cond.static yX5_demandPose, Cond.initialized RX5, Cond.code yX5_demandPose cX5_demandPose 1 none, Cond.classLink RX5 123 "java/lang/IndexOutOfBoundsException", Cond.initialized "java/lang/IndexOutOfBoundsException", Cond.methodLink RX5 244 yX5_isPose, Cond.static yX5_isPose, Cond.code yX5_isPose cX5_isPose 1 (some .boolean), Cond.methodLink RX5 98 yX3_whyNoReading, Cond.instanceMethod yX3_whyNoReading, Cond.selects RX3 yX3_whyNoReading yX3_whyNoReading, Cond.initialized RX3, Cond.code yX3_whyNoReading cX3_whyNoReading 2 (some .int), Cond.fieldLink RX3 12 "WatchPoses$State" "watch" "LWatchPoses$Watch;", Cond.fieldLink RX3 50 "WatchPoses$Watch" "hoursLeft" "I", Cond.fieldLink RX3 34 "WatchPoses$State" "settings" "[I", Cond.fieldLink RX3 60 "WatchPoses$Watch" "magnetism" "I", Cond.fieldLink RX3 21 "WatchPoses$State" "paper" "LWatchPoses$Paper;"]
def wsX5_read_r2 : List Cond := [Cond.methodLink RX3 53 yX4_swingIn, Cond.instanceMethod yX4_swingIn, Cond.selects RX4 yX4_swingIn yX4_swingIn, Cond.initialized RX4, Cond.code yX4_swingIn cX4_swingIn 3 (some .int), Cond.fieldLink RX4 30 "WatchPoses$Watch" "hoursLeft" "I", Cond.fieldLink RX4 36 "WatchPoses$Watch" "dirt" "I", Cond.methodLink RX4 64 Lib.Math.max.name, Cond.static Lib.Math.max.name, Cond.initialized "java/lang/Math", Cond.code Lib.Math.max.name Lib.Math.max.code 2 (some .int), Cond.methodLink RX3 57 yX4_beatErrorIn, Cond.instanceMethod yX4_beatErrorIn, Cond.selects RX4 yX4_beatErrorIn yX4_beatErrorIn, Cond.code yX4_beatErrorIn cX4_beatErrorIn 3 (some .int), Cond.fieldLink RX4 27 "WatchPoses$Watch" "stud" "I", Cond.methodLink RX4 77 Lib.Math.abs.name, Cond.static Lib.Math.abs.name, Cond.code Lib.Math.abs.name Lib.Math.abs.code 1 (some .int), Cond.methodLink RX3 63 yX1_isFull, Cond.instanceMethod yX1_isFull, Cond.selects RX1 yX1_isFull yX1_isFull, Cond.initialized RX1, Cond.code yX1_isFull cX1_isFull 1 (some .boolean)]
def wsX5_read_r3 : List Cond := [Cond.fieldLink RX1 15 "WatchPoses$Paper" "length" "I", Cond.methodLink RX5 48 yX2_push, Cond.instanceMethod yX2_push, Cond.selects RX2 yX2_push yX2_push, Cond.initialized RX2, Cond.code yX2_push cX2_push 2 none, Cond.fieldLink RX2 11 "WatchPoses$SavedStates" "ring" "[LWatchPoses$State;", Cond.fieldLink RX2 15 "WatchPoses$SavedStates" "next" "I", Cond.fieldLink RX2 19 "WatchPoses$SavedStates" "size" "I", Cond.methodLink RX2 27 Lib.Math.min.name, Cond.static Lib.Math.min.name, Cond.code Lib.Math.min.name Lib.Math.min.code 2 (some .int), Cond.methodLink RX2 23 yX3_copyFrom, Cond.instanceMethod yX3_copyFrom, Cond.selects RX3 yX3_copyFrom yX3_copyFrom, Cond.code yX3_copyFrom cX3_copyFrom 2 none, Cond.methodLink RX3 114 arraycopyName, Cond.native arraycopyName, Cond.static arraycopyName, Cond.initialized "java/lang/System", Cond.fieldLink RX3 37 "WatchPoses$State" "readings" "I", Cond.fieldLink RX3 41 "WatchPoses$State" "stopPart" "I", Cond.fieldLink RX3 44 "WatchPoses$State" "stopReason" "I", Cond.fieldLink RX3 47 "WatchPoses$State" "stopPose" "I"]
def wsX5_read_r4 : List Cond := [Cond.methodLink RX3 108 yX4_copyFrom, Cond.instanceMethod yX4_copyFrom, Cond.selects RX4 yX4_copyFrom yX4_copyFrom, Cond.code yX4_copyFrom cX4_copyFrom 2 none, Cond.fieldLink RX4 20 "WatchPoses$Watch" "weights" "[I", Cond.methodLink RX4 90 arraycopyName, Cond.fieldLink RX4 23 "WatchPoses$Watch" "regulator" "I", Cond.fieldLink RX4 33 "WatchPoses$Watch" "magnetism" "I", Cond.fieldLink RX4 39 "WatchPoses$Watch" "lies" "I", Cond.fieldLink RX4 42 "WatchPoses$Watch" "hour" "I", Cond.fieldLink RX4 45 "WatchPoses$Watch" "error" "I", Cond.fieldLink RX4 48 "WatchPoses$Watch" "stood" "I", Cond.fieldLink RX4 51 "WatchPoses$Watch" "went" "I", Cond.methodLink RX3 111 yX1_copyFrom, Cond.instanceMethod yX1_copyFrom, Cond.selects RX1 yX1_copyFrom yX1_copyFrom, Cond.code yX1_copyFrom cX1_copyFrom 2 none, Cond.fieldLink RX1 11 "WatchPoses$Paper" "row" "[I", Cond.methodLink RX1 45 arraycopyName, Cond.methodLink RX5 108 yX3_makeReading, Cond.instanceMethod yX3_makeReading, Cond.selects RX3 yX3_makeReading yX3_makeReading, Cond.code yX3_makeReading cX3_makeReading 2 none, Cond.fieldLink RX3 67 "WatchPoses$Watch" "lies" "I"]
def wsX5_read_r5 : List Cond := [Cond.methodLink RX3 70 yX1_print, Cond.instanceMethod yX1_print, Cond.selects RX1 yX1_print yX1_print, Cond.code yX1_print cX1_print 3 none, Cond.fieldLink RX1 23 "WatchPoses$Watch" "hour" "I", Cond.fieldLink RX1 28 "WatchPoses$Watch" "lies" "I", Cond.methodLink RX1 19 yX1_isFull, Cond.methodLink RX1 31 yX4_rateIn, Cond.instanceMethod yX4_rateIn, Cond.selects RX4 yX4_rateIn yX4_rateIn, Cond.code yX4_rateIn cX4_rateIn 4 (some .int), Cond.methodLink RX4 67 yX4_swingIn, Cond.methodLink RX4 71 yX4_weightOf, Cond.instanceMethod yX4_weightOf, Cond.selects RX4 yX4_weightOf yX4_weightOf, Cond.code yX4_weightOf cX4_weightOf 2 (some .int), Cond.methodLink RX4 74 yJ9_floorDiv_7cf53, Cond.static yJ9_floorDiv_7cf53, Cond.initialized RJ9, Cond.code yJ9_floorDiv_7cf53 cJ9_floorDiv_7cf53 3 (some .int), Cond.methodLink RX1 35 yX4_beatErrorIn, Cond.methodLink RX1 38 yX4_swingIn, Cond.methodLink RX5 111 yX4_rateIn]
def wsX5_read : List Cond := .code yX5_read cX5_read 2 (some .int) :: ((wsX5_read_r1 ++ (wsX5_read_r2 ++ (wsX5_read_r3 ++ (wsX5_read_r4 ++ wsX5_read_r5)))) ++ wsX50 ++ wsX30 ++ wsX40 ++ wsX10 ++ wsX20 ++ (vx_atS RX5 105 "java/lang/IllegalStateException" ["java/lang/RuntimeException", "java/lang/Exception"]).filter goodWord ++ (vx_atS RX5 127 "java/lang/IndexOutOfBoundsException" ["java/lang/RuntimeException", "java/lang/Exception"]).filter goodWord)
def wsX5_renew_r1 : List Cond := [Cond.fieldLink RX5 22 "WatchPoses" "saved" "LWatchPoses$SavedStates;", Cond.fieldLink RX5 10 "WatchPoses" "now" "LWatchPoses$State;", Cond.fieldLink RX5 114 "WatchPoses$State" "paper" "LWatchPoses$Paper;", Cond.fieldLink RX5 118 "WatchPoses$Paper" "length" "I", Cond.methodLink RX5 48 yX2_push, Cond.instanceMethod yX2_push, Cond.selects RX2 yX2_push yX2_push, Cond.initialized RX2, Cond.code yX2_push cX2_push 2 none, Cond.fieldLink RX2 11 "WatchPoses$SavedStates" "ring" "[LWatchPoses$State;", Cond.fieldLink RX2 15 "WatchPoses$SavedStates" "next" "I", Cond.fieldLink RX2 19 "WatchPoses$SavedStates" "size" "I", Cond.methodLink RX2 27 Lib.Math.min.name, Cond.static Lib.Math.min.name, Cond.initialized "java/lang/Math", Cond.code Lib.Math.min.name Lib.Math.min.code 2 (some .int), Cond.methodLink RX2 23 yX3_copyFrom, Cond.instanceMethod yX3_copyFrom, Cond.selects RX3 yX3_copyFrom yX3_copyFrom, Cond.initialized RX3, Cond.code yX3_copyFrom cX3_copyFrom 2 none, Cond.fieldLink RX3 12 "WatchPoses$State" "watch" "LWatchPoses$Watch;", Cond.fieldLink RX3 21 "WatchPoses$State" "paper" "LWatchPoses$Paper;", Cond.fieldLink RX3 34 "WatchPoses$State" "settings" "[I"]
def wsX5_renew_r2 : List Cond := [Cond.methodLink RX3 114 arraycopyName, Cond.native arraycopyName, Cond.static arraycopyName, Cond.initialized "java/lang/System", Cond.fieldLink RX3 37 "WatchPoses$State" "readings" "I", Cond.fieldLink RX3 41 "WatchPoses$State" "stopPart" "I", Cond.fieldLink RX3 44 "WatchPoses$State" "stopReason" "I", Cond.fieldLink RX3 47 "WatchPoses$State" "stopPose" "I", Cond.methodLink RX3 108 yX4_copyFrom, Cond.instanceMethod yX4_copyFrom, Cond.selects RX4 yX4_copyFrom yX4_copyFrom, Cond.initialized RX4, Cond.code yX4_copyFrom cX4_copyFrom 2 none, Cond.fieldLink RX4 20 "WatchPoses$Watch" "weights" "[I", Cond.methodLink RX4 90 arraycopyName, Cond.fieldLink RX4 23 "WatchPoses$Watch" "regulator" "I", Cond.fieldLink RX4 27 "WatchPoses$Watch" "stud" "I", Cond.fieldLink RX4 30 "WatchPoses$Watch" "hoursLeft" "I", Cond.fieldLink RX4 33 "WatchPoses$Watch" "magnetism" "I", Cond.fieldLink RX4 36 "WatchPoses$Watch" "dirt" "I", Cond.fieldLink RX4 39 "WatchPoses$Watch" "lies" "I", Cond.fieldLink RX4 42 "WatchPoses$Watch" "hour" "I", Cond.fieldLink RX4 45 "WatchPoses$Watch" "error" "I", Cond.fieldLink RX4 48 "WatchPoses$Watch" "stood" "I"]
def wsX5_renew_r3 : List Cond := [Cond.fieldLink RX4 51 "WatchPoses$Watch" "went" "I", Cond.methodLink RX3 111 yX1_copyFrom, Cond.instanceMethod yX1_copyFrom, Cond.selects RX1 yX1_copyFrom yX1_copyFrom, Cond.initialized RX1, Cond.code yX1_copyFrom cX1_copyFrom 2 none, Cond.fieldLink RX1 11 "WatchPoses$Paper" "row" "[I", Cond.methodLink RX1 45 arraycopyName, Cond.fieldLink RX1 15 "WatchPoses$Paper" "length" "I"]
def wsX5_renew : List Cond := .code yX5_renew cX5_renew 2 (some .int) :: ((wsX5_renew_r1 ++ (wsX5_renew_r2 ++ wsX5_renew_r3)) ++ wsX50 ++ wsX30 ++ wsX10 ++ wsX20 ++ wsX40)
def wsX5_set_r1 : List Cond := [Cond.classLink RX5 123 "java/lang/IndexOutOfBoundsException", Cond.initialized "java/lang/IndexOutOfBoundsException", Cond.fieldLink RX5 128 "WatchPoses$State" "LEAST_SETTINGS" "[I", Cond.fieldLink RX5 132 "WatchPoses$State" "MOST_SETTINGS" "[I", Cond.fieldLink RX5 22 "WatchPoses" "saved" "LWatchPoses$SavedStates;", Cond.fieldLink RX5 10 "WatchPoses" "now" "LWatchPoses$State;", Cond.fieldLink RX5 135 "WatchPoses$State" "settings" "[I", Cond.methodLink RX5 44 yX5_demandRange, Cond.static yX5_demandRange, Cond.initialized RX5, Cond.code yX5_demandRange cX5_demandRange 3 none, Cond.classLink RX5 152 "java/lang/IllegalArgumentException", Cond.initialized "java/lang/IllegalArgumentException", Cond.methodLink RX5 48 yX2_push, Cond.instanceMethod yX2_push, Cond.selects RX2 yX2_push yX2_push, Cond.initialized RX2, Cond.code yX2_push cX2_push 2 none, Cond.fieldLink RX2 11 "WatchPoses$SavedStates" "ring" "[LWatchPoses$State;", Cond.fieldLink RX2 15 "WatchPoses$SavedStates" "next" "I", Cond.fieldLink RX2 19 "WatchPoses$SavedStates" "size" "I", Cond.methodLink RX2 27 Lib.Math.min.name, Cond.static Lib.Math.min.name, Cond.initialized "java/lang/Math"]
def wsX5_set_r2 : List Cond := [Cond.code Lib.Math.min.name Lib.Math.min.code 2 (some .int), Cond.methodLink RX2 23 yX3_copyFrom, Cond.instanceMethod yX3_copyFrom, Cond.selects RX3 yX3_copyFrom yX3_copyFrom, Cond.initialized RX3, Cond.code yX3_copyFrom cX3_copyFrom 2 none, Cond.fieldLink RX3 12 "WatchPoses$State" "watch" "LWatchPoses$Watch;", Cond.fieldLink RX3 21 "WatchPoses$State" "paper" "LWatchPoses$Paper;", Cond.fieldLink RX3 34 "WatchPoses$State" "settings" "[I", Cond.methodLink RX3 114 arraycopyName, Cond.native arraycopyName, Cond.static arraycopyName, Cond.initialized "java/lang/System", Cond.fieldLink RX3 37 "WatchPoses$State" "readings" "I", Cond.fieldLink RX3 41 "WatchPoses$State" "stopPart" "I", Cond.fieldLink RX3 44 "WatchPoses$State" "stopReason" "I", Cond.fieldLink RX3 47 "WatchPoses$State" "stopPose" "I", Cond.methodLink RX3 108 yX4_copyFrom, Cond.instanceMethod yX4_copyFrom, Cond.selects RX4 yX4_copyFrom yX4_copyFrom, Cond.initialized RX4, Cond.code yX4_copyFrom cX4_copyFrom 2 none, Cond.fieldLink RX4 20 "WatchPoses$Watch" "weights" "[I", Cond.methodLink RX4 90 arraycopyName]
def wsX5_set_r3 : List Cond := [Cond.fieldLink RX4 23 "WatchPoses$Watch" "regulator" "I", Cond.fieldLink RX4 27 "WatchPoses$Watch" "stud" "I", Cond.fieldLink RX4 30 "WatchPoses$Watch" "hoursLeft" "I", Cond.fieldLink RX4 33 "WatchPoses$Watch" "magnetism" "I", Cond.fieldLink RX4 36 "WatchPoses$Watch" "dirt" "I", Cond.fieldLink RX4 39 "WatchPoses$Watch" "lies" "I", Cond.fieldLink RX4 42 "WatchPoses$Watch" "hour" "I", Cond.fieldLink RX4 45 "WatchPoses$Watch" "error" "I", Cond.fieldLink RX4 48 "WatchPoses$Watch" "stood" "I", Cond.fieldLink RX4 51 "WatchPoses$Watch" "went" "I", Cond.methodLink RX3 111 yX1_copyFrom, Cond.instanceMethod yX1_copyFrom, Cond.selects RX1 yX1_copyFrom yX1_copyFrom, Cond.initialized RX1, Cond.code yX1_copyFrom cX1_copyFrom 2 none, Cond.fieldLink RX1 11 "WatchPoses$Paper" "row" "[I", Cond.methodLink RX1 45 arraycopyName, Cond.fieldLink RX1 15 "WatchPoses$Paper" "length" "I"]
def wsX5_set : List Cond := .code yX5_set cX5_set 4 (some .int) :: ((wsX5_set_r1 ++ (wsX5_set_r2 ++ wsX5_set_r3)) ++ wsX50 ++ wsX30 ++ wsX20 ++ wsX40 ++ wsX10 ++ (vx_atS RX5 127 "java/lang/IndexOutOfBoundsException" ["java/lang/RuntimeException", "java/lang/Exception"]).filter goodWord ++ (vx_atS RX5 156 "java/lang/IllegalArgumentException" ["java/lang/RuntimeException", "java/lang/Exception"]).filter goodWord)
def wsX5_undo_r1 : List Cond := [Cond.classLink RX5 101 "java/lang/IllegalStateException", Cond.initialized "java/lang/IllegalStateException", Cond.fieldLink RX5 22 "WatchPoses" "saved" "LWatchPoses$SavedStates;", Cond.fieldLink RX5 170 "WatchPoses$SavedStates" "size" "I", Cond.fieldLink RX5 10 "WatchPoses" "now" "LWatchPoses$State;", Cond.methodLink RX5 175 yX2_popInto, Cond.instanceMethod yX2_popInto, Cond.selects RX2 yX2_popInto yX2_popInto, Cond.initialized RX2, Cond.code yX2_popInto cX2_popInto 2 none, Cond.fieldLink RX2 19 "WatchPoses$SavedStates" "size" "I", Cond.fieldLink RX2 15 "WatchPoses$SavedStates" "next" "I", Cond.fieldLink RX2 11 "WatchPoses$SavedStates" "ring" "[LWatchPoses$State;", Cond.methodLink RX2 23 yX3_copyFrom, Cond.instanceMethod yX3_copyFrom, Cond.selects RX3 yX3_copyFrom yX3_copyFrom, Cond.initialized RX3, Cond.code yX3_copyFrom cX3_copyFrom 2 none, Cond.fieldLink RX3 12 "WatchPoses$State" "watch" "LWatchPoses$Watch;", Cond.fieldLink RX3 21 "WatchPoses$State" "paper" "LWatchPoses$Paper;", Cond.fieldLink RX3 34 "WatchPoses$State" "settings" "[I", Cond.methodLink RX3 114 arraycopyName, Cond.native arraycopyName, Cond.static arraycopyName]
def wsX5_undo_r2 : List Cond := [Cond.initialized "java/lang/System", Cond.fieldLink RX3 37 "WatchPoses$State" "readings" "I", Cond.fieldLink RX3 41 "WatchPoses$State" "stopPart" "I", Cond.fieldLink RX3 44 "WatchPoses$State" "stopReason" "I", Cond.fieldLink RX3 47 "WatchPoses$State" "stopPose" "I", Cond.methodLink RX3 108 yX4_copyFrom, Cond.instanceMethod yX4_copyFrom, Cond.selects RX4 yX4_copyFrom yX4_copyFrom, Cond.initialized RX4, Cond.code yX4_copyFrom cX4_copyFrom 2 none, Cond.fieldLink RX4 20 "WatchPoses$Watch" "weights" "[I", Cond.methodLink RX4 90 arraycopyName, Cond.fieldLink RX4 23 "WatchPoses$Watch" "regulator" "I", Cond.fieldLink RX4 27 "WatchPoses$Watch" "stud" "I", Cond.fieldLink RX4 30 "WatchPoses$Watch" "hoursLeft" "I", Cond.fieldLink RX4 33 "WatchPoses$Watch" "magnetism" "I", Cond.fieldLink RX4 36 "WatchPoses$Watch" "dirt" "I", Cond.fieldLink RX4 39 "WatchPoses$Watch" "lies" "I", Cond.fieldLink RX4 42 "WatchPoses$Watch" "hour" "I", Cond.fieldLink RX4 45 "WatchPoses$Watch" "error" "I", Cond.fieldLink RX4 48 "WatchPoses$Watch" "stood" "I", Cond.fieldLink RX4 51 "WatchPoses$Watch" "went" "I", Cond.methodLink RX3 111 yX1_copyFrom, Cond.instanceMethod yX1_copyFrom]
def wsX5_undo_r3 : List Cond := [Cond.selects RX1 yX1_copyFrom yX1_copyFrom, Cond.initialized RX1, Cond.code yX1_copyFrom cX1_copyFrom 2 none, Cond.fieldLink RX1 11 "WatchPoses$Paper" "row" "[I", Cond.methodLink RX1 45 arraycopyName, Cond.fieldLink RX1 15 "WatchPoses$Paper" "length" "I"]
def wsX5_undo : List Cond := .code yX5_undo cX5_undo 1 (some .int) :: ((wsX5_undo_r1 ++ (wsX5_undo_r2 ++ wsX5_undo_r3)) ++ wsX50 ++ wsX20 ++ wsX30 ++ wsX40 ++ wsX10 ++ (vx_atS RX5 105 "java/lang/IllegalStateException" ["java/lang/RuntimeException", "java/lang/Exception"]).filter goodWord)
def wsX5_restore_r1 : List Cond := [Cond.classLink RX5 101 "java/lang/IllegalStateException", Cond.initialized "java/lang/IllegalStateException", Cond.fieldLink RX5 40 "WatchPoses" "hasSnapshot" "Z", Cond.fieldLink RX5 22 "WatchPoses" "saved" "LWatchPoses$SavedStates;", Cond.fieldLink RX5 10 "WatchPoses" "now" "LWatchPoses$State;", Cond.fieldLink RX5 16 "WatchPoses" "snapshot" "LWatchPoses$State;", Cond.fieldLink RX5 52 "WatchPoses$State" "watch" "LWatchPoses$Watch;", Cond.fieldLink RX5 181 "WatchPoses$Watch" "hour" "I", Cond.methodLink RX5 48 yX2_push, Cond.instanceMethod yX2_push, Cond.selects RX2 yX2_push yX2_push, Cond.initialized RX2, Cond.code yX2_push cX2_push 2 none, Cond.fieldLink RX2 11 "WatchPoses$SavedStates" "ring" "[LWatchPoses$State;", Cond.fieldLink RX2 15 "WatchPoses$SavedStates" "next" "I", Cond.fieldLink RX2 19 "WatchPoses$SavedStates" "size" "I", Cond.methodLink RX2 27 Lib.Math.min.name, Cond.static Lib.Math.min.name, Cond.initialized "java/lang/Math", Cond.code Lib.Math.min.name Lib.Math.min.code 2 (some .int), Cond.methodLink RX2 23 yX3_copyFrom, Cond.instanceMethod yX3_copyFrom, Cond.selects RX3 yX3_copyFrom yX3_copyFrom, Cond.initialized RX3]
def wsX5_restore_r2 : List Cond := [Cond.code yX3_copyFrom cX3_copyFrom 2 none, Cond.fieldLink RX3 12 "WatchPoses$State" "watch" "LWatchPoses$Watch;", Cond.fieldLink RX3 21 "WatchPoses$State" "paper" "LWatchPoses$Paper;", Cond.fieldLink RX3 34 "WatchPoses$State" "settings" "[I", Cond.methodLink RX3 114 arraycopyName, Cond.native arraycopyName, Cond.static arraycopyName, Cond.initialized "java/lang/System", Cond.fieldLink RX3 37 "WatchPoses$State" "readings" "I", Cond.fieldLink RX3 41 "WatchPoses$State" "stopPart" "I", Cond.fieldLink RX3 44 "WatchPoses$State" "stopReason" "I", Cond.fieldLink RX3 47 "WatchPoses$State" "stopPose" "I", Cond.methodLink RX3 108 yX4_copyFrom, Cond.instanceMethod yX4_copyFrom, Cond.selects RX4 yX4_copyFrom yX4_copyFrom, Cond.initialized RX4, Cond.code yX4_copyFrom cX4_copyFrom 2 none, Cond.fieldLink RX4 20 "WatchPoses$Watch" "weights" "[I", Cond.methodLink RX4 90 arraycopyName, Cond.fieldLink RX4 23 "WatchPoses$Watch" "regulator" "I", Cond.fieldLink RX4 27 "WatchPoses$Watch" "stud" "I", Cond.fieldLink RX4 30 "WatchPoses$Watch" "hoursLeft" "I", Cond.fieldLink RX4 33 "WatchPoses$Watch" "magnetism" "I", Cond.fieldLink RX4 36 "WatchPoses$Watch" "dirt" "I"]
def wsX5_restore_r3 : List Cond := [Cond.fieldLink RX4 39 "WatchPoses$Watch" "lies" "I", Cond.fieldLink RX4 42 "WatchPoses$Watch" "hour" "I", Cond.fieldLink RX4 45 "WatchPoses$Watch" "error" "I", Cond.fieldLink RX4 48 "WatchPoses$Watch" "stood" "I", Cond.fieldLink RX4 51 "WatchPoses$Watch" "went" "I", Cond.methodLink RX3 111 yX1_copyFrom, Cond.instanceMethod yX1_copyFrom, Cond.selects RX1 yX1_copyFrom yX1_copyFrom, Cond.initialized RX1, Cond.code yX1_copyFrom cX1_copyFrom 2 none, Cond.fieldLink RX1 11 "WatchPoses$Paper" "row" "[I", Cond.methodLink RX1 45 arraycopyName, Cond.fieldLink RX1 15 "WatchPoses$Paper" "length" "I", Cond.methodLink RX5 178 yX3_copyFrom]
def wsX5_restore : List Cond := .code yX5_restore cX5_restore 1 (some .int) :: ((wsX5_restore_r1 ++ (wsX5_restore_r2 ++ wsX5_restore_r3)) ++ wsX50 ++ wsX30 ++ wsX40 ++ wsX20 ++ wsX10 ++ (vx_atS RX5 105 "java/lang/IllegalStateException" ["java/lang/RuntimeException", "java/lang/Exception"]).filter goodWord)
def wsX5_poseNumber_r1 : List Cond := [Cond.fieldLink RX5 10 "WatchPoses" "now" "LWatchPoses$State;", Cond.fieldLink RX5 114 "WatchPoses$State" "paper" "LWatchPoses$Paper;", Cond.fieldLink RX5 52 "WatchPoses$State" "watch" "LWatchPoses$Watch;", Cond.methodLink RX5 264 yX1_latestIn, Cond.instanceMethod yX1_latestIn, Cond.selects RX1 yX1_latestIn yX1_latestIn, Cond.initialized RX1, Cond.code yX1_latestIn cX1_latestIn 3 (some .int), Cond.fieldLink RX1 15 "WatchPoses$Paper" "length" "I", Cond.methodLink RX1 41 yX1_number, Cond.instanceMethod yX1_number, Cond.selects RX1 yX1_number yX1_number, Cond.code yX1_number cX1_number 3 (some .int), Cond.fieldLink RX1 11 "WatchPoses$Paper" "row" "[I", Cond.methodLink RX5 66 yX4_weightOf, Cond.instanceMethod yX4_weightOf, Cond.selects RX4 yX4_weightOf yX4_weightOf, Cond.initialized RX4, Cond.code yX4_weightOf cX4_weightOf 2 (some .int), Cond.fieldLink RX4 20 "WatchPoses$Watch" "weights" "[I", Cond.static yX5_isPose, Cond.initialized RX5, Cond.code yX5_isPose cX5_isPose 1 (some .boolean), Cond.methodLink RX5 267 yX4_swingIn]
def wsX5_poseNumber_r2 : List Cond := [Cond.instanceMethod yX4_swingIn, Cond.selects RX4 yX4_swingIn yX4_swingIn, Cond.code yX4_swingIn cX4_swingIn 3 (some .int), Cond.fieldLink RX4 30 "WatchPoses$Watch" "hoursLeft" "I", Cond.fieldLink RX4 36 "WatchPoses$Watch" "dirt" "I", Cond.methodLink RX4 64 Lib.Math.max.name, Cond.static Lib.Math.max.name, Cond.initialized "java/lang/Math", Cond.code Lib.Math.max.name Lib.Math.max.code 2 (some .int), Cond.methodLink RX5 111 yX4_rateIn, Cond.instanceMethod yX4_rateIn, Cond.selects RX4 yX4_rateIn yX4_rateIn, Cond.code yX4_rateIn cX4_rateIn 4 (some .int), Cond.fieldLink RX4 23 "WatchPoses$Watch" "regulator" "I", Cond.fieldLink RX4 33 "WatchPoses$Watch" "magnetism" "I", Cond.methodLink RX4 67 yX4_swingIn, Cond.methodLink RX4 71 yX4_weightOf, Cond.methodLink RX4 74 yJ9_floorDiv_7cf53, Cond.static yJ9_floorDiv_7cf53, Cond.initialized RJ9, Cond.code yJ9_floorDiv_7cf53 cJ9_floorDiv_7cf53 3 (some .int), Cond.methodLink RX5 270 yX4_beatErrorIn, Cond.instanceMethod yX4_beatErrorIn, Cond.selects RX4 yX4_beatErrorIn yX4_beatErrorIn]
def wsX5_poseNumber_r3 : List Cond := [Cond.code yX4_beatErrorIn cX4_beatErrorIn 3 (some .int), Cond.fieldLink RX4 27 "WatchPoses$Watch" "stud" "I", Cond.methodLink RX4 77 Lib.Math.abs.name, Cond.static Lib.Math.abs.name, Cond.code Lib.Math.abs.name Lib.Math.abs.code 1 (some .int), Cond.methodLink RX5 98 yX3_whyNoReading, Cond.instanceMethod yX3_whyNoReading, Cond.selects RX3 yX3_whyNoReading yX3_whyNoReading, Cond.initialized RX3, Cond.code yX3_whyNoReading cX3_whyNoReading 2 (some .int), Cond.fieldLink RX3 12 "WatchPoses$State" "watch" "LWatchPoses$Watch;", Cond.fieldLink RX3 50 "WatchPoses$Watch" "hoursLeft" "I", Cond.fieldLink RX3 34 "WatchPoses$State" "settings" "[I", Cond.fieldLink RX3 60 "WatchPoses$Watch" "magnetism" "I", Cond.fieldLink RX3 21 "WatchPoses$State" "paper" "LWatchPoses$Paper;", Cond.methodLink RX3 53 yX4_swingIn, Cond.methodLink RX3 57 yX4_beatErrorIn, Cond.methodLink RX3 63 yX1_isFull, Cond.instanceMethod yX1_isFull, Cond.selects RX1 yX1_isFull yX1_isFull, Cond.code yX1_isFull cX1_isFull 1 (some .boolean), Cond.methodLink RX5 273 yX1_number, Cond.methodLink RX5 276 yX1_readingsIn, Cond.instanceMethod yX1_readingsIn]
def wsX5_poseNumber_r4 : List Cond := [Cond.selects RX1 yX1_readingsIn yX1_readingsIn, Cond.code yX1_readingsIn cX1_readingsIn 4 (some .int)]
def wsX5_poseNumber : List Cond := .code yX5_poseNumber cX5_poseNumber 4 (some .int) :: ((wsX5_poseNumber_r1 ++ (wsX5_poseNumber_r2 ++ (wsX5_poseNumber_r3 ++ wsX5_poseNumber_r4))) ++ wsX50 ++ wsX30 ++ wsX10 ++ wsX40)
def wsX5_pose_r1 : List Cond := [Cond.methodLink RX5 63 yX5_demandPose, Cond.static yX5_demandPose, Cond.initialized RX5, Cond.code yX5_demandPose cX5_demandPose 1 none, Cond.classLink RX5 123 "java/lang/IndexOutOfBoundsException", Cond.initialized "java/lang/IndexOutOfBoundsException", Cond.methodLink RX5 244 yX5_isPose, Cond.static yX5_isPose, Cond.code yX5_isPose cX5_isPose 1 (some .boolean), Cond.methodLink RX5 44 yX5_demandRange, Cond.static yX5_demandRange, Cond.code yX5_demandRange cX5_demandRange 3 none, Cond.classLink RX5 152 "java/lang/IllegalArgumentException", Cond.initialized "java/lang/IllegalArgumentException", Cond.methodLink RX5 186 yX5_poseNumber, Cond.instanceMethod yX5_poseNumber, Cond.selects RX5 yX5_poseNumber yX5_poseNumber, Cond.code yX5_poseNumber cX5_poseNumber 4 (some .int), Cond.fieldLink RX5 10 "WatchPoses" "now" "LWatchPoses$State;", Cond.fieldLink RX5 114 "WatchPoses$State" "paper" "LWatchPoses$Paper;", Cond.fieldLink RX5 52 "WatchPoses$State" "watch" "LWatchPoses$Watch;", Cond.methodLink RX5 264 yX1_latestIn, Cond.instanceMethod yX1_latestIn, Cond.selects RX1 yX1_latestIn yX1_latestIn]
def wsX5_pose_r2 : List Cond := [Cond.initialized RX1, Cond.code yX1_latestIn cX1_latestIn 3 (some .int), Cond.fieldLink RX1 15 "WatchPoses$Paper" "length" "I", Cond.methodLink RX1 41 yX1_number, Cond.instanceMethod yX1_number, Cond.selects RX1 yX1_number yX1_number, Cond.code yX1_number cX1_number 3 (some .int), Cond.fieldLink RX1 11 "WatchPoses$Paper" "row" "[I", Cond.methodLink RX5 66 yX4_weightOf, Cond.instanceMethod yX4_weightOf, Cond.selects RX4 yX4_weightOf yX4_weightOf, Cond.initialized RX4, Cond.code yX4_weightOf cX4_weightOf 2 (some .int), Cond.fieldLink RX4 20 "WatchPoses$Watch" "weights" "[I", Cond.methodLink RX5 267 yX4_swingIn, Cond.instanceMethod yX4_swingIn, Cond.selects RX4 yX4_swingIn yX4_swingIn, Cond.code yX4_swingIn cX4_swingIn 3 (some .int), Cond.fieldLink RX4 30 "WatchPoses$Watch" "hoursLeft" "I", Cond.fieldLink RX4 36 "WatchPoses$Watch" "dirt" "I", Cond.methodLink RX4 64 Lib.Math.max.name, Cond.static Lib.Math.max.name, Cond.initialized "java/lang/Math", Cond.code Lib.Math.max.name Lib.Math.max.code 2 (some .int)]
def wsX5_pose_r3 : List Cond := [Cond.methodLink RX5 111 yX4_rateIn, Cond.instanceMethod yX4_rateIn, Cond.selects RX4 yX4_rateIn yX4_rateIn, Cond.code yX4_rateIn cX4_rateIn 4 (some .int), Cond.fieldLink RX4 23 "WatchPoses$Watch" "regulator" "I", Cond.fieldLink RX4 33 "WatchPoses$Watch" "magnetism" "I", Cond.methodLink RX4 67 yX4_swingIn, Cond.methodLink RX4 71 yX4_weightOf, Cond.methodLink RX4 74 yJ9_floorDiv_7cf53, Cond.static yJ9_floorDiv_7cf53, Cond.initialized RJ9, Cond.code yJ9_floorDiv_7cf53 cJ9_floorDiv_7cf53 3 (some .int), Cond.methodLink RX5 270 yX4_beatErrorIn, Cond.instanceMethod yX4_beatErrorIn, Cond.selects RX4 yX4_beatErrorIn yX4_beatErrorIn, Cond.code yX4_beatErrorIn cX4_beatErrorIn 3 (some .int), Cond.fieldLink RX4 27 "WatchPoses$Watch" "stud" "I", Cond.methodLink RX4 77 Lib.Math.abs.name, Cond.static Lib.Math.abs.name, Cond.code Lib.Math.abs.name Lib.Math.abs.code 1 (some .int), Cond.methodLink RX5 98 yX3_whyNoReading, Cond.instanceMethod yX3_whyNoReading, Cond.selects RX3 yX3_whyNoReading yX3_whyNoReading, Cond.initialized RX3]
def wsX5_pose_r4 : List Cond := [Cond.code yX3_whyNoReading cX3_whyNoReading 2 (some .int), Cond.fieldLink RX3 12 "WatchPoses$State" "watch" "LWatchPoses$Watch;", Cond.fieldLink RX3 50 "WatchPoses$Watch" "hoursLeft" "I", Cond.fieldLink RX3 34 "WatchPoses$State" "settings" "[I", Cond.fieldLink RX3 60 "WatchPoses$Watch" "magnetism" "I", Cond.fieldLink RX3 21 "WatchPoses$State" "paper" "LWatchPoses$Paper;", Cond.methodLink RX3 53 yX4_swingIn, Cond.methodLink RX3 57 yX4_beatErrorIn, Cond.methodLink RX3 63 yX1_isFull, Cond.instanceMethod yX1_isFull, Cond.selects RX1 yX1_isFull yX1_isFull, Cond.code yX1_isFull cX1_isFull 1 (some .boolean), Cond.methodLink RX5 273 yX1_number, Cond.methodLink RX5 276 yX1_readingsIn, Cond.instanceMethod yX1_readingsIn, Cond.selects RX1 yX1_readingsIn yX1_readingsIn, Cond.code yX1_readingsIn cX1_readingsIn 4 (some .int)]
def wsX5_pose : List Cond := .code yX5_pose cX5_pose 3 (some .int) :: ((wsX5_pose_r1 ++ (wsX5_pose_r2 ++ (wsX5_pose_r3 ++ wsX5_pose_r4))) ++ wsX50 ++ wsX30 ++ wsX10 ++ wsX40 ++ (vx_atS RX5 127 "java/lang/IndexOutOfBoundsException" ["java/lang/RuntimeException", "java/lang/Exception"]).filter goodWord ++ (vx_atS RX5 156 "java/lang/IllegalArgumentException" ["java/lang/RuntimeException", "java/lang/Exception"]).filter goodWord)
def wsX5_readingNumber : List Cond := .code yX5_readingNumber cX5_readingNumber 4 (some .int) :: ([.fieldLink RX5 10 "WatchPoses" "now" "LWatchPoses$State;", .fieldLink RX5 114 "WatchPoses$State" "paper" "LWatchPoses$Paper;", .fieldLink RX5 118 "WatchPoses$Paper" "length" "I", .methodLink RX5 273 yX1_number, .instanceMethod yX1_number, .selects RX1 yX1_number yX1_number, .initialized RX1, .code yX1_number cX1_number 3 (some .int), .fieldLink RX1 15 "WatchPoses$Paper" "length" "I", .fieldLink RX1 11 "WatchPoses$Paper" "row" "[I"] ++ wsX50 ++ wsX30 ++ wsX10)
def wsX5_reading : List Cond := .code yX5_reading cX5_reading 3 (some .int) :: ([.classLink RX5 152 "java/lang/IllegalArgumentException", .initialized "java/lang/IllegalArgumentException", .methodLink RX5 44 yX5_demandRange, .static yX5_demandRange, .initialized RX5, .code yX5_demandRange cX5_demandRange 3 none, .methodLink RX5 191 yX5_readingNumber, .instanceMethod yX5_readingNumber, .selects RX5 yX5_readingNumber yX5_readingNumber, .code yX5_readingNumber cX5_readingNumber 4 (some .int), .fieldLink RX5 10 "WatchPoses" "now" "LWatchPoses$State;", .fieldLink RX5 114 "WatchPoses$State" "paper" "LWatchPoses$Paper;", .fieldLink RX5 118 "WatchPoses$Paper" "length" "I", .methodLink RX5 273 yX1_number, .instanceMethod yX1_number, .selects RX1 yX1_number yX1_number, .initialized RX1, .code yX1_number cX1_number 3 (some .int), .fieldLink RX1 15 "WatchPoses$Paper" "length" "I", .fieldLink RX1 11 "WatchPoses$Paper" "row" "[I"] ++ wsX50 ++ wsX30 ++ wsX10 ++ (vx_atS RX5 156 "java/lang/IllegalArgumentException" ["java/lang/RuntimeException", "java/lang/Exception"]).filter goodWord)
def wsX5_countNumber_r1 : List Cond := [Cond.fieldLink RX5 10 "WatchPoses" "now" "LWatchPoses$State;", Cond.fieldLink RX5 52 "WatchPoses$State" "watch" "LWatchPoses$Watch;", Cond.fieldLink RX5 181 "WatchPoses$Watch" "hour" "I", Cond.fieldLink RX5 59 "WatchPoses$Watch" "hoursLeft" "I", Cond.fieldLink RX5 74 "WatchPoses$Watch" "regulator" "I", Cond.fieldLink RX5 77 "WatchPoses$Watch" "stud" "I", Cond.fieldLink RX5 80 "WatchPoses$Watch" "magnetism" "I", Cond.fieldLink RX5 89 "WatchPoses$Watch" "dirt" "I", Cond.fieldLink RX5 92 "WatchPoses$Watch" "lies" "I", Cond.fieldLink RX5 211 "WatchPoses$Watch" "error" "I", Cond.constant RX5 282 (1000000), Cond.fieldLink RX5 283 "WatchPoses$Watch" "stood" "I", Cond.fieldLink RX5 114 "WatchPoses$State" "paper" "LWatchPoses$Paper;", Cond.fieldLink RX5 118 "WatchPoses$Paper" "length" "I", Cond.fieldLink RX5 286 "WatchPoses$State" "readings" "I", Cond.fieldLink RX5 214 "WatchPoses$Watch" "went" "I", Cond.fieldLink RX5 135 "WatchPoses$State" "settings" "[I", Cond.fieldLink RX5 22 "WatchPoses" "saved" "LWatchPoses$SavedStates;", Cond.fieldLink RX5 170 "WatchPoses$SavedStates" "size" "I", Cond.methodLink RX5 279 yX4_goes, Cond.instanceMethod yX4_goes, Cond.selects RX4 yX4_goes yX4_goes, Cond.initialized RX4, Cond.code yX4_goes cX4_goes 1 (some .boolean)]
def wsX5_countNumber_r2 : List Cond := [Cond.fieldLink RX4 30 "WatchPoses$Watch" "hoursLeft" "I", Cond.fieldLink RX4 39 "WatchPoses$Watch" "lies" "I", Cond.methodLink RX4 67 yX4_swingIn, Cond.instanceMethod yX4_swingIn, Cond.selects RX4 yX4_swingIn yX4_swingIn, Cond.code yX4_swingIn cX4_swingIn 3 (some .int), Cond.fieldLink RX4 36 "WatchPoses$Watch" "dirt" "I", Cond.methodLink RX4 64 Lib.Math.max.name, Cond.static Lib.Math.max.name, Cond.initialized "java/lang/Math", Cond.code Lib.Math.max.name Lib.Math.max.code 2 (some .int), Cond.methodLink RX5 289 yX3_dayRateByPoses, Cond.instanceMethod yX3_dayRateByPoses, Cond.selects RX3 yX3_dayRateByPoses yX3_dayRateByPoses, Cond.initialized RX3, Cond.code yX3_dayRateByPoses cX3_dayRateByPoses 3 (some .int), Cond.fieldLink RX3 21 "WatchPoses$State" "paper" "LWatchPoses$Paper;", Cond.methodLink RX3 94 yX3_whyNoDayRate, Cond.instanceMethod yX3_whyNoDayRate, Cond.selects RX3 yX3_whyNoDayRate yX3_whyNoDayRate, Cond.code yX3_whyNoDayRate cX3_whyNoDayRate 7 (some .int), Cond.constant RX3 74 (2000000000), Cond.constant RX3 75 (-2000000000), Cond.methodLink RX3 83 Lib.Math.min.name]
def wsX5_countNumber_r3 : List Cond := [Cond.static Lib.Math.min.name, Cond.code Lib.Math.min.name Lib.Math.min.code 2 (some .int), Cond.methodLink RX3 88 Lib.Math.max.name, Cond.fieldLink RX3 12 "WatchPoses$State" "watch" "LWatchPoses$Watch;", Cond.fieldLink RX3 91 "WatchPoses$Watch" "hour" "I", Cond.fieldLink RX3 34 "WatchPoses$State" "settings" "[I", Cond.methodLink RX3 76 yX1_latestIn, Cond.instanceMethod yX1_latestIn, Cond.selects RX1 yX1_latestIn yX1_latestIn, Cond.initialized RX1, Cond.code yX1_latestIn cX1_latestIn 3 (some .int), Cond.fieldLink RX1 15 "WatchPoses$Paper" "length" "I", Cond.methodLink RX1 41 yX1_number, Cond.instanceMethod yX1_number, Cond.selects RX1 yX1_number yX1_number, Cond.code yX1_number cX1_number 3 (some .int), Cond.fieldLink RX1 11 "WatchPoses$Paper" "row" "[I", Cond.methodLink RX3 79 yX1_number, Cond.methodLink RX3 98 yJ9_floorDiv_7cf53, Cond.static yJ9_floorDiv_7cf53, Cond.initialized RJ9, Cond.code yJ9_floorDiv_7cf53 cJ9_floorDiv_7cf53 3 (some .int), Cond.methodLink RX5 292 yX3_dayRateByPaper, Cond.instanceMethod yX3_dayRateByPaper]
def wsX5_countNumber_r4 : List Cond := [Cond.selects RX3 yX3_dayRateByPaper yX3_dayRateByPaper, Cond.code yX3_dayRateByPaper cX3_dayRateByPaper 9 (some .int), Cond.fieldLink RX3 101 "WatchPoses$Paper" "length" "I", Cond.methodLink RX5 295 yX3_whyNoDayRate]
def wsX5_countNumber : List Cond := .code yX5_countNumber cX5_countNumber 3 (some .int) :: ((wsX5_countNumber_r1 ++ (wsX5_countNumber_r2 ++ (wsX5_countNumber_r3 ++ wsX5_countNumber_r4))) ++ wsX50 ++ wsX30 ++ wsX40 ++ wsX10 ++ wsX20)
def wsX5_count_r1 : List Cond := [Cond.methodLink RX5 44 yX5_demandRange, Cond.static yX5_demandRange, Cond.initialized RX5, Cond.code yX5_demandRange cX5_demandRange 3 none, Cond.classLink RX5 152 "java/lang/IllegalArgumentException", Cond.initialized "java/lang/IllegalArgumentException", Cond.methodLink RX5 194 yX5_countNumber, Cond.instanceMethod yX5_countNumber, Cond.selects RX5 yX5_countNumber yX5_countNumber, Cond.code yX5_countNumber cX5_countNumber 3 (some .int), Cond.fieldLink RX5 10 "WatchPoses" "now" "LWatchPoses$State;", Cond.fieldLink RX5 52 "WatchPoses$State" "watch" "LWatchPoses$Watch;", Cond.fieldLink RX5 181 "WatchPoses$Watch" "hour" "I", Cond.fieldLink RX5 59 "WatchPoses$Watch" "hoursLeft" "I", Cond.fieldLink RX5 74 "WatchPoses$Watch" "regulator" "I", Cond.fieldLink RX5 77 "WatchPoses$Watch" "stud" "I", Cond.fieldLink RX5 80 "WatchPoses$Watch" "magnetism" "I", Cond.fieldLink RX5 89 "WatchPoses$Watch" "dirt" "I", Cond.fieldLink RX5 92 "WatchPoses$Watch" "lies" "I", Cond.fieldLink RX5 211 "WatchPoses$Watch" "error" "I", Cond.constant RX5 282 (1000000), Cond.fieldLink RX5 283 "WatchPoses$Watch" "stood" "I", Cond.fieldLink RX5 114 "WatchPoses$State" "paper" "LWatchPoses$Paper;", Cond.fieldLink RX5 118 "WatchPoses$Paper" "length" "I"]
def wsX5_count_r2 : List Cond := [Cond.fieldLink RX5 286 "WatchPoses$State" "readings" "I", Cond.fieldLink RX5 214 "WatchPoses$Watch" "went" "I", Cond.fieldLink RX5 135 "WatchPoses$State" "settings" "[I", Cond.fieldLink RX5 22 "WatchPoses" "saved" "LWatchPoses$SavedStates;", Cond.fieldLink RX5 170 "WatchPoses$SavedStates" "size" "I", Cond.methodLink RX5 279 yX4_goes, Cond.instanceMethod yX4_goes, Cond.selects RX4 yX4_goes yX4_goes, Cond.initialized RX4, Cond.code yX4_goes cX4_goes 1 (some .boolean), Cond.fieldLink RX4 30 "WatchPoses$Watch" "hoursLeft" "I", Cond.fieldLink RX4 39 "WatchPoses$Watch" "lies" "I", Cond.methodLink RX4 67 yX4_swingIn, Cond.instanceMethod yX4_swingIn, Cond.selects RX4 yX4_swingIn yX4_swingIn, Cond.code yX4_swingIn cX4_swingIn 3 (some .int), Cond.fieldLink RX4 36 "WatchPoses$Watch" "dirt" "I", Cond.methodLink RX4 64 Lib.Math.max.name, Cond.static Lib.Math.max.name, Cond.initialized "java/lang/Math", Cond.code Lib.Math.max.name Lib.Math.max.code 2 (some .int), Cond.methodLink RX5 289 yX3_dayRateByPoses, Cond.instanceMethod yX3_dayRateByPoses, Cond.selects RX3 yX3_dayRateByPoses yX3_dayRateByPoses]
def wsX5_count_r3 : List Cond := [Cond.initialized RX3, Cond.code yX3_dayRateByPoses cX3_dayRateByPoses 3 (some .int), Cond.fieldLink RX3 21 "WatchPoses$State" "paper" "LWatchPoses$Paper;", Cond.methodLink RX3 94 yX3_whyNoDayRate, Cond.instanceMethod yX3_whyNoDayRate, Cond.selects RX3 yX3_whyNoDayRate yX3_whyNoDayRate, Cond.code yX3_whyNoDayRate cX3_whyNoDayRate 7 (some .int), Cond.constant RX3 74 (2000000000), Cond.constant RX3 75 (-2000000000), Cond.methodLink RX3 83 Lib.Math.min.name, Cond.static Lib.Math.min.name, Cond.code Lib.Math.min.name Lib.Math.min.code 2 (some .int), Cond.methodLink RX3 88 Lib.Math.max.name, Cond.fieldLink RX3 12 "WatchPoses$State" "watch" "LWatchPoses$Watch;", Cond.fieldLink RX3 91 "WatchPoses$Watch" "hour" "I", Cond.fieldLink RX3 34 "WatchPoses$State" "settings" "[I", Cond.methodLink RX3 76 yX1_latestIn, Cond.instanceMethod yX1_latestIn, Cond.selects RX1 yX1_latestIn yX1_latestIn, Cond.initialized RX1, Cond.code yX1_latestIn cX1_latestIn 3 (some .int), Cond.fieldLink RX1 15 "WatchPoses$Paper" "length" "I", Cond.methodLink RX1 41 yX1_number, Cond.instanceMethod yX1_number]
def wsX5_count_r4 : List Cond := [Cond.selects RX1 yX1_number yX1_number, Cond.code yX1_number cX1_number 3 (some .int), Cond.fieldLink RX1 11 "WatchPoses$Paper" "row" "[I", Cond.methodLink RX3 79 yX1_number, Cond.methodLink RX3 98 yJ9_floorDiv_7cf53, Cond.static yJ9_floorDiv_7cf53, Cond.initialized RJ9, Cond.code yJ9_floorDiv_7cf53 cJ9_floorDiv_7cf53 3 (some .int), Cond.methodLink RX5 292 yX3_dayRateByPaper, Cond.instanceMethod yX3_dayRateByPaper, Cond.selects RX3 yX3_dayRateByPaper yX3_dayRateByPaper, Cond.code yX3_dayRateByPaper cX3_dayRateByPaper 9 (some .int), Cond.fieldLink RX3 101 "WatchPoses$Paper" "length" "I", Cond.methodLink RX5 295 yX3_whyNoDayRate]
def wsX5_count : List Cond := .code yX5_count cX5_count 2 (some .int) :: ((wsX5_count_r1 ++ (wsX5_count_r2 ++ (wsX5_count_r3 ++ wsX5_count_r4))) ++ wsX50 ++ wsX30 ++ wsX40 ++ wsX10 ++ wsX20 ++ (vx_atS RX5 156 "java/lang/IllegalArgumentException" ["java/lang/RuntimeException", "java/lang/Exception"]).filter goodWord)
def wsX5_wornNumber_r1 : List Cond := [Cond.fieldLink RX5 36 "WatchPoses" "trial" "LWatchPoses$Watch;", Cond.fieldLink RX5 10 "WatchPoses" "now" "LWatchPoses$State;", Cond.fieldLink RX5 52 "WatchPoses$State" "watch" "LWatchPoses$Watch;", Cond.fieldLink RX5 92 "WatchPoses$Watch" "lies" "I", Cond.fieldLink RX5 211 "WatchPoses$Watch" "error" "I", Cond.constant RX5 298 (100000), Cond.methodLink RX5 208 yX4_copyFrom, Cond.instanceMethod yX4_copyFrom, Cond.selects RX4 yX4_copyFrom yX4_copyFrom, Cond.initialized RX4, Cond.code yX4_copyFrom cX4_copyFrom 2 none, Cond.fieldLink RX4 20 "WatchPoses$Watch" "weights" "[I", Cond.methodLink RX4 90 arraycopyName, Cond.native arraycopyName, Cond.static arraycopyName, Cond.initialized "java/lang/System", Cond.fieldLink RX4 23 "WatchPoses$Watch" "regulator" "I", Cond.fieldLink RX4 27 "WatchPoses$Watch" "stud" "I", Cond.fieldLink RX4 30 "WatchPoses$Watch" "hoursLeft" "I", Cond.fieldLink RX4 33 "WatchPoses$Watch" "magnetism" "I", Cond.fieldLink RX4 36 "WatchPoses$Watch" "dirt" "I", Cond.fieldLink RX4 39 "WatchPoses$Watch" "lies" "I", Cond.fieldLink RX4 42 "WatchPoses$Watch" "hour" "I", Cond.fieldLink RX4 45 "WatchPoses$Watch" "error" "I"]
def wsX5_wornNumber_r2 : List Cond := [Cond.fieldLink RX4 48 "WatchPoses$Watch" "stood" "I", Cond.fieldLink RX4 51 "WatchPoses$Watch" "went" "I", Cond.methodLink RX5 95 yX4_run, Cond.instanceMethod yX4_run, Cond.selects RX4 yX4_run yX4_run, Cond.code yX4_run cX4_run 4 (some .int), Cond.methodLink RX4 80 yX4_runHour, Cond.instanceMethod yX4_runHour, Cond.selects RX4 yX4_runHour yX4_runHour, Cond.code yX4_runHour cX4_runHour 1 none, Cond.methodLink RX4 58 Lib.Math.min.name, Cond.static Lib.Math.min.name, Cond.initialized "java/lang/Math", Cond.code Lib.Math.min.name Lib.Math.min.code 2 (some .int), Cond.methodLink RX4 83 yX4_goes, Cond.instanceMethod yX4_goes, Cond.selects RX4 yX4_goes yX4_goes, Cond.code yX4_goes cX4_goes 1 (some .boolean), Cond.methodLink RX4 67 yX4_swingIn, Cond.instanceMethod yX4_swingIn, Cond.selects RX4 yX4_swingIn yX4_swingIn, Cond.code yX4_swingIn cX4_swingIn 3 (some .int), Cond.methodLink RX4 64 Lib.Math.max.name, Cond.static Lib.Math.max.name]
def wsX5_wornNumber_r3 : List Cond := [Cond.code Lib.Math.max.name Lib.Math.max.code 2 (some .int), Cond.methodLink RX4 87 yX4_rateIn, Cond.instanceMethod yX4_rateIn, Cond.selects RX4 yX4_rateIn yX4_rateIn, Cond.code yX4_rateIn cX4_rateIn 4 (some .int), Cond.methodLink RX4 71 yX4_weightOf, Cond.instanceMethod yX4_weightOf, Cond.selects RX4 yX4_weightOf yX4_weightOf, Cond.code yX4_weightOf cX4_weightOf 2 (some .int), Cond.static yX5_isPose, Cond.initialized RX5, Cond.code yX5_isPose cX5_isPose 1 (some .boolean), Cond.methodLink RX4 74 yJ9_floorDiv_7cf53, Cond.static yJ9_floorDiv_7cf53, Cond.initialized RJ9, Cond.code yJ9_floorDiv_7cf53 cJ9_floorDiv_7cf53 3 (some .int)]
def wsX5_wornNumber : List Cond := .code yX5_wornNumber cX5_wornNumber 6 (some .int) :: ((wsX5_wornNumber_r1 ++ (wsX5_wornNumber_r2 ++ wsX5_wornNumber_r3)) ++ wsX50 ++ wsX30 ++ wsX40)
def wsX5_ifWorn_r1 : List Cond := [Cond.methodLink RX5 63 yX5_demandPose, Cond.static yX5_demandPose, Cond.initialized RX5, Cond.code yX5_demandPose cX5_demandPose 1 none, Cond.classLink RX5 123 "java/lang/IndexOutOfBoundsException", Cond.initialized "java/lang/IndexOutOfBoundsException", Cond.methodLink RX5 244 yX5_isPose, Cond.static yX5_isPose, Cond.code yX5_isPose cX5_isPose 1 (some .boolean), Cond.methodLink RX5 44 yX5_demandRange, Cond.static yX5_demandRange, Cond.code yX5_demandRange cX5_demandRange 3 none, Cond.classLink RX5 152 "java/lang/IllegalArgumentException", Cond.initialized "java/lang/IllegalArgumentException", Cond.methodLink RX5 197 yX5_wornNumber, Cond.instanceMethod yX5_wornNumber, Cond.selects RX5 yX5_wornNumber yX5_wornNumber, Cond.code yX5_wornNumber cX5_wornNumber 6 (some .int), Cond.fieldLink RX5 36 "WatchPoses" "trial" "LWatchPoses$Watch;", Cond.fieldLink RX5 10 "WatchPoses" "now" "LWatchPoses$State;", Cond.fieldLink RX5 52 "WatchPoses$State" "watch" "LWatchPoses$Watch;", Cond.fieldLink RX5 92 "WatchPoses$Watch" "lies" "I", Cond.fieldLink RX5 211 "WatchPoses$Watch" "error" "I", Cond.constant RX5 298 (100000)]
def wsX5_ifWorn_r2 : List Cond := [Cond.methodLink RX5 208 yX4_copyFrom, Cond.instanceMethod yX4_copyFrom, Cond.selects RX4 yX4_copyFrom yX4_copyFrom, Cond.initialized RX4, Cond.code yX4_copyFrom cX4_copyFrom 2 none, Cond.fieldLink RX4 20 "WatchPoses$Watch" "weights" "[I", Cond.methodLink RX4 90 arraycopyName, Cond.native arraycopyName, Cond.static arraycopyName, Cond.initialized "java/lang/System", Cond.fieldLink RX4 23 "WatchPoses$Watch" "regulator" "I", Cond.fieldLink RX4 27 "WatchPoses$Watch" "stud" "I", Cond.fieldLink RX4 30 "WatchPoses$Watch" "hoursLeft" "I", Cond.fieldLink RX4 33 "WatchPoses$Watch" "magnetism" "I", Cond.fieldLink RX4 36 "WatchPoses$Watch" "dirt" "I", Cond.fieldLink RX4 39 "WatchPoses$Watch" "lies" "I", Cond.fieldLink RX4 42 "WatchPoses$Watch" "hour" "I", Cond.fieldLink RX4 45 "WatchPoses$Watch" "error" "I", Cond.fieldLink RX4 48 "WatchPoses$Watch" "stood" "I", Cond.fieldLink RX4 51 "WatchPoses$Watch" "went" "I", Cond.methodLink RX5 95 yX4_run, Cond.instanceMethod yX4_run, Cond.selects RX4 yX4_run yX4_run, Cond.code yX4_run cX4_run 4 (some .int)]
def wsX5_ifWorn_r3 : List Cond := [Cond.methodLink RX4 80 yX4_runHour, Cond.instanceMethod yX4_runHour, Cond.selects RX4 yX4_runHour yX4_runHour, Cond.code yX4_runHour cX4_runHour 1 none, Cond.methodLink RX4 58 Lib.Math.min.name, Cond.static Lib.Math.min.name, Cond.initialized "java/lang/Math", Cond.code Lib.Math.min.name Lib.Math.min.code 2 (some .int), Cond.methodLink RX4 83 yX4_goes, Cond.instanceMethod yX4_goes, Cond.selects RX4 yX4_goes yX4_goes, Cond.code yX4_goes cX4_goes 1 (some .boolean), Cond.methodLink RX4 67 yX4_swingIn, Cond.instanceMethod yX4_swingIn, Cond.selects RX4 yX4_swingIn yX4_swingIn, Cond.code yX4_swingIn cX4_swingIn 3 (some .int), Cond.methodLink RX4 64 Lib.Math.max.name, Cond.static Lib.Math.max.name, Cond.code Lib.Math.max.name Lib.Math.max.code 2 (some .int), Cond.methodLink RX4 87 yX4_rateIn, Cond.instanceMethod yX4_rateIn, Cond.selects RX4 yX4_rateIn yX4_rateIn, Cond.code yX4_rateIn cX4_rateIn 4 (some .int), Cond.methodLink RX4 71 yX4_weightOf]
def wsX5_ifWorn_r4 : List Cond := [Cond.instanceMethod yX4_weightOf, Cond.selects RX4 yX4_weightOf yX4_weightOf, Cond.code yX4_weightOf cX4_weightOf 2 (some .int), Cond.methodLink RX4 74 yJ9_floorDiv_7cf53, Cond.static yJ9_floorDiv_7cf53, Cond.initialized RJ9, Cond.code yJ9_floorDiv_7cf53 cJ9_floorDiv_7cf53 3 (some .int)]
def wsX5_ifWorn : List Cond := .code yX5_ifWorn cX5_ifWorn 5 (some .int) :: ((wsX5_ifWorn_r1 ++ (wsX5_ifWorn_r2 ++ (wsX5_ifWorn_r3 ++ wsX5_ifWorn_r4))) ++ wsX50 ++ wsX30 ++ wsX40 ++ (vx_atS RX5 127 "java/lang/IndexOutOfBoundsException" ["java/lang/RuntimeException", "java/lang/Exception"]).filter goodWord ++ (vx_atS RX5 156 "java/lang/IllegalArgumentException" ["java/lang/RuntimeException", "java/lang/Exception"]).filter goodWord)
def wsX5_bestRegulator_r1 : List Cond := [Cond.fieldLink RX5 10 "WatchPoses" "now" "LWatchPoses$State;", Cond.fieldLink RX5 52 "WatchPoses$State" "watch" "LWatchPoses$Watch;", Cond.fieldLink RX5 74 "WatchPoses$Watch" "regulator" "I", Cond.methodLink RX5 201 Lib.Math.abs.name, Cond.static Lib.Math.abs.name, Cond.initialized "java/lang/Math", Cond.code Lib.Math.abs.name Lib.Math.abs.code 1 (some .int), Cond.methodLink RX5 111 yX4_rateIn, Cond.instanceMethod yX4_rateIn, Cond.selects RX4 yX4_rateIn yX4_rateIn, Cond.initialized RX4, Cond.code yX4_rateIn cX4_rateIn 4 (some .int), Cond.fieldLink RX4 23 "WatchPoses$Watch" "regulator" "I", Cond.fieldLink RX4 33 "WatchPoses$Watch" "magnetism" "I", Cond.methodLink RX4 67 yX4_swingIn, Cond.instanceMethod yX4_swingIn, Cond.selects RX4 yX4_swingIn yX4_swingIn, Cond.code yX4_swingIn cX4_swingIn 3 (some .int), Cond.fieldLink RX4 30 "WatchPoses$Watch" "hoursLeft" "I", Cond.fieldLink RX4 36 "WatchPoses$Watch" "dirt" "I", Cond.methodLink RX4 64 Lib.Math.max.name, Cond.static Lib.Math.max.name, Cond.code Lib.Math.max.name Lib.Math.max.code 2 (some .int), Cond.methodLink RX4 71 yX4_weightOf]
def wsX5_bestRegulator_r2 : List Cond := [Cond.instanceMethod yX4_weightOf, Cond.selects RX4 yX4_weightOf yX4_weightOf, Cond.code yX4_weightOf cX4_weightOf 2 (some .int), Cond.fieldLink RX4 20 "WatchPoses$Watch" "weights" "[I", Cond.static yX5_isPose, Cond.initialized RX5, Cond.code yX5_isPose cX5_isPose 1 (some .boolean), Cond.methodLink RX4 74 yJ9_floorDiv_7cf53, Cond.static yJ9_floorDiv_7cf53, Cond.initialized RJ9, Cond.code yJ9_floorDiv_7cf53 cJ9_floorDiv_7cf53 3 (some .int)]
def wsX5_bestRegulator : List Cond := .code yX5_bestRegulator cX5_bestRegulator 4 (some .int) :: ((wsX5_bestRegulator_r1 ++ wsX5_bestRegulator_r2) ++ wsX50 ++ wsX30 ++ wsX40)
def wsX5_hoursUntilStop_r1 : List Cond := [Cond.fieldLink RX5 36 "WatchPoses" "trial" "LWatchPoses$Watch;", Cond.fieldLink RX5 10 "WatchPoses" "now" "LWatchPoses$State;", Cond.fieldLink RX5 52 "WatchPoses$State" "watch" "LWatchPoses$Watch;", Cond.fieldLink RX5 92 "WatchPoses$Watch" "lies" "I", Cond.methodLink RX5 208 yX4_copyFrom, Cond.instanceMethod yX4_copyFrom, Cond.selects RX4 yX4_copyFrom yX4_copyFrom, Cond.initialized RX4, Cond.code yX4_copyFrom cX4_copyFrom 2 none, Cond.fieldLink RX4 20 "WatchPoses$Watch" "weights" "[I", Cond.methodLink RX4 90 arraycopyName, Cond.native arraycopyName, Cond.static arraycopyName, Cond.initialized "java/lang/System", Cond.fieldLink RX4 23 "WatchPoses$Watch" "regulator" "I", Cond.fieldLink RX4 27 "WatchPoses$Watch" "stud" "I", Cond.fieldLink RX4 30 "WatchPoses$Watch" "hoursLeft" "I", Cond.fieldLink RX4 33 "WatchPoses$Watch" "magnetism" "I", Cond.fieldLink RX4 36 "WatchPoses$Watch" "dirt" "I", Cond.fieldLink RX4 39 "WatchPoses$Watch" "lies" "I", Cond.fieldLink RX4 42 "WatchPoses$Watch" "hour" "I", Cond.fieldLink RX4 45 "WatchPoses$Watch" "error" "I", Cond.fieldLink RX4 48 "WatchPoses$Watch" "stood" "I", Cond.fieldLink RX4 51 "WatchPoses$Watch" "went" "I"]
def wsX5_hoursUntilStop_r2 : List Cond := [Cond.methodLink RX5 95 yX4_run, Cond.instanceMethod yX4_run, Cond.selects RX4 yX4_run yX4_run, Cond.code yX4_run cX4_run 4 (some .int), Cond.methodLink RX4 80 yX4_runHour, Cond.instanceMethod yX4_runHour, Cond.selects RX4 yX4_runHour yX4_runHour, Cond.code yX4_runHour cX4_runHour 1 none, Cond.methodLink RX4 58 Lib.Math.min.name, Cond.static Lib.Math.min.name, Cond.initialized "java/lang/Math", Cond.code Lib.Math.min.name Lib.Math.min.code 2 (some .int), Cond.methodLink RX4 83 yX4_goes, Cond.instanceMethod yX4_goes, Cond.selects RX4 yX4_goes yX4_goes, Cond.code yX4_goes cX4_goes 1 (some .boolean), Cond.methodLink RX4 67 yX4_swingIn, Cond.instanceMethod yX4_swingIn, Cond.selects RX4 yX4_swingIn yX4_swingIn, Cond.code yX4_swingIn cX4_swingIn 3 (some .int), Cond.methodLink RX4 64 Lib.Math.max.name, Cond.static Lib.Math.max.name, Cond.code Lib.Math.max.name Lib.Math.max.code 2 (some .int), Cond.methodLink RX4 87 yX4_rateIn]
def wsX5_hoursUntilStop_r3 : List Cond := [Cond.instanceMethod yX4_rateIn, Cond.selects RX4 yX4_rateIn yX4_rateIn, Cond.code yX4_rateIn cX4_rateIn 4 (some .int), Cond.methodLink RX4 71 yX4_weightOf, Cond.instanceMethod yX4_weightOf, Cond.selects RX4 yX4_weightOf yX4_weightOf, Cond.code yX4_weightOf cX4_weightOf 2 (some .int), Cond.static yX5_isPose, Cond.initialized RX5, Cond.code yX5_isPose cX5_isPose 1 (some .boolean), Cond.methodLink RX4 74 yJ9_floorDiv_7cf53, Cond.static yJ9_floorDiv_7cf53, Cond.initialized RJ9, Cond.code yJ9_floorDiv_7cf53 cJ9_floorDiv_7cf53 3 (some .int)]
def wsX5_hoursUntilStop : List Cond := .code yX5_hoursUntilStop cX5_hoursUntilStop 2 (some .int) :: ((wsX5_hoursUntilStop_r1 ++ (wsX5_hoursUntilStop_r2 ++ wsX5_hoursUntilStop_r3)) ++ wsX50 ++ wsX30 ++ wsX40)
def wsX5_stopsIn_r1 : List Cond := [Cond.methodLink RX5 63 yX5_demandPose, Cond.static yX5_demandPose, Cond.initialized RX5, Cond.code yX5_demandPose cX5_demandPose 1 none, Cond.classLink RX5 123 "java/lang/IndexOutOfBoundsException", Cond.initialized "java/lang/IndexOutOfBoundsException", Cond.methodLink RX5 244 yX5_isPose, Cond.static yX5_isPose, Cond.code yX5_isPose cX5_isPose 1 (some .boolean), Cond.methodLink RX5 204 yX5_hoursUntilStop, Cond.instanceMethod yX5_hoursUntilStop, Cond.selects RX5 yX5_hoursUntilStop yX5_hoursUntilStop, Cond.code yX5_hoursUntilStop cX5_hoursUntilStop 2 (some .int), Cond.fieldLink RX5 36 "WatchPoses" "trial" "LWatchPoses$Watch;", Cond.fieldLink RX5 10 "WatchPoses" "now" "LWatchPoses$State;", Cond.fieldLink RX5 52 "WatchPoses$State" "watch" "LWatchPoses$Watch;", Cond.fieldLink RX5 92 "WatchPoses$Watch" "lies" "I", Cond.methodLink RX5 208 yX4_copyFrom, Cond.instanceMethod yX4_copyFrom, Cond.selects RX4 yX4_copyFrom yX4_copyFrom, Cond.initialized RX4, Cond.code yX4_copyFrom cX4_copyFrom 2 none, Cond.fieldLink RX4 20 "WatchPoses$Watch" "weights" "[I", Cond.methodLink RX4 90 arraycopyName]
def wsX5_stopsIn_r2 : List Cond := [Cond.native arraycopyName, Cond.static arraycopyName, Cond.initialized "java/lang/System", Cond.fieldLink RX4 23 "WatchPoses$Watch" "regulator" "I", Cond.fieldLink RX4 27 "WatchPoses$Watch" "stud" "I", Cond.fieldLink RX4 30 "WatchPoses$Watch" "hoursLeft" "I", Cond.fieldLink RX4 33 "WatchPoses$Watch" "magnetism" "I", Cond.fieldLink RX4 36 "WatchPoses$Watch" "dirt" "I", Cond.fieldLink RX4 39 "WatchPoses$Watch" "lies" "I", Cond.fieldLink RX4 42 "WatchPoses$Watch" "hour" "I", Cond.fieldLink RX4 45 "WatchPoses$Watch" "error" "I", Cond.fieldLink RX4 48 "WatchPoses$Watch" "stood" "I", Cond.fieldLink RX4 51 "WatchPoses$Watch" "went" "I", Cond.methodLink RX5 95 yX4_run, Cond.instanceMethod yX4_run, Cond.selects RX4 yX4_run yX4_run, Cond.code yX4_run cX4_run 4 (some .int), Cond.methodLink RX4 80 yX4_runHour, Cond.instanceMethod yX4_runHour, Cond.selects RX4 yX4_runHour yX4_runHour, Cond.code yX4_runHour cX4_runHour 1 none, Cond.methodLink RX4 58 Lib.Math.min.name, Cond.static Lib.Math.min.name, Cond.initialized "java/lang/Math"]
def wsX5_stopsIn_r3 : List Cond := [Cond.code Lib.Math.min.name Lib.Math.min.code 2 (some .int), Cond.methodLink RX4 83 yX4_goes, Cond.instanceMethod yX4_goes, Cond.selects RX4 yX4_goes yX4_goes, Cond.code yX4_goes cX4_goes 1 (some .boolean), Cond.methodLink RX4 67 yX4_swingIn, Cond.instanceMethod yX4_swingIn, Cond.selects RX4 yX4_swingIn yX4_swingIn, Cond.code yX4_swingIn cX4_swingIn 3 (some .int), Cond.methodLink RX4 64 Lib.Math.max.name, Cond.static Lib.Math.max.name, Cond.code Lib.Math.max.name Lib.Math.max.code 2 (some .int), Cond.methodLink RX4 87 yX4_rateIn, Cond.instanceMethod yX4_rateIn, Cond.selects RX4 yX4_rateIn yX4_rateIn, Cond.code yX4_rateIn cX4_rateIn 4 (some .int), Cond.methodLink RX4 71 yX4_weightOf, Cond.instanceMethod yX4_weightOf, Cond.selects RX4 yX4_weightOf yX4_weightOf, Cond.code yX4_weightOf cX4_weightOf 2 (some .int), Cond.methodLink RX4 74 yJ9_floorDiv_7cf53, Cond.static yJ9_floorDiv_7cf53, Cond.initialized RJ9, Cond.code yJ9_floorDiv_7cf53 cJ9_floorDiv_7cf53 3 (some .int)]
def wsX5_stopsIn : List Cond := .code yX5_stopsIn cX5_stopsIn 2 (some .int) :: ((wsX5_stopsIn_r1 ++ (wsX5_stopsIn_r2 ++ wsX5_stopsIn_r3)) ++ wsX50 ++ wsX30 ++ wsX40 ++ (vx_atS RX5 127 "java/lang/IndexOutOfBoundsException" ["java/lang/RuntimeException", "java/lang/Exception"]).filter goodWord)
def wsX5_nightPose_r1 : List Cond := [Cond.constant RX5 207 (2000000000), Cond.fieldLink RX5 36 "WatchPoses" "trial" "LWatchPoses$Watch;", Cond.fieldLink RX5 10 "WatchPoses" "now" "LWatchPoses$State;", Cond.fieldLink RX5 52 "WatchPoses$State" "watch" "LWatchPoses$Watch;", Cond.fieldLink RX5 92 "WatchPoses$Watch" "lies" "I", Cond.fieldLink RX5 211 "WatchPoses$Watch" "error" "I", Cond.methodLink RX5 201 Lib.Math.abs.name, Cond.static Lib.Math.abs.name, Cond.initialized "java/lang/Math", Cond.code Lib.Math.abs.name Lib.Math.abs.code 1 (some .int), Cond.methodLink RX5 208 yX4_copyFrom, Cond.instanceMethod yX4_copyFrom, Cond.selects RX4 yX4_copyFrom yX4_copyFrom, Cond.initialized RX4, Cond.code yX4_copyFrom cX4_copyFrom 2 none, Cond.fieldLink RX4 20 "WatchPoses$Watch" "weights" "[I", Cond.methodLink RX4 90 arraycopyName, Cond.native arraycopyName, Cond.static arraycopyName, Cond.initialized "java/lang/System", Cond.fieldLink RX4 23 "WatchPoses$Watch" "regulator" "I", Cond.fieldLink RX4 27 "WatchPoses$Watch" "stud" "I", Cond.fieldLink RX4 30 "WatchPoses$Watch" "hoursLeft" "I", Cond.fieldLink RX4 33 "WatchPoses$Watch" "magnetism" "I"]
def wsX5_nightPose_r2 : List Cond := [Cond.fieldLink RX4 36 "WatchPoses$Watch" "dirt" "I", Cond.fieldLink RX4 39 "WatchPoses$Watch" "lies" "I", Cond.fieldLink RX4 42 "WatchPoses$Watch" "hour" "I", Cond.fieldLink RX4 45 "WatchPoses$Watch" "error" "I", Cond.fieldLink RX4 48 "WatchPoses$Watch" "stood" "I", Cond.fieldLink RX4 51 "WatchPoses$Watch" "went" "I", Cond.methodLink RX5 95 yX4_run, Cond.instanceMethod yX4_run, Cond.selects RX4 yX4_run yX4_run, Cond.code yX4_run cX4_run 4 (some .int), Cond.methodLink RX4 80 yX4_runHour, Cond.instanceMethod yX4_runHour, Cond.selects RX4 yX4_runHour yX4_runHour, Cond.code yX4_runHour cX4_runHour 1 none, Cond.methodLink RX4 58 Lib.Math.min.name, Cond.static Lib.Math.min.name, Cond.code Lib.Math.min.name Lib.Math.min.code 2 (some .int), Cond.methodLink RX4 83 yX4_goes, Cond.instanceMethod yX4_goes, Cond.selects RX4 yX4_goes yX4_goes, Cond.code yX4_goes cX4_goes 1 (some .boolean), Cond.methodLink RX4 67 yX4_swingIn, Cond.instanceMethod yX4_swingIn, Cond.selects RX4 yX4_swingIn yX4_swingIn]
def wsX5_nightPose_r3 : List Cond := [Cond.code yX4_swingIn cX4_swingIn 3 (some .int), Cond.methodLink RX4 64 Lib.Math.max.name, Cond.static Lib.Math.max.name, Cond.code Lib.Math.max.name Lib.Math.max.code 2 (some .int), Cond.methodLink RX4 87 yX4_rateIn, Cond.instanceMethod yX4_rateIn, Cond.selects RX4 yX4_rateIn yX4_rateIn, Cond.code yX4_rateIn cX4_rateIn 4 (some .int), Cond.methodLink RX4 71 yX4_weightOf, Cond.instanceMethod yX4_weightOf, Cond.selects RX4 yX4_weightOf yX4_weightOf, Cond.code yX4_weightOf cX4_weightOf 2 (some .int), Cond.static yX5_isPose, Cond.initialized RX5, Cond.code yX5_isPose cX5_isPose 1 (some .boolean), Cond.methodLink RX4 74 yJ9_floorDiv_7cf53, Cond.static yJ9_floorDiv_7cf53, Cond.initialized RJ9, Cond.code yJ9_floorDiv_7cf53 cJ9_floorDiv_7cf53 3 (some .int)]
def wsX5_nightPose : List Cond := .code yX5_nightPose cX5_nightPose 4 (some .int) :: ((wsX5_nightPose_r1 ++ (wsX5_nightPose_r2 ++ wsX5_nightPose_r3)) ++ wsX50 ++ wsX30 ++ wsX40)
def wsX5_going : List Cond := .code yX5_going cX5_going 2 (some .double) :: ([.fieldLink RX5 10 "WatchPoses" "now" "LWatchPoses$State;", .fieldLink RX5 52 "WatchPoses$State" "watch" "LWatchPoses$Watch;", .fieldLink RX5 181 "WatchPoses$Watch" "hour" "I", .fieldLink RX5 214 "WatchPoses$Watch" "went" "I"] ++ wsX50 ++ wsX30 ++ wsX40)
def wsJ9_abs_0f7a4 : List Cond := .code yJ9_abs_0f7a4 cJ9_abs_0f7a4 1 (some .int) :: ([])
def wsJ9_max_7cf53 : List Cond := .code yJ9_max_7cf53 cJ9_max_7cf53 2 (some .int) :: ([])
def wsJ9_min_7cf53 : List Cond := .code yJ9_min_7cf53 cJ9_min_7cf53 2 (some .int) :: ([])
def wsL_cell : List Cond := .code yL_cell cL_cell 2 (some .int) :: ([.constant RL 7 (1013904243)])
def wsL_low : List Cond := .code yL_low cL_low 2 (some .int) :: ([.constant RL 8 (2147483647)])
def wsL_wind_r1 : List Cond := [Cond.classLink RL 15 "java/lang/IllegalArgumentException", Cond.methodLink RL 9 yX5_wind, Cond.instanceMethod yX5_wind, Cond.selects RX5 yX5_wind yX5_wind, Cond.initialized RX5, Cond.code yX5_wind cX5_wind 2 (some .int), Cond.fieldLink RX5 22 "WatchPoses" "saved" "LWatchPoses$SavedStates;", Cond.fieldLink RX5 10 "WatchPoses" "now" "LWatchPoses$State;", Cond.fieldLink RX5 52 "WatchPoses$State" "watch" "LWatchPoses$Watch;", Cond.fieldLink RX5 59 "WatchPoses$Watch" "hoursLeft" "I", Cond.methodLink RX5 44 yX5_demandRange, Cond.static yX5_demandRange, Cond.code yX5_demandRange cX5_demandRange 3 none, Cond.classLink RX5 152 "java/lang/IllegalArgumentException", Cond.initialized "java/lang/IllegalArgumentException", Cond.methodLink RX5 48 yX2_push, Cond.instanceMethod yX2_push, Cond.selects RX2 yX2_push yX2_push, Cond.initialized RX2, Cond.code yX2_push cX2_push 2 none, Cond.fieldLink RX2 11 "WatchPoses$SavedStates" "ring" "[LWatchPoses$State;", Cond.fieldLink RX2 15 "WatchPoses$SavedStates" "next" "I", Cond.fieldLink RX2 19 "WatchPoses$SavedStates" "size" "I", Cond.methodLink RX2 27 Lib.Math.min.name]
def wsL_wind_r2 : List Cond := [Cond.static Lib.Math.min.name, Cond.initialized "java/lang/Math", Cond.code Lib.Math.min.name Lib.Math.min.code 2 (some .int), Cond.methodLink RX2 23 yX3_copyFrom, Cond.instanceMethod yX3_copyFrom, Cond.selects RX3 yX3_copyFrom yX3_copyFrom, Cond.initialized RX3, Cond.code yX3_copyFrom cX3_copyFrom 2 none, Cond.fieldLink RX3 12 "WatchPoses$State" "watch" "LWatchPoses$Watch;", Cond.fieldLink RX3 21 "WatchPoses$State" "paper" "LWatchPoses$Paper;", Cond.fieldLink RX3 34 "WatchPoses$State" "settings" "[I", Cond.methodLink RX3 114 arraycopyName, Cond.native arraycopyName, Cond.static arraycopyName, Cond.initialized "java/lang/System", Cond.fieldLink RX3 37 "WatchPoses$State" "readings" "I", Cond.fieldLink RX3 41 "WatchPoses$State" "stopPart" "I", Cond.fieldLink RX3 44 "WatchPoses$State" "stopReason" "I", Cond.fieldLink RX3 47 "WatchPoses$State" "stopPose" "I", Cond.methodLink RX3 108 yX4_copyFrom, Cond.instanceMethod yX4_copyFrom, Cond.selects RX4 yX4_copyFrom yX4_copyFrom, Cond.initialized RX4, Cond.code yX4_copyFrom cX4_copyFrom 2 none]
def wsL_wind_r3 : List Cond := [Cond.fieldLink RX4 20 "WatchPoses$Watch" "weights" "[I", Cond.methodLink RX4 90 arraycopyName, Cond.fieldLink RX4 23 "WatchPoses$Watch" "regulator" "I", Cond.fieldLink RX4 27 "WatchPoses$Watch" "stud" "I", Cond.fieldLink RX4 30 "WatchPoses$Watch" "hoursLeft" "I", Cond.fieldLink RX4 33 "WatchPoses$Watch" "magnetism" "I", Cond.fieldLink RX4 36 "WatchPoses$Watch" "dirt" "I", Cond.fieldLink RX4 39 "WatchPoses$Watch" "lies" "I", Cond.fieldLink RX4 42 "WatchPoses$Watch" "hour" "I", Cond.fieldLink RX4 45 "WatchPoses$Watch" "error" "I", Cond.fieldLink RX4 48 "WatchPoses$Watch" "stood" "I", Cond.fieldLink RX4 51 "WatchPoses$Watch" "went" "I", Cond.methodLink RX3 111 yX1_copyFrom, Cond.instanceMethod yX1_copyFrom, Cond.selects RX1 yX1_copyFrom yX1_copyFrom, Cond.initialized RX1, Cond.code yX1_copyFrom cX1_copyFrom 2 none, Cond.fieldLink RX1 11 "WatchPoses$Paper" "row" "[I", Cond.methodLink RX1 45 arraycopyName, Cond.fieldLink RX1 15 "WatchPoses$Paper" "length" "I", Cond.methodLink RX5 55 yX4_tighten, Cond.instanceMethod yX4_tighten, Cond.selects RX4 yX4_tighten yX4_tighten, Cond.code yX4_tighten cX4_tighten 2 none]
def wsL_wind_r4 : List Cond := [Cond.methodLink RX4 58 Lib.Math.min.name]
def wsL_wind : List Cond := .codeWith yL_wind cL_wind 4 (some .int) [(0, 6, 9, 15)] :: ((wsL_wind_r1 ++ (wsL_wind_r2 ++ (wsL_wind_r3 ++ wsL_wind_r4))) ++ wsX50 ++ wsX30 ++ wsX40 ++ wsX20 ++ wsX10 ++ (vx_atS RX5 156 "java/lang/IllegalArgumentException" ["java/lang/RuntimeException", "java/lang/Exception"]).filter goodWord)
def wsL_weigh_r1 : List Cond := [Cond.classLink RL 21 "java/lang/IndexOutOfBoundsException", Cond.classLink RL 15 "java/lang/IllegalArgumentException", Cond.methodLink RL 17 yX5_weigh, Cond.instanceMethod yX5_weigh, Cond.selects RX5 yX5_weigh yX5_weigh, Cond.initialized RX5, Cond.code yX5_weigh cX5_weigh 4 (some .int), Cond.fieldLink RX5 22 "WatchPoses" "saved" "LWatchPoses$SavedStates;", Cond.fieldLink RX5 10 "WatchPoses" "now" "LWatchPoses$State;", Cond.fieldLink RX5 52 "WatchPoses$State" "watch" "LWatchPoses$Watch;", Cond.methodLink RX5 63 yX5_demandPose, Cond.static yX5_demandPose, Cond.code yX5_demandPose cX5_demandPose 1 none, Cond.classLink RX5 123 "java/lang/IndexOutOfBoundsException", Cond.initialized "java/lang/IndexOutOfBoundsException", Cond.methodLink RX5 244 yX5_isPose, Cond.static yX5_isPose, Cond.code yX5_isPose cX5_isPose 1 (some .boolean), Cond.methodLink RX5 44 yX5_demandRange, Cond.static yX5_demandRange, Cond.code yX5_demandRange cX5_demandRange 3 none, Cond.classLink RX5 152 "java/lang/IllegalArgumentException", Cond.initialized "java/lang/IllegalArgumentException", Cond.methodLink RX5 48 yX2_push]
def wsL_weigh_r2 : List Cond := [Cond.instanceMethod yX2_push, Cond.selects RX2 yX2_push yX2_push, Cond.initialized RX2, Cond.code yX2_push cX2_push 2 none, Cond.fieldLink RX2 11 "WatchPoses$SavedStates" "ring" "[LWatchPoses$State;", Cond.fieldLink RX2 15 "WatchPoses$SavedStates" "next" "I", Cond.fieldLink RX2 19 "WatchPoses$SavedStates" "size" "I", Cond.methodLink RX2 27 Lib.Math.min.name, Cond.static Lib.Math.min.name, Cond.initialized "java/lang/Math", Cond.code Lib.Math.min.name Lib.Math.min.code 2 (some .int), Cond.methodLink RX2 23 yX3_copyFrom, Cond.instanceMethod yX3_copyFrom, Cond.selects RX3 yX3_copyFrom yX3_copyFrom, Cond.initialized RX3, Cond.code yX3_copyFrom cX3_copyFrom 2 none, Cond.fieldLink RX3 12 "WatchPoses$State" "watch" "LWatchPoses$Watch;", Cond.fieldLink RX3 21 "WatchPoses$State" "paper" "LWatchPoses$Paper;", Cond.fieldLink RX3 34 "WatchPoses$State" "settings" "[I", Cond.methodLink RX3 114 arraycopyName, Cond.native arraycopyName, Cond.static arraycopyName, Cond.initialized "java/lang/System", Cond.fieldLink RX3 37 "WatchPoses$State" "readings" "I"]
def wsL_weigh_r3 : List Cond := [Cond.fieldLink RX3 41 "WatchPoses$State" "stopPart" "I", Cond.fieldLink RX3 44 "WatchPoses$State" "stopReason" "I", Cond.fieldLink RX3 47 "WatchPoses$State" "stopPose" "I", Cond.methodLink RX3 108 yX4_copyFrom, Cond.instanceMethod yX4_copyFrom, Cond.selects RX4 yX4_copyFrom yX4_copyFrom, Cond.initialized RX4, Cond.code yX4_copyFrom cX4_copyFrom 2 none, Cond.fieldLink RX4 20 "WatchPoses$Watch" "weights" "[I", Cond.methodLink RX4 90 arraycopyName, Cond.fieldLink RX4 23 "WatchPoses$Watch" "regulator" "I", Cond.fieldLink RX4 27 "WatchPoses$Watch" "stud" "I", Cond.fieldLink RX4 30 "WatchPoses$Watch" "hoursLeft" "I", Cond.fieldLink RX4 33 "WatchPoses$Watch" "magnetism" "I", Cond.fieldLink RX4 36 "WatchPoses$Watch" "dirt" "I", Cond.fieldLink RX4 39 "WatchPoses$Watch" "lies" "I", Cond.fieldLink RX4 42 "WatchPoses$Watch" "hour" "I", Cond.fieldLink RX4 45 "WatchPoses$Watch" "error" "I", Cond.fieldLink RX4 48 "WatchPoses$Watch" "stood" "I", Cond.fieldLink RX4 51 "WatchPoses$Watch" "went" "I", Cond.methodLink RX3 111 yX1_copyFrom, Cond.instanceMethod yX1_copyFrom, Cond.selects RX1 yX1_copyFrom yX1_copyFrom, Cond.initialized RX1]
def wsL_weigh_r4 : List Cond := [Cond.code yX1_copyFrom cX1_copyFrom 2 none, Cond.fieldLink RX1 11 "WatchPoses$Paper" "row" "[I", Cond.methodLink RX1 45 arraycopyName, Cond.fieldLink RX1 15 "WatchPoses$Paper" "length" "I", Cond.methodLink RX5 66 yX4_weightOf, Cond.instanceMethod yX4_weightOf, Cond.selects RX4 yX4_weightOf yX4_weightOf, Cond.code yX4_weightOf cX4_weightOf 2 (some .int), Cond.methodLink RX5 70 yX4_putWeight, Cond.instanceMethod yX4_putWeight, Cond.selects RX4 yX4_putWeight yX4_putWeight, Cond.code yX4_putWeight cX4_putWeight 3 none]
def wsL_weigh : List Cond := .codeWith yL_weigh cL_weigh 5 (some .int) [(0, 7, 10, 21), (0, 7, 15, 15)] :: ((wsL_weigh_r1 ++ (wsL_weigh_r2 ++ (wsL_weigh_r3 ++ wsL_weigh_r4))) ++ wsX50 ++ wsX30 ++ wsX20 ++ wsX40 ++ wsX10 ++ (vx_atS RX5 127 "java/lang/IndexOutOfBoundsException" ["java/lang/RuntimeException", "java/lang/Exception"]).filter goodWord ++ (vx_atS RX5 156 "java/lang/IllegalArgumentException" ["java/lang/RuntimeException", "java/lang/Exception"]).filter goodWord)
def wsL_adjust_r1 : List Cond := [Cond.classLink RL 15 "java/lang/IllegalArgumentException", Cond.methodLink RL 23 yX5_adjust, Cond.instanceMethod yX5_adjust, Cond.selects RX5 yX5_adjust yX5_adjust, Cond.initialized RX5, Cond.code yX5_adjust cX5_adjust 4 (some .int), Cond.fieldLink RX5 22 "WatchPoses" "saved" "LWatchPoses$SavedStates;", Cond.fieldLink RX5 10 "WatchPoses" "now" "LWatchPoses$State;", Cond.fieldLink RX5 52 "WatchPoses$State" "watch" "LWatchPoses$Watch;", Cond.fieldLink RX5 74 "WatchPoses$Watch" "regulator" "I", Cond.fieldLink RX5 77 "WatchPoses$Watch" "stud" "I", Cond.methodLink RX5 44 yX5_demandRange, Cond.static yX5_demandRange, Cond.code yX5_demandRange cX5_demandRange 3 none, Cond.classLink RX5 152 "java/lang/IllegalArgumentException", Cond.initialized "java/lang/IllegalArgumentException", Cond.methodLink RX5 48 yX2_push, Cond.instanceMethod yX2_push, Cond.selects RX2 yX2_push yX2_push, Cond.initialized RX2, Cond.code yX2_push cX2_push 2 none, Cond.fieldLink RX2 11 "WatchPoses$SavedStates" "ring" "[LWatchPoses$State;", Cond.fieldLink RX2 15 "WatchPoses$SavedStates" "next" "I", Cond.fieldLink RX2 19 "WatchPoses$SavedStates" "size" "I"]
def wsL_adjust_r2 : List Cond := [Cond.methodLink RX2 27 Lib.Math.min.name, Cond.static Lib.Math.min.name, Cond.initialized "java/lang/Math", Cond.code Lib.Math.min.name Lib.Math.min.code 2 (some .int), Cond.methodLink RX2 23 yX3_copyFrom, Cond.instanceMethod yX3_copyFrom, Cond.selects RX3 yX3_copyFrom yX3_copyFrom, Cond.initialized RX3, Cond.code yX3_copyFrom cX3_copyFrom 2 none, Cond.fieldLink RX3 12 "WatchPoses$State" "watch" "LWatchPoses$Watch;", Cond.fieldLink RX3 21 "WatchPoses$State" "paper" "LWatchPoses$Paper;", Cond.fieldLink RX3 34 "WatchPoses$State" "settings" "[I", Cond.methodLink RX3 114 arraycopyName, Cond.native arraycopyName, Cond.static arraycopyName, Cond.initialized "java/lang/System", Cond.fieldLink RX3 37 "WatchPoses$State" "readings" "I", Cond.fieldLink RX3 41 "WatchPoses$State" "stopPart" "I", Cond.fieldLink RX3 44 "WatchPoses$State" "stopReason" "I", Cond.fieldLink RX3 47 "WatchPoses$State" "stopPose" "I", Cond.methodLink RX3 108 yX4_copyFrom, Cond.instanceMethod yX4_copyFrom, Cond.selects RX4 yX4_copyFrom yX4_copyFrom, Cond.initialized RX4]
def wsL_adjust_r3 : List Cond := [Cond.code yX4_copyFrom cX4_copyFrom 2 none, Cond.fieldLink RX4 20 "WatchPoses$Watch" "weights" "[I", Cond.methodLink RX4 90 arraycopyName, Cond.fieldLink RX4 23 "WatchPoses$Watch" "regulator" "I", Cond.fieldLink RX4 27 "WatchPoses$Watch" "stud" "I", Cond.fieldLink RX4 30 "WatchPoses$Watch" "hoursLeft" "I", Cond.fieldLink RX4 33 "WatchPoses$Watch" "magnetism" "I", Cond.fieldLink RX4 36 "WatchPoses$Watch" "dirt" "I", Cond.fieldLink RX4 39 "WatchPoses$Watch" "lies" "I", Cond.fieldLink RX4 42 "WatchPoses$Watch" "hour" "I", Cond.fieldLink RX4 45 "WatchPoses$Watch" "error" "I", Cond.fieldLink RX4 48 "WatchPoses$Watch" "stood" "I", Cond.fieldLink RX4 51 "WatchPoses$Watch" "went" "I", Cond.methodLink RX3 111 yX1_copyFrom, Cond.instanceMethod yX1_copyFrom, Cond.selects RX1 yX1_copyFrom yX1_copyFrom, Cond.initialized RX1, Cond.code yX1_copyFrom cX1_copyFrom 2 none, Cond.fieldLink RX1 11 "WatchPoses$Paper" "row" "[I", Cond.methodLink RX1 45 arraycopyName, Cond.fieldLink RX1 15 "WatchPoses$Paper" "length" "I"]
def wsL_adjust : List Cond := .codeWith yL_adjust cL_adjust 5 (some .int) [(0, 7, 10, 15)] :: ((wsL_adjust_r1 ++ (wsL_adjust_r2 ++ wsL_adjust_r3)) ++ wsX50 ++ wsX30 ++ wsX40 ++ wsX20 ++ wsX10 ++ (vx_atS RX5 156 "java/lang/IllegalArgumentException" ["java/lang/RuntimeException", "java/lang/Exception"]).filter goodWord)
def wsL_magnetise_r1 : List Cond := [Cond.classLink RL 15 "java/lang/IllegalArgumentException", Cond.methodLink RL 26 yX5_magnetise, Cond.instanceMethod yX5_magnetise, Cond.selects RX5 yX5_magnetise yX5_magnetise, Cond.initialized RX5, Cond.code yX5_magnetise cX5_magnetise 2 (some .int), Cond.fieldLink RX5 22 "WatchPoses" "saved" "LWatchPoses$SavedStates;", Cond.fieldLink RX5 10 "WatchPoses" "now" "LWatchPoses$State;", Cond.fieldLink RX5 52 "WatchPoses$State" "watch" "LWatchPoses$Watch;", Cond.fieldLink RX5 80 "WatchPoses$Watch" "magnetism" "I", Cond.methodLink RX5 83 Lib.Math.min.name, Cond.static Lib.Math.min.name, Cond.initialized "java/lang/Math", Cond.code Lib.Math.min.name Lib.Math.min.code 2 (some .int), Cond.methodLink RX5 44 yX5_demandRange, Cond.static yX5_demandRange, Cond.code yX5_demandRange cX5_demandRange 3 none, Cond.classLink RX5 152 "java/lang/IllegalArgumentException", Cond.initialized "java/lang/IllegalArgumentException", Cond.methodLink RX5 48 yX2_push, Cond.instanceMethod yX2_push, Cond.selects RX2 yX2_push yX2_push, Cond.initialized RX2, Cond.code yX2_push cX2_push 2 none]
def wsL_magnetise_r2 : List Cond := [Cond.fieldLink RX2 11 "WatchPoses$SavedStates" "ring" "[LWatchPoses$State;", Cond.fieldLink RX2 15 "WatchPoses$SavedStates" "next" "I", Cond.fieldLink RX2 19 "WatchPoses$SavedStates" "size" "I", Cond.methodLink RX2 27 Lib.Math.min.name, Cond.methodLink RX2 23 yX3_copyFrom, Cond.instanceMethod yX3_copyFrom, Cond.selects RX3 yX3_copyFrom yX3_copyFrom, Cond.initialized RX3, Cond.code yX3_copyFrom cX3_copyFrom 2 none, Cond.fieldLink RX3 12 "WatchPoses$State" "watch" "LWatchPoses$Watch;", Cond.fieldLink RX3 21 "WatchPoses$State" "paper" "LWatchPoses$Paper;", Cond.fieldLink RX3 34 "WatchPoses$State" "settings" "[I", Cond.methodLink RX3 114 arraycopyName, Cond.native arraycopyName, Cond.static arraycopyName, Cond.initialized "java/lang/System", Cond.fieldLink RX3 37 "WatchPoses$State" "readings" "I", Cond.fieldLink RX3 41 "WatchPoses$State" "stopPart" "I", Cond.fieldLink RX3 44 "WatchPoses$State" "stopReason" "I", Cond.fieldLink RX3 47 "WatchPoses$State" "stopPose" "I", Cond.methodLink RX3 108 yX4_copyFrom, Cond.instanceMethod yX4_copyFrom, Cond.selects RX4 yX4_copyFrom yX4_copyFrom, Cond.initialized RX4]
def wsL_magnetise_r3 : List Cond := [Cond.code yX4_copyFrom cX4_copyFrom 2 none, Cond.fieldLink RX4 20 "WatchPoses$Watch" "weights" "[I", Cond.methodLink RX4 90 arraycopyName, Cond.fieldLink RX4 23 "WatchPoses$Watch" "regulator" "I", Cond.fieldLink RX4 27 "WatchPoses$Watch" "stud" "I", Cond.fieldLink RX4 30 "WatchPoses$Watch" "hoursLeft" "I", Cond.fieldLink RX4 33 "WatchPoses$Watch" "magnetism" "I", Cond.fieldLink RX4 36 "WatchPoses$Watch" "dirt" "I", Cond.fieldLink RX4 39 "WatchPoses$Watch" "lies" "I", Cond.fieldLink RX4 42 "WatchPoses$Watch" "hour" "I", Cond.fieldLink RX4 45 "WatchPoses$Watch" "error" "I", Cond.fieldLink RX4 48 "WatchPoses$Watch" "stood" "I", Cond.fieldLink RX4 51 "WatchPoses$Watch" "went" "I", Cond.methodLink RX3 111 yX1_copyFrom, Cond.instanceMethod yX1_copyFrom, Cond.selects RX1 yX1_copyFrom yX1_copyFrom, Cond.initialized RX1, Cond.code yX1_copyFrom cX1_copyFrom 2 none, Cond.fieldLink RX1 11 "WatchPoses$Paper" "row" "[I", Cond.methodLink RX1 45 arraycopyName, Cond.fieldLink RX1 15 "WatchPoses$Paper" "length" "I"]
def wsL_magnetise : List Cond := .codeWith yL_magnetise cL_magnetise 4 (some .int) [(0, 6, 9, 15)] :: ((wsL_magnetise_r1 ++ (wsL_magnetise_r2 ++ wsL_magnetise_r3)) ++ wsX50 ++ wsX30 ++ wsX40 ++ wsX20 ++ wsX10 ++ (vx_atS RX5 156 "java/lang/IllegalArgumentException" ["java/lang/RuntimeException", "java/lang/Exception"]).filter goodWord)
def wsL_lay_r1 : List Cond := [Cond.classLink RL 21 "java/lang/IndexOutOfBoundsException", Cond.methodLink RL 29 yX5_lay, Cond.instanceMethod yX5_lay, Cond.selects RX5 yX5_lay yX5_lay, Cond.initialized RX5, Cond.code yX5_lay cX5_lay 3 (some .int), Cond.fieldLink RX5 22 "WatchPoses" "saved" "LWatchPoses$SavedStates;", Cond.fieldLink RX5 10 "WatchPoses" "now" "LWatchPoses$State;", Cond.fieldLink RX5 52 "WatchPoses$State" "watch" "LWatchPoses$Watch;", Cond.fieldLink RX5 92 "WatchPoses$Watch" "lies" "I", Cond.methodLink RX5 63 yX5_demandPose, Cond.static yX5_demandPose, Cond.code yX5_demandPose cX5_demandPose 1 none, Cond.classLink RX5 123 "java/lang/IndexOutOfBoundsException", Cond.initialized "java/lang/IndexOutOfBoundsException", Cond.methodLink RX5 244 yX5_isPose, Cond.static yX5_isPose, Cond.code yX5_isPose cX5_isPose 1 (some .boolean), Cond.methodLink RX5 48 yX2_push, Cond.instanceMethod yX2_push, Cond.selects RX2 yX2_push yX2_push, Cond.initialized RX2, Cond.code yX2_push cX2_push 2 none, Cond.fieldLink RX2 11 "WatchPoses$SavedStates" "ring" "[LWatchPoses$State;"]
def wsL_lay_r2 : List Cond := [Cond.fieldLink RX2 15 "WatchPoses$SavedStates" "next" "I", Cond.fieldLink RX2 19 "WatchPoses$SavedStates" "size" "I", Cond.methodLink RX2 27 Lib.Math.min.name, Cond.static Lib.Math.min.name, Cond.initialized "java/lang/Math", Cond.code Lib.Math.min.name Lib.Math.min.code 2 (some .int), Cond.methodLink RX2 23 yX3_copyFrom, Cond.instanceMethod yX3_copyFrom, Cond.selects RX3 yX3_copyFrom yX3_copyFrom, Cond.initialized RX3, Cond.code yX3_copyFrom cX3_copyFrom 2 none, Cond.fieldLink RX3 12 "WatchPoses$State" "watch" "LWatchPoses$Watch;", Cond.fieldLink RX3 21 "WatchPoses$State" "paper" "LWatchPoses$Paper;", Cond.fieldLink RX3 34 "WatchPoses$State" "settings" "[I", Cond.methodLink RX3 114 arraycopyName, Cond.native arraycopyName, Cond.static arraycopyName, Cond.initialized "java/lang/System", Cond.fieldLink RX3 37 "WatchPoses$State" "readings" "I", Cond.fieldLink RX3 41 "WatchPoses$State" "stopPart" "I", Cond.fieldLink RX3 44 "WatchPoses$State" "stopReason" "I", Cond.fieldLink RX3 47 "WatchPoses$State" "stopPose" "I", Cond.methodLink RX3 108 yX4_copyFrom, Cond.instanceMethod yX4_copyFrom]
def wsL_lay_r3 : List Cond := [Cond.selects RX4 yX4_copyFrom yX4_copyFrom, Cond.initialized RX4, Cond.code yX4_copyFrom cX4_copyFrom 2 none, Cond.fieldLink RX4 20 "WatchPoses$Watch" "weights" "[I", Cond.methodLink RX4 90 arraycopyName, Cond.fieldLink RX4 23 "WatchPoses$Watch" "regulator" "I", Cond.fieldLink RX4 27 "WatchPoses$Watch" "stud" "I", Cond.fieldLink RX4 30 "WatchPoses$Watch" "hoursLeft" "I", Cond.fieldLink RX4 33 "WatchPoses$Watch" "magnetism" "I", Cond.fieldLink RX4 36 "WatchPoses$Watch" "dirt" "I", Cond.fieldLink RX4 39 "WatchPoses$Watch" "lies" "I", Cond.fieldLink RX4 42 "WatchPoses$Watch" "hour" "I", Cond.fieldLink RX4 45 "WatchPoses$Watch" "error" "I", Cond.fieldLink RX4 48 "WatchPoses$Watch" "stood" "I", Cond.fieldLink RX4 51 "WatchPoses$Watch" "went" "I", Cond.methodLink RX3 111 yX1_copyFrom, Cond.instanceMethod yX1_copyFrom, Cond.selects RX1 yX1_copyFrom yX1_copyFrom, Cond.initialized RX1, Cond.code yX1_copyFrom cX1_copyFrom 2 none, Cond.fieldLink RX1 11 "WatchPoses$Paper" "row" "[I", Cond.methodLink RX1 45 arraycopyName, Cond.fieldLink RX1 15 "WatchPoses$Paper" "length" "I"]
def wsL_lay : List Cond := .codeWith yL_lay cL_lay 4 (some .int) [(0, 6, 9, 21)] :: ((wsL_lay_r1 ++ (wsL_lay_r2 ++ wsL_lay_r3)) ++ wsX50 ++ wsX30 ++ wsX40 ++ wsX20 ++ wsX10 ++ (vx_atS RX5 127 "java/lang/IndexOutOfBoundsException" ["java/lang/RuntimeException", "java/lang/Exception"]).filter goodWord)
def wsL_pass_r1 : List Cond := [Cond.classLink RL 15 "java/lang/IllegalArgumentException", Cond.methodLink RL 32 yX5_pass, Cond.instanceMethod yX5_pass, Cond.selects RX5 yX5_pass yX5_pass, Cond.initialized RX5, Cond.code yX5_pass cX5_pass 2 (some .int), Cond.fieldLink RX5 22 "WatchPoses" "saved" "LWatchPoses$SavedStates;", Cond.fieldLink RX5 10 "WatchPoses" "now" "LWatchPoses$State;", Cond.fieldLink RX5 52 "WatchPoses$State" "watch" "LWatchPoses$Watch;", Cond.methodLink RX5 44 yX5_demandRange, Cond.static yX5_demandRange, Cond.code yX5_demandRange cX5_demandRange 3 none, Cond.classLink RX5 152 "java/lang/IllegalArgumentException", Cond.initialized "java/lang/IllegalArgumentException", Cond.methodLink RX5 48 yX2_push, Cond.instanceMethod yX2_push, Cond.selects RX2 yX2_push yX2_push, Cond.initialized RX2, Cond.code yX2_push cX2_push 2 none, Cond.fieldLink RX2 11 "WatchPoses$SavedStates" "ring" "[LWatchPoses$State;", Cond.fieldLink RX2 15 "WatchPoses$SavedStates" "next" "I", Cond.fieldLink RX2 19 "WatchPoses$SavedStates" "size" "I", Cond.methodLink RX2 27 Lib.Math.min.name, Cond.static Lib.Math.min.name]
def wsL_pass_r2 : List Cond := [Cond.initialized "java/lang/Math", Cond.code Lib.Math.min.name Lib.Math.min.code 2 (some .int), Cond.methodLink RX2 23 yX3_copyFrom, Cond.instanceMethod yX3_copyFrom, Cond.selects RX3 yX3_copyFrom yX3_copyFrom, Cond.initialized RX3, Cond.code yX3_copyFrom cX3_copyFrom 2 none, Cond.fieldLink RX3 12 "WatchPoses$State" "watch" "LWatchPoses$Watch;", Cond.fieldLink RX3 21 "WatchPoses$State" "paper" "LWatchPoses$Paper;", Cond.fieldLink RX3 34 "WatchPoses$State" "settings" "[I", Cond.methodLink RX3 114 arraycopyName, Cond.native arraycopyName, Cond.static arraycopyName, Cond.initialized "java/lang/System", Cond.fieldLink RX3 37 "WatchPoses$State" "readings" "I", Cond.fieldLink RX3 41 "WatchPoses$State" "stopPart" "I", Cond.fieldLink RX3 44 "WatchPoses$State" "stopReason" "I", Cond.fieldLink RX3 47 "WatchPoses$State" "stopPose" "I", Cond.methodLink RX3 108 yX4_copyFrom, Cond.instanceMethod yX4_copyFrom, Cond.selects RX4 yX4_copyFrom yX4_copyFrom, Cond.initialized RX4, Cond.code yX4_copyFrom cX4_copyFrom 2 none, Cond.fieldLink RX4 20 "WatchPoses$Watch" "weights" "[I"]
def wsL_pass_r3 : List Cond := [Cond.methodLink RX4 90 arraycopyName, Cond.fieldLink RX4 23 "WatchPoses$Watch" "regulator" "I", Cond.fieldLink RX4 27 "WatchPoses$Watch" "stud" "I", Cond.fieldLink RX4 30 "WatchPoses$Watch" "hoursLeft" "I", Cond.fieldLink RX4 33 "WatchPoses$Watch" "magnetism" "I", Cond.fieldLink RX4 36 "WatchPoses$Watch" "dirt" "I", Cond.fieldLink RX4 39 "WatchPoses$Watch" "lies" "I", Cond.fieldLink RX4 42 "WatchPoses$Watch" "hour" "I", Cond.fieldLink RX4 45 "WatchPoses$Watch" "error" "I", Cond.fieldLink RX4 48 "WatchPoses$Watch" "stood" "I", Cond.fieldLink RX4 51 "WatchPoses$Watch" "went" "I", Cond.methodLink RX3 111 yX1_copyFrom, Cond.instanceMethod yX1_copyFrom, Cond.selects RX1 yX1_copyFrom yX1_copyFrom, Cond.initialized RX1, Cond.code yX1_copyFrom cX1_copyFrom 2 none, Cond.fieldLink RX1 11 "WatchPoses$Paper" "row" "[I", Cond.methodLink RX1 45 arraycopyName, Cond.fieldLink RX1 15 "WatchPoses$Paper" "length" "I", Cond.methodLink RX5 95 yX4_run, Cond.instanceMethod yX4_run, Cond.selects RX4 yX4_run yX4_run, Cond.code yX4_run cX4_run 4 (some .int), Cond.methodLink RX4 80 yX4_runHour]
def wsL_pass_r4 : List Cond := [Cond.instanceMethod yX4_runHour, Cond.selects RX4 yX4_runHour yX4_runHour, Cond.code yX4_runHour cX4_runHour 1 none, Cond.methodLink RX4 58 Lib.Math.min.name, Cond.methodLink RX4 83 yX4_goes, Cond.instanceMethod yX4_goes, Cond.selects RX4 yX4_goes yX4_goes, Cond.code yX4_goes cX4_goes 1 (some .boolean), Cond.methodLink RX4 67 yX4_swingIn, Cond.instanceMethod yX4_swingIn, Cond.selects RX4 yX4_swingIn yX4_swingIn, Cond.code yX4_swingIn cX4_swingIn 3 (some .int), Cond.methodLink RX4 64 Lib.Math.max.name, Cond.static Lib.Math.max.name, Cond.code Lib.Math.max.name Lib.Math.max.code 2 (some .int), Cond.methodLink RX4 87 yX4_rateIn, Cond.instanceMethod yX4_rateIn, Cond.selects RX4 yX4_rateIn yX4_rateIn, Cond.code yX4_rateIn cX4_rateIn 4 (some .int), Cond.methodLink RX4 71 yX4_weightOf, Cond.instanceMethod yX4_weightOf, Cond.selects RX4 yX4_weightOf yX4_weightOf, Cond.code yX4_weightOf cX4_weightOf 2 (some .int), Cond.static yX5_isPose]
def wsL_pass_r5 : List Cond := [Cond.code yX5_isPose cX5_isPose 1 (some .boolean), Cond.methodLink RX4 74 yJ9_floorDiv_7cf53, Cond.static yJ9_floorDiv_7cf53, Cond.initialized RJ9, Cond.code yJ9_floorDiv_7cf53 cJ9_floorDiv_7cf53 3 (some .int)]
def wsL_pass : List Cond := .codeWith yL_pass cL_pass 4 (some .int) [(0, 6, 9, 15)] :: ((wsL_pass_r1 ++ (wsL_pass_r2 ++ (wsL_pass_r3 ++ (wsL_pass_r4 ++ wsL_pass_r5)))) ++ wsX50 ++ wsX30 ++ wsX20 ++ wsX40 ++ wsX10 ++ (vx_atS RX5 156 "java/lang/IllegalArgumentException" ["java/lang/RuntimeException", "java/lang/Exception"]).filter goodWord)
def wsL_read_r1 : List Cond := [Cond.classLink RL 21 "java/lang/IndexOutOfBoundsException", Cond.classLink RL 38 "java/lang/IllegalStateException", Cond.methodLink RL 35 yX5_read, Cond.instanceMethod yX5_read, Cond.selects RX5 yX5_read yX5_read, Cond.initialized RX5, Cond.code yX5_read cX5_read 2 (some .int), Cond.classLink RX5 101 "java/lang/IllegalStateException", Cond.initialized "java/lang/IllegalStateException", Cond.fieldLink RX5 10 "WatchPoses" "now" "LWatchPoses$State;", Cond.fieldLink RX5 22 "WatchPoses" "saved" "LWatchPoses$SavedStates;", Cond.fieldLink RX5 52 "WatchPoses$State" "watch" "LWatchPoses$Watch;", Cond.methodLink RX5 63 yX5_demandPose, Cond.static yX5_demandPose, Cond.code yX5_demandPose cX5_demandPose 1 none, Cond.classLink RX5 123 "java/lang/IndexOutOfBoundsException", Cond.initialized "java/lang/IndexOutOfBoundsException", Cond.methodLink RX5 244 yX5_isPose, Cond.static yX5_isPose, Cond.code yX5_isPose cX5_isPose 1 (some .boolean), Cond.methodLink RX5 98 yX3_whyNoReading, Cond.instanceMethod yX3_whyNoReading, Cond.selects RX3 yX3_whyNoReading yX3_whyNoReading, Cond.initialized RX3]
def wsL_read_r2 : List Cond := [Cond.code yX3_whyNoReading cX3_whyNoReading 2 (some .int), Cond.fieldLink RX3 12 "WatchPoses$State" "watch" "LWatchPoses$Watch;", Cond.fieldLink RX3 50 "WatchPoses$Watch" "hoursLeft" "I", Cond.fieldLink RX3 34 "WatchPoses$State" "settings" "[I", Cond.fieldLink RX3 60 "WatchPoses$Watch" "magnetism" "I", Cond.fieldLink RX3 21 "WatchPoses$State" "paper" "LWatchPoses$Paper;", Cond.methodLink RX3 53 yX4_swingIn, Cond.instanceMethod yX4_swingIn, Cond.selects RX4 yX4_swingIn yX4_swingIn, Cond.initialized RX4, Cond.code yX4_swingIn cX4_swingIn 3 (some .int), Cond.fieldLink RX4 30 "WatchPoses$Watch" "hoursLeft" "I", Cond.fieldLink RX4 36 "WatchPoses$Watch" "dirt" "I", Cond.methodLink RX4 64 Lib.Math.max.name, Cond.static Lib.Math.max.name, Cond.initialized "java/lang/Math", Cond.code Lib.Math.max.name Lib.Math.max.code 2 (some .int), Cond.methodLink RX3 57 yX4_beatErrorIn, Cond.instanceMethod yX4_beatErrorIn, Cond.selects RX4 yX4_beatErrorIn yX4_beatErrorIn, Cond.code yX4_beatErrorIn cX4_beatErrorIn 3 (some .int), Cond.fieldLink RX4 27 "WatchPoses$Watch" "stud" "I", Cond.methodLink RX4 77 Lib.Math.abs.name, Cond.static Lib.Math.abs.name]
def wsL_read_r3 : List Cond := [Cond.code Lib.Math.abs.name Lib.Math.abs.code 1 (some .int), Cond.methodLink RX3 63 yX1_isFull, Cond.instanceMethod yX1_isFull, Cond.selects RX1 yX1_isFull yX1_isFull, Cond.initialized RX1, Cond.code yX1_isFull cX1_isFull 1 (some .boolean), Cond.fieldLink RX1 15 "WatchPoses$Paper" "length" "I", Cond.methodLink RX5 48 yX2_push, Cond.instanceMethod yX2_push, Cond.selects RX2 yX2_push yX2_push, Cond.initialized RX2, Cond.code yX2_push cX2_push 2 none, Cond.fieldLink RX2 11 "WatchPoses$SavedStates" "ring" "[LWatchPoses$State;", Cond.fieldLink RX2 15 "WatchPoses$SavedStates" "next" "I", Cond.fieldLink RX2 19 "WatchPoses$SavedStates" "size" "I", Cond.methodLink RX2 27 Lib.Math.min.name, Cond.static Lib.Math.min.name, Cond.code Lib.Math.min.name Lib.Math.min.code 2 (some .int), Cond.methodLink RX2 23 yX3_copyFrom, Cond.instanceMethod yX3_copyFrom, Cond.selects RX3 yX3_copyFrom yX3_copyFrom, Cond.code yX3_copyFrom cX3_copyFrom 2 none, Cond.methodLink RX3 114 arraycopyName, Cond.native arraycopyName]
def wsL_read_r4 : List Cond := [Cond.static arraycopyName, Cond.initialized "java/lang/System", Cond.fieldLink RX3 37 "WatchPoses$State" "readings" "I", Cond.fieldLink RX3 41 "WatchPoses$State" "stopPart" "I", Cond.fieldLink RX3 44 "WatchPoses$State" "stopReason" "I", Cond.fieldLink RX3 47 "WatchPoses$State" "stopPose" "I", Cond.methodLink RX3 108 yX4_copyFrom, Cond.instanceMethod yX4_copyFrom, Cond.selects RX4 yX4_copyFrom yX4_copyFrom, Cond.code yX4_copyFrom cX4_copyFrom 2 none, Cond.fieldLink RX4 20 "WatchPoses$Watch" "weights" "[I", Cond.methodLink RX4 90 arraycopyName, Cond.fieldLink RX4 23 "WatchPoses$Watch" "regulator" "I", Cond.fieldLink RX4 33 "WatchPoses$Watch" "magnetism" "I", Cond.fieldLink RX4 39 "WatchPoses$Watch" "lies" "I", Cond.fieldLink RX4 42 "WatchPoses$Watch" "hour" "I", Cond.fieldLink RX4 45 "WatchPoses$Watch" "error" "I", Cond.fieldLink RX4 48 "WatchPoses$Watch" "stood" "I", Cond.fieldLink RX4 51 "WatchPoses$Watch" "went" "I", Cond.methodLink RX3 111 yX1_copyFrom, Cond.instanceMethod yX1_copyFrom, Cond.selects RX1 yX1_copyFrom yX1_copyFrom, Cond.code yX1_copyFrom cX1_copyFrom 2 none, Cond.fieldLink RX1 11 "WatchPoses$Paper" "row" "[I"]
def wsL_read_r5 : List Cond := [Cond.methodLink RX1 45 arraycopyName, Cond.methodLink RX5 108 yX3_makeReading, Cond.instanceMethod yX3_makeReading, Cond.selects RX3 yX3_makeReading yX3_makeReading, Cond.code yX3_makeReading cX3_makeReading 2 none, Cond.fieldLink RX3 67 "WatchPoses$Watch" "lies" "I", Cond.methodLink RX3 70 yX1_print, Cond.instanceMethod yX1_print, Cond.selects RX1 yX1_print yX1_print, Cond.code yX1_print cX1_print 3 none, Cond.fieldLink RX1 23 "WatchPoses$Watch" "hour" "I", Cond.fieldLink RX1 28 "WatchPoses$Watch" "lies" "I", Cond.methodLink RX1 19 yX1_isFull, Cond.methodLink RX1 31 yX4_rateIn, Cond.instanceMethod yX4_rateIn, Cond.selects RX4 yX4_rateIn yX4_rateIn, Cond.code yX4_rateIn cX4_rateIn 4 (some .int), Cond.methodLink RX4 67 yX4_swingIn, Cond.methodLink RX4 71 yX4_weightOf, Cond.instanceMethod yX4_weightOf, Cond.selects RX4 yX4_weightOf yX4_weightOf, Cond.code yX4_weightOf cX4_weightOf 2 (some .int), Cond.methodLink RX4 74 yJ9_floorDiv_7cf53, Cond.static yJ9_floorDiv_7cf53]
def wsL_read_r6 : List Cond := [Cond.initialized RJ9, Cond.code yJ9_floorDiv_7cf53 cJ9_floorDiv_7cf53 3 (some .int), Cond.methodLink RX1 35 yX4_beatErrorIn, Cond.methodLink RX1 38 yX4_swingIn, Cond.methodLink RX5 111 yX4_rateIn]
def wsL_read : List Cond := .codeWith yL_read cL_read 4 (some .int) [(0, 6, 9, 21), (0, 6, 13, 38)] :: ((wsL_read_r1 ++ (wsL_read_r2 ++ (wsL_read_r3 ++ (wsL_read_r4 ++ (wsL_read_r5 ++ wsL_read_r6))))) ++ wsX50 ++ wsX30 ++ wsX40 ++ wsX10 ++ wsX20 ++ (vx_atS RX5 105 "java/lang/IllegalStateException" ["java/lang/RuntimeException", "java/lang/Exception"]).filter goodWord ++ (vx_atS RX5 127 "java/lang/IndexOutOfBoundsException" ["java/lang/RuntimeException", "java/lang/Exception"]).filter goodWord)
def wsL_set_r1 : List Cond := [Cond.classLink RL 21 "java/lang/IndexOutOfBoundsException", Cond.classLink RL 15 "java/lang/IllegalArgumentException", Cond.methodLink RL 40 yX5_set, Cond.instanceMethod yX5_set, Cond.selects RX5 yX5_set yX5_set, Cond.initialized RX5, Cond.code yX5_set cX5_set 4 (some .int), Cond.classLink RX5 123 "java/lang/IndexOutOfBoundsException", Cond.initialized "java/lang/IndexOutOfBoundsException", Cond.fieldLink RX5 128 "WatchPoses$State" "LEAST_SETTINGS" "[I", Cond.fieldLink RX5 132 "WatchPoses$State" "MOST_SETTINGS" "[I", Cond.fieldLink RX5 22 "WatchPoses" "saved" "LWatchPoses$SavedStates;", Cond.fieldLink RX5 10 "WatchPoses" "now" "LWatchPoses$State;", Cond.fieldLink RX5 135 "WatchPoses$State" "settings" "[I", Cond.methodLink RX5 44 yX5_demandRange, Cond.static yX5_demandRange, Cond.code yX5_demandRange cX5_demandRange 3 none, Cond.classLink RX5 152 "java/lang/IllegalArgumentException", Cond.initialized "java/lang/IllegalArgumentException", Cond.methodLink RX5 48 yX2_push, Cond.instanceMethod yX2_push, Cond.selects RX2 yX2_push yX2_push, Cond.initialized RX2, Cond.code yX2_push cX2_push 2 none]
def wsL_set_r2 : List Cond := [Cond.fieldLink RX2 11 "WatchPoses$SavedStates" "ring" "[LWatchPoses$State;", Cond.fieldLink RX2 15 "WatchPoses$SavedStates" "next" "I", Cond.fieldLink RX2 19 "WatchPoses$SavedStates" "size" "I", Cond.methodLink RX2 27 Lib.Math.min.name, Cond.static Lib.Math.min.name, Cond.initialized "java/lang/Math", Cond.code Lib.Math.min.name Lib.Math.min.code 2 (some .int), Cond.methodLink RX2 23 yX3_copyFrom, Cond.instanceMethod yX3_copyFrom, Cond.selects RX3 yX3_copyFrom yX3_copyFrom, Cond.initialized RX3, Cond.code yX3_copyFrom cX3_copyFrom 2 none, Cond.fieldLink RX3 12 "WatchPoses$State" "watch" "LWatchPoses$Watch;", Cond.fieldLink RX3 21 "WatchPoses$State" "paper" "LWatchPoses$Paper;", Cond.fieldLink RX3 34 "WatchPoses$State" "settings" "[I", Cond.methodLink RX3 114 arraycopyName, Cond.native arraycopyName, Cond.static arraycopyName, Cond.initialized "java/lang/System", Cond.fieldLink RX3 37 "WatchPoses$State" "readings" "I", Cond.fieldLink RX3 41 "WatchPoses$State" "stopPart" "I", Cond.fieldLink RX3 44 "WatchPoses$State" "stopReason" "I", Cond.fieldLink RX3 47 "WatchPoses$State" "stopPose" "I", Cond.methodLink RX3 108 yX4_copyFrom]
def wsL_set_r3 : List Cond := [Cond.instanceMethod yX4_copyFrom, Cond.selects RX4 yX4_copyFrom yX4_copyFrom, Cond.initialized RX4, Cond.code yX4_copyFrom cX4_copyFrom 2 none, Cond.fieldLink RX4 20 "WatchPoses$Watch" "weights" "[I", Cond.methodLink RX4 90 arraycopyName, Cond.fieldLink RX4 23 "WatchPoses$Watch" "regulator" "I", Cond.fieldLink RX4 27 "WatchPoses$Watch" "stud" "I", Cond.fieldLink RX4 30 "WatchPoses$Watch" "hoursLeft" "I", Cond.fieldLink RX4 33 "WatchPoses$Watch" "magnetism" "I", Cond.fieldLink RX4 36 "WatchPoses$Watch" "dirt" "I", Cond.fieldLink RX4 39 "WatchPoses$Watch" "lies" "I", Cond.fieldLink RX4 42 "WatchPoses$Watch" "hour" "I", Cond.fieldLink RX4 45 "WatchPoses$Watch" "error" "I", Cond.fieldLink RX4 48 "WatchPoses$Watch" "stood" "I", Cond.fieldLink RX4 51 "WatchPoses$Watch" "went" "I", Cond.methodLink RX3 111 yX1_copyFrom, Cond.instanceMethod yX1_copyFrom, Cond.selects RX1 yX1_copyFrom yX1_copyFrom, Cond.initialized RX1, Cond.code yX1_copyFrom cX1_copyFrom 2 none, Cond.fieldLink RX1 11 "WatchPoses$Paper" "row" "[I", Cond.methodLink RX1 45 arraycopyName, Cond.fieldLink RX1 15 "WatchPoses$Paper" "length" "I"]
def wsL_set : List Cond := .codeWith yL_set cL_set 5 (some .int) [(0, 7, 10, 21), (0, 7, 15, 15)] :: ((wsL_set_r1 ++ (wsL_set_r2 ++ wsL_set_r3)) ++ wsX50 ++ wsX30 ++ wsX20 ++ wsX40 ++ wsX10 ++ (vx_atS RX5 127 "java/lang/IndexOutOfBoundsException" ["java/lang/RuntimeException", "java/lang/Exception"]).filter goodWord ++ (vx_atS RX5 156 "java/lang/IllegalArgumentException" ["java/lang/RuntimeException", "java/lang/Exception"]).filter goodWord)
def wsL_undo_r1 : List Cond := [Cond.classLink RL 38 "java/lang/IllegalStateException", Cond.methodLink RL 43 yX5_undo, Cond.instanceMethod yX5_undo, Cond.selects RX5 yX5_undo yX5_undo, Cond.initialized RX5, Cond.code yX5_undo cX5_undo 1 (some .int), Cond.classLink RX5 101 "java/lang/IllegalStateException", Cond.initialized "java/lang/IllegalStateException", Cond.fieldLink RX5 22 "WatchPoses" "saved" "LWatchPoses$SavedStates;", Cond.fieldLink RX5 170 "WatchPoses$SavedStates" "size" "I", Cond.fieldLink RX5 10 "WatchPoses" "now" "LWatchPoses$State;", Cond.methodLink RX5 175 yX2_popInto, Cond.instanceMethod yX2_popInto, Cond.selects RX2 yX2_popInto yX2_popInto, Cond.initialized RX2, Cond.code yX2_popInto cX2_popInto 2 none, Cond.fieldLink RX2 19 "WatchPoses$SavedStates" "size" "I", Cond.fieldLink RX2 15 "WatchPoses$SavedStates" "next" "I", Cond.fieldLink RX2 11 "WatchPoses$SavedStates" "ring" "[LWatchPoses$State;", Cond.methodLink RX2 23 yX3_copyFrom, Cond.instanceMethod yX3_copyFrom, Cond.selects RX3 yX3_copyFrom yX3_copyFrom, Cond.initialized RX3, Cond.code yX3_copyFrom cX3_copyFrom 2 none]
def wsL_undo_r2 : List Cond := [Cond.fieldLink RX3 12 "WatchPoses$State" "watch" "LWatchPoses$Watch;", Cond.fieldLink RX3 21 "WatchPoses$State" "paper" "LWatchPoses$Paper;", Cond.fieldLink RX3 34 "WatchPoses$State" "settings" "[I", Cond.methodLink RX3 114 arraycopyName, Cond.native arraycopyName, Cond.static arraycopyName, Cond.initialized "java/lang/System", Cond.fieldLink RX3 37 "WatchPoses$State" "readings" "I", Cond.fieldLink RX3 41 "WatchPoses$State" "stopPart" "I", Cond.fieldLink RX3 44 "WatchPoses$State" "stopReason" "I", Cond.fieldLink RX3 47 "WatchPoses$State" "stopPose" "I", Cond.methodLink RX3 108 yX4_copyFrom, Cond.instanceMethod yX4_copyFrom, Cond.selects RX4 yX4_copyFrom yX4_copyFrom, Cond.initialized RX4, Cond.code yX4_copyFrom cX4_copyFrom 2 none, Cond.fieldLink RX4 20 "WatchPoses$Watch" "weights" "[I", Cond.methodLink RX4 90 arraycopyName, Cond.fieldLink RX4 23 "WatchPoses$Watch" "regulator" "I", Cond.fieldLink RX4 27 "WatchPoses$Watch" "stud" "I", Cond.fieldLink RX4 30 "WatchPoses$Watch" "hoursLeft" "I", Cond.fieldLink RX4 33 "WatchPoses$Watch" "magnetism" "I", Cond.fieldLink RX4 36 "WatchPoses$Watch" "dirt" "I", Cond.fieldLink RX4 39 "WatchPoses$Watch" "lies" "I"]
def wsL_undo_r3 : List Cond := [Cond.fieldLink RX4 42 "WatchPoses$Watch" "hour" "I", Cond.fieldLink RX4 45 "WatchPoses$Watch" "error" "I", Cond.fieldLink RX4 48 "WatchPoses$Watch" "stood" "I", Cond.fieldLink RX4 51 "WatchPoses$Watch" "went" "I", Cond.methodLink RX3 111 yX1_copyFrom, Cond.instanceMethod yX1_copyFrom, Cond.selects RX1 yX1_copyFrom yX1_copyFrom, Cond.initialized RX1, Cond.code yX1_copyFrom cX1_copyFrom 2 none, Cond.fieldLink RX1 11 "WatchPoses$Paper" "row" "[I", Cond.methodLink RX1 45 arraycopyName, Cond.fieldLink RX1 15 "WatchPoses$Paper" "length" "I"]
def wsL_undo : List Cond := .codeWith yL_undo cL_undo 3 (some .int) [(0, 5, 8, 38)] :: ((wsL_undo_r1 ++ (wsL_undo_r2 ++ wsL_undo_r3)) ++ wsX50 ++ wsX20 ++ wsX30 ++ wsX40 ++ wsX10 ++ (vx_atS RX5 105 "java/lang/IllegalStateException" ["java/lang/RuntimeException", "java/lang/Exception"]).filter goodWord)
def wsL_restore_r1 : List Cond := [Cond.classLink RL 38 "java/lang/IllegalStateException", Cond.methodLink RL 47 yX5_restore, Cond.instanceMethod yX5_restore, Cond.selects RX5 yX5_restore yX5_restore, Cond.initialized RX5, Cond.code yX5_restore cX5_restore 1 (some .int), Cond.classLink RX5 101 "java/lang/IllegalStateException", Cond.initialized "java/lang/IllegalStateException", Cond.fieldLink RX5 40 "WatchPoses" "hasSnapshot" "Z", Cond.fieldLink RX5 22 "WatchPoses" "saved" "LWatchPoses$SavedStates;", Cond.fieldLink RX5 10 "WatchPoses" "now" "LWatchPoses$State;", Cond.fieldLink RX5 16 "WatchPoses" "snapshot" "LWatchPoses$State;", Cond.fieldLink RX5 52 "WatchPoses$State" "watch" "LWatchPoses$Watch;", Cond.fieldLink RX5 181 "WatchPoses$Watch" "hour" "I", Cond.methodLink RX5 48 yX2_push, Cond.instanceMethod yX2_push, Cond.selects RX2 yX2_push yX2_push, Cond.initialized RX2, Cond.code yX2_push cX2_push 2 none, Cond.fieldLink RX2 11 "WatchPoses$SavedStates" "ring" "[LWatchPoses$State;", Cond.fieldLink RX2 15 "WatchPoses$SavedStates" "next" "I", Cond.fieldLink RX2 19 "WatchPoses$SavedStates" "size" "I", Cond.methodLink RX2 27 Lib.Math.min.name, Cond.static Lib.Math.min.name]
def wsL_restore_r2 : List Cond := [Cond.initialized "java/lang/Math", Cond.code Lib.Math.min.name Lib.Math.min.code 2 (some .int), Cond.methodLink RX2 23 yX3_copyFrom, Cond.instanceMethod yX3_copyFrom, Cond.selects RX3 yX3_copyFrom yX3_copyFrom, Cond.initialized RX3, Cond.code yX3_copyFrom cX3_copyFrom 2 none, Cond.fieldLink RX3 12 "WatchPoses$State" "watch" "LWatchPoses$Watch;", Cond.fieldLink RX3 21 "WatchPoses$State" "paper" "LWatchPoses$Paper;", Cond.fieldLink RX3 34 "WatchPoses$State" "settings" "[I", Cond.methodLink RX3 114 arraycopyName, Cond.native arraycopyName, Cond.static arraycopyName, Cond.initialized "java/lang/System", Cond.fieldLink RX3 37 "WatchPoses$State" "readings" "I", Cond.fieldLink RX3 41 "WatchPoses$State" "stopPart" "I", Cond.fieldLink RX3 44 "WatchPoses$State" "stopReason" "I", Cond.fieldLink RX3 47 "WatchPoses$State" "stopPose" "I", Cond.methodLink RX3 108 yX4_copyFrom, Cond.instanceMethod yX4_copyFrom, Cond.selects RX4 yX4_copyFrom yX4_copyFrom, Cond.initialized RX4, Cond.code yX4_copyFrom cX4_copyFrom 2 none, Cond.fieldLink RX4 20 "WatchPoses$Watch" "weights" "[I"]
def wsL_restore_r3 : List Cond := [Cond.methodLink RX4 90 arraycopyName, Cond.fieldLink RX4 23 "WatchPoses$Watch" "regulator" "I", Cond.fieldLink RX4 27 "WatchPoses$Watch" "stud" "I", Cond.fieldLink RX4 30 "WatchPoses$Watch" "hoursLeft" "I", Cond.fieldLink RX4 33 "WatchPoses$Watch" "magnetism" "I", Cond.fieldLink RX4 36 "WatchPoses$Watch" "dirt" "I", Cond.fieldLink RX4 39 "WatchPoses$Watch" "lies" "I", Cond.fieldLink RX4 42 "WatchPoses$Watch" "hour" "I", Cond.fieldLink RX4 45 "WatchPoses$Watch" "error" "I", Cond.fieldLink RX4 48 "WatchPoses$Watch" "stood" "I", Cond.fieldLink RX4 51 "WatchPoses$Watch" "went" "I", Cond.methodLink RX3 111 yX1_copyFrom, Cond.instanceMethod yX1_copyFrom, Cond.selects RX1 yX1_copyFrom yX1_copyFrom, Cond.initialized RX1, Cond.code yX1_copyFrom cX1_copyFrom 2 none, Cond.fieldLink RX1 11 "WatchPoses$Paper" "row" "[I", Cond.methodLink RX1 45 arraycopyName, Cond.fieldLink RX1 15 "WatchPoses$Paper" "length" "I", Cond.methodLink RX5 178 yX3_copyFrom]
def wsL_restore : List Cond := .codeWith yL_restore cL_restore 3 (some .int) [(0, 5, 8, 38)] :: ((wsL_restore_r1 ++ (wsL_restore_r2 ++ wsL_restore_r3)) ++ wsX50 ++ wsX30 ++ wsX40 ++ wsX20 ++ wsX10 ++ (vx_atS RX5 105 "java/lang/IllegalStateException" ["java/lang/RuntimeException", "java/lang/Exception"]).filter goodWord)
def wsL_pose_r1 : List Cond := [Cond.classLink RL 21 "java/lang/IndexOutOfBoundsException", Cond.classLink RL 15 "java/lang/IllegalArgumentException", Cond.methodLink RL 50 yX5_pose, Cond.instanceMethod yX5_pose, Cond.selects RX5 yX5_pose yX5_pose, Cond.initialized RX5, Cond.code yX5_pose cX5_pose 3 (some .int), Cond.methodLink RX5 63 yX5_demandPose, Cond.static yX5_demandPose, Cond.code yX5_demandPose cX5_demandPose 1 none, Cond.classLink RX5 123 "java/lang/IndexOutOfBoundsException", Cond.initialized "java/lang/IndexOutOfBoundsException", Cond.methodLink RX5 244 yX5_isPose, Cond.static yX5_isPose, Cond.code yX5_isPose cX5_isPose 1 (some .boolean), Cond.methodLink RX5 44 yX5_demandRange, Cond.static yX5_demandRange, Cond.code yX5_demandRange cX5_demandRange 3 none, Cond.classLink RX5 152 "java/lang/IllegalArgumentException", Cond.initialized "java/lang/IllegalArgumentException", Cond.methodLink RX5 186 yX5_poseNumber, Cond.instanceMethod yX5_poseNumber, Cond.selects RX5 yX5_poseNumber yX5_poseNumber, Cond.code yX5_poseNumber cX5_poseNumber 4 (some .int)]
def wsL_pose_r2 : List Cond := [Cond.fieldLink RX5 10 "WatchPoses" "now" "LWatchPoses$State;", Cond.fieldLink RX5 114 "WatchPoses$State" "paper" "LWatchPoses$Paper;", Cond.fieldLink RX5 52 "WatchPoses$State" "watch" "LWatchPoses$Watch;", Cond.methodLink RX5 264 yX1_latestIn, Cond.instanceMethod yX1_latestIn, Cond.selects RX1 yX1_latestIn yX1_latestIn, Cond.initialized RX1, Cond.code yX1_latestIn cX1_latestIn 3 (some .int), Cond.fieldLink RX1 15 "WatchPoses$Paper" "length" "I", Cond.methodLink RX1 41 yX1_number, Cond.instanceMethod yX1_number, Cond.selects RX1 yX1_number yX1_number, Cond.code yX1_number cX1_number 3 (some .int), Cond.fieldLink RX1 11 "WatchPoses$Paper" "row" "[I", Cond.methodLink RX5 66 yX4_weightOf, Cond.instanceMethod yX4_weightOf, Cond.selects RX4 yX4_weightOf yX4_weightOf, Cond.initialized RX4, Cond.code yX4_weightOf cX4_weightOf 2 (some .int), Cond.fieldLink RX4 20 "WatchPoses$Watch" "weights" "[I", Cond.methodLink RX5 267 yX4_swingIn, Cond.instanceMethod yX4_swingIn, Cond.selects RX4 yX4_swingIn yX4_swingIn, Cond.code yX4_swingIn cX4_swingIn 3 (some .int)]
def wsL_pose_r3 : List Cond := [Cond.fieldLink RX4 30 "WatchPoses$Watch" "hoursLeft" "I", Cond.fieldLink RX4 36 "WatchPoses$Watch" "dirt" "I", Cond.methodLink RX4 64 Lib.Math.max.name, Cond.static Lib.Math.max.name, Cond.initialized "java/lang/Math", Cond.code Lib.Math.max.name Lib.Math.max.code 2 (some .int), Cond.methodLink RX5 111 yX4_rateIn, Cond.instanceMethod yX4_rateIn, Cond.selects RX4 yX4_rateIn yX4_rateIn, Cond.code yX4_rateIn cX4_rateIn 4 (some .int), Cond.fieldLink RX4 23 "WatchPoses$Watch" "regulator" "I", Cond.fieldLink RX4 33 "WatchPoses$Watch" "magnetism" "I", Cond.methodLink RX4 67 yX4_swingIn, Cond.methodLink RX4 71 yX4_weightOf, Cond.methodLink RX4 74 yJ9_floorDiv_7cf53, Cond.static yJ9_floorDiv_7cf53, Cond.initialized RJ9, Cond.code yJ9_floorDiv_7cf53 cJ9_floorDiv_7cf53 3 (some .int), Cond.methodLink RX5 270 yX4_beatErrorIn, Cond.instanceMethod yX4_beatErrorIn, Cond.selects RX4 yX4_beatErrorIn yX4_beatErrorIn, Cond.code yX4_beatErrorIn cX4_beatErrorIn 3 (some .int), Cond.fieldLink RX4 27 "WatchPoses$Watch" "stud" "I", Cond.methodLink RX4 77 Lib.Math.abs.name]
def wsL_pose_r4 : List Cond := [Cond.static Lib.Math.abs.name, Cond.code Lib.Math.abs.name Lib.Math.abs.code 1 (some .int), Cond.methodLink RX5 98 yX3_whyNoReading, Cond.instanceMethod yX3_whyNoReading, Cond.selects RX3 yX3_whyNoReading yX3_whyNoReading, Cond.initialized RX3, Cond.code yX3_whyNoReading cX3_whyNoReading 2 (some .int), Cond.fieldLink RX3 12 "WatchPoses$State" "watch" "LWatchPoses$Watch;", Cond.fieldLink RX3 50 "WatchPoses$Watch" "hoursLeft" "I", Cond.fieldLink RX3 34 "WatchPoses$State" "settings" "[I", Cond.fieldLink RX3 60 "WatchPoses$Watch" "magnetism" "I", Cond.fieldLink RX3 21 "WatchPoses$State" "paper" "LWatchPoses$Paper;", Cond.methodLink RX3 53 yX4_swingIn, Cond.methodLink RX3 57 yX4_beatErrorIn, Cond.methodLink RX3 63 yX1_isFull, Cond.instanceMethod yX1_isFull, Cond.selects RX1 yX1_isFull yX1_isFull, Cond.code yX1_isFull cX1_isFull 1 (some .boolean), Cond.methodLink RX5 273 yX1_number, Cond.methodLink RX5 276 yX1_readingsIn, Cond.instanceMethod yX1_readingsIn, Cond.selects RX1 yX1_readingsIn yX1_readingsIn, Cond.code yX1_readingsIn cX1_readingsIn 4 (some .int)]
def wsL_pose : List Cond := .codeWith yL_pose cL_pose 5 (some .int) [(0, 7, 10, 21), (0, 7, 15, 15)] :: ((wsL_pose_r1 ++ (wsL_pose_r2 ++ (wsL_pose_r3 ++ wsL_pose_r4))) ++ wsX50 ++ wsX30 ++ wsX10 ++ wsX40 ++ (vx_atS RX5 127 "java/lang/IndexOutOfBoundsException" ["java/lang/RuntimeException", "java/lang/Exception"]).filter goodWord ++ (vx_atS RX5 156 "java/lang/IllegalArgumentException" ["java/lang/RuntimeException", "java/lang/Exception"]).filter goodWord)
def wsL_reading_r1 : List Cond := [Cond.classLink RL 15 "java/lang/IllegalArgumentException", Cond.methodLink RL 53 yX5_reading, Cond.instanceMethod yX5_reading, Cond.selects RX5 yX5_reading yX5_reading, Cond.initialized RX5, Cond.code yX5_reading cX5_reading 3 (some .int), Cond.classLink RX5 152 "java/lang/IllegalArgumentException", Cond.initialized "java/lang/IllegalArgumentException", Cond.methodLink RX5 44 yX5_demandRange, Cond.static yX5_demandRange, Cond.code yX5_demandRange cX5_demandRange 3 none, Cond.methodLink RX5 191 yX5_readingNumber, Cond.instanceMethod yX5_readingNumber, Cond.selects RX5 yX5_readingNumber yX5_readingNumber, Cond.code yX5_readingNumber cX5_readingNumber 4 (some .int), Cond.fieldLink RX5 10 "WatchPoses" "now" "LWatchPoses$State;", Cond.fieldLink RX5 114 "WatchPoses$State" "paper" "LWatchPoses$Paper;", Cond.fieldLink RX5 118 "WatchPoses$Paper" "length" "I", Cond.methodLink RX5 273 yX1_number, Cond.instanceMethod yX1_number, Cond.selects RX1 yX1_number yX1_number, Cond.initialized RX1, Cond.code yX1_number cX1_number 3 (some .int), Cond.fieldLink RX1 15 "WatchPoses$Paper" "length" "I"]
def wsL_reading_r2 : List Cond := [Cond.fieldLink RX1 11 "WatchPoses$Paper" "row" "[I"]
def wsL_reading : List Cond := .codeWith yL_reading cL_reading 5 (some .int) [(0, 7, 10, 15)] :: ((wsL_reading_r1 ++ wsL_reading_r2) ++ wsX50 ++ wsX30 ++ wsX10 ++ (vx_atS RX5 156 "java/lang/IllegalArgumentException" ["java/lang/RuntimeException", "java/lang/Exception"]).filter goodWord)
def wsL_swing : List Cond := .code yL_swing cL_swing 3 (some .int) :: ([])
def wsL_goes : List Cond := .code yL_goes cL_goes 2 (some .boolean) :: ([.methodLink RL 56 yL_swing, .static yL_swing, .initialized RL, .code yL_swing cL_swing 3 (some .int)])
def wsL_down : List Cond := .code yL_down cL_down 3 (some .int) :: ([.constant RL 62 (100000)])
def wsL_rate : List Cond := .code yL_rate cL_rate 3 (some .int) :: ([.methodLink RL 56 yL_swing, .static yL_swing, .initialized RL, .code yL_swing cL_swing 3 (some .int), .methodLink RL 63 yL_down, .static yL_down, .code yL_down cL_down 3 (some .int), .constant RL 62 (100000)])
def wsL_beat : List Cond := .code yL_beat cL_beat 2 (some .int) :: ([])
def wsL_why : List Cond := .code yL_why cL_why 2 (some .int) :: ([.methodLink RL 56 yL_swing, .static yL_swing, .initialized RL, .code yL_swing cL_swing 3 (some .int), .methodLink RL 66 yL_beat, .static yL_beat, .code yL_beat cL_beat 2 (some .int)])
def wsL_hour : List Cond := .code yL_hour cL_hour 1 none :: ([.methodLink RL 69 yL_goes, .static yL_goes, .initialized RL, .code yL_goes cL_goes 2 (some .boolean), .methodLink RL 56 yL_swing, .static yL_swing, .code yL_swing cL_swing 3 (some .int), .methodLink RL 73 yL_rate, .static yL_rate, .code yL_rate cL_rate 3 (some .int), .methodLink RL 63 yL_down, .static yL_down, .code yL_down cL_down 3 (some .int), .constant RL 62 (100000)])
def wsL_hours : List Cond := .code yL_hours cL_hours 4 (some .int) :: ([.methodLink RL 76 yL_hour, .static yL_hour, .initialized RL, .code yL_hour cL_hour 1 none, .methodLink RL 69 yL_goes, .static yL_goes, .code yL_goes cL_goes 2 (some .boolean), .methodLink RL 56 yL_swing, .static yL_swing, .code yL_swing cL_swing 3 (some .int), .methodLink RL 73 yL_rate, .static yL_rate, .code yL_rate cL_rate 3 (some .int), .methodLink RL 63 yL_down, .static yL_down, .code yL_down cL_down 3 (some .int), .constant RL 62 (100000)])
def wsL_copy : List Cond := .code yL_copy cL_copy 3 none :: ([])
def wsL_latest : List Cond := .code yL_latest cL_latest 4 (some .int) :: ([])
def wsL_arePoses_r1 : List Cond := [Cond.arrayClass .int, Cond.methodLink RL 80 yL_latest, Cond.static yL_latest, Cond.initialized RL, Cond.code yL_latest cL_latest 4 (some .int), Cond.methodLink RL 84 yL_copy, Cond.static yL_copy, Cond.code yL_copy cL_copy 3 none, Cond.methodLink RL 69 yL_goes, Cond.static yL_goes, Cond.code yL_goes cL_goes 2 (some .boolean), Cond.methodLink RL 56 yL_swing, Cond.static yL_swing, Cond.code yL_swing cL_swing 3 (some .int), Cond.methodLink RL 76 yL_hour, Cond.static yL_hour, Cond.code yL_hour cL_hour 1 none, Cond.methodLink RL 73 yL_rate, Cond.static yL_rate, Cond.code yL_rate cL_rate 3 (some .int), Cond.methodLink RL 63 yL_down, Cond.static yL_down, Cond.code yL_down cL_down 3 (some .int), Cond.constant RL 62 (100000)]
def wsL_arePoses_r2 : List Cond := [Cond.methodLink RL 50 yX5_pose, Cond.instanceMethod yX5_pose, Cond.selects RX5 yX5_pose yX5_pose, Cond.initialized RX5, Cond.code yX5_pose cX5_pose 3 (some .int), Cond.methodLink RX5 63 yX5_demandPose, Cond.static yX5_demandPose, Cond.code yX5_demandPose cX5_demandPose 1 none, Cond.classLink RX5 123 "java/lang/IndexOutOfBoundsException", Cond.initialized "java/lang/IndexOutOfBoundsException", Cond.methodLink RX5 244 yX5_isPose, Cond.static yX5_isPose, Cond.code yX5_isPose cX5_isPose 1 (some .boolean), Cond.methodLink RX5 44 yX5_demandRange, Cond.static yX5_demandRange, Cond.code yX5_demandRange cX5_demandRange 3 none, Cond.classLink RX5 152 "java/lang/IllegalArgumentException", Cond.initialized "java/lang/IllegalArgumentException", Cond.methodLink RX5 186 yX5_poseNumber, Cond.instanceMethod yX5_poseNumber, Cond.selects RX5 yX5_poseNumber yX5_poseNumber, Cond.code yX5_poseNumber cX5_poseNumber 4 (some .int), Cond.fieldLink RX5 10 "WatchPoses" "now" "LWatchPoses$State;", Cond.fieldLink RX5 114 "WatchPoses$State" "paper" "LWatchPoses$Paper;"]
def wsL_arePoses_r3 : List Cond := [Cond.fieldLink RX5 52 "WatchPoses$State" "watch" "LWatchPoses$Watch;", Cond.methodLink RX5 264 yX1_latestIn, Cond.instanceMethod yX1_latestIn, Cond.selects RX1 yX1_latestIn yX1_latestIn, Cond.initialized RX1, Cond.code yX1_latestIn cX1_latestIn 3 (some .int), Cond.fieldLink RX1 15 "WatchPoses$Paper" "length" "I", Cond.methodLink RX1 41 yX1_number, Cond.instanceMethod yX1_number, Cond.selects RX1 yX1_number yX1_number, Cond.code yX1_number cX1_number 3 (some .int), Cond.fieldLink RX1 11 "WatchPoses$Paper" "row" "[I", Cond.methodLink RX5 66 yX4_weightOf, Cond.instanceMethod yX4_weightOf, Cond.selects RX4 yX4_weightOf yX4_weightOf, Cond.initialized RX4, Cond.code yX4_weightOf cX4_weightOf 2 (some .int), Cond.fieldLink RX4 20 "WatchPoses$Watch" "weights" "[I", Cond.methodLink RX5 267 yX4_swingIn, Cond.instanceMethod yX4_swingIn, Cond.selects RX4 yX4_swingIn yX4_swingIn, Cond.code yX4_swingIn cX4_swingIn 3 (some .int), Cond.fieldLink RX4 30 "WatchPoses$Watch" "hoursLeft" "I", Cond.fieldLink RX4 36 "WatchPoses$Watch" "dirt" "I"]
def wsL_arePoses_r4 : List Cond := [Cond.methodLink RX4 64 Lib.Math.max.name, Cond.static Lib.Math.max.name, Cond.initialized "java/lang/Math", Cond.code Lib.Math.max.name Lib.Math.max.code 2 (some .int), Cond.methodLink RX5 111 yX4_rateIn, Cond.instanceMethod yX4_rateIn, Cond.selects RX4 yX4_rateIn yX4_rateIn, Cond.code yX4_rateIn cX4_rateIn 4 (some .int), Cond.fieldLink RX4 23 "WatchPoses$Watch" "regulator" "I", Cond.fieldLink RX4 33 "WatchPoses$Watch" "magnetism" "I", Cond.methodLink RX4 67 yX4_swingIn, Cond.methodLink RX4 71 yX4_weightOf, Cond.methodLink RX4 74 yJ9_floorDiv_7cf53, Cond.static yJ9_floorDiv_7cf53, Cond.initialized RJ9, Cond.code yJ9_floorDiv_7cf53 cJ9_floorDiv_7cf53 3 (some .int), Cond.methodLink RX5 270 yX4_beatErrorIn, Cond.instanceMethod yX4_beatErrorIn, Cond.selects RX4 yX4_beatErrorIn yX4_beatErrorIn, Cond.code yX4_beatErrorIn cX4_beatErrorIn 3 (some .int), Cond.fieldLink RX4 27 "WatchPoses$Watch" "stud" "I", Cond.methodLink RX4 77 Lib.Math.abs.name, Cond.static Lib.Math.abs.name, Cond.code Lib.Math.abs.name Lib.Math.abs.code 1 (some .int)]
def wsL_arePoses_r5 : List Cond := [Cond.methodLink RX5 98 yX3_whyNoReading, Cond.instanceMethod yX3_whyNoReading, Cond.selects RX3 yX3_whyNoReading yX3_whyNoReading, Cond.initialized RX3, Cond.code yX3_whyNoReading cX3_whyNoReading 2 (some .int), Cond.fieldLink RX3 12 "WatchPoses$State" "watch" "LWatchPoses$Watch;", Cond.fieldLink RX3 50 "WatchPoses$Watch" "hoursLeft" "I", Cond.fieldLink RX3 34 "WatchPoses$State" "settings" "[I", Cond.fieldLink RX3 60 "WatchPoses$Watch" "magnetism" "I", Cond.fieldLink RX3 21 "WatchPoses$State" "paper" "LWatchPoses$Paper;", Cond.methodLink RX3 53 yX4_swingIn, Cond.methodLink RX3 57 yX4_beatErrorIn, Cond.methodLink RX3 63 yX1_isFull, Cond.instanceMethod yX1_isFull, Cond.selects RX1 yX1_isFull yX1_isFull, Cond.code yX1_isFull cX1_isFull 1 (some .boolean), Cond.methodLink RX5 273 yX1_number, Cond.methodLink RX5 276 yX1_readingsIn, Cond.instanceMethod yX1_readingsIn, Cond.selects RX1 yX1_readingsIn yX1_readingsIn, Cond.code yX1_readingsIn cX1_readingsIn 4 (some .int), Cond.methodLink RL 66 yL_beat, Cond.static yL_beat, Cond.code yL_beat cL_beat 2 (some .int)]
def wsL_arePoses_r6 : List Cond := [Cond.methodLink RL 88 yL_why, Cond.static yL_why, Cond.code yL_why cL_why 2 (some .int), Cond.methodLink RL 91 yX5_stopsIn, Cond.instanceMethod yX5_stopsIn, Cond.selects RX5 yX5_stopsIn yX5_stopsIn, Cond.code yX5_stopsIn cX5_stopsIn 2 (some .int), Cond.methodLink RX5 204 yX5_hoursUntilStop, Cond.instanceMethod yX5_hoursUntilStop, Cond.selects RX5 yX5_hoursUntilStop yX5_hoursUntilStop, Cond.code yX5_hoursUntilStop cX5_hoursUntilStop 2 (some .int), Cond.fieldLink RX5 36 "WatchPoses" "trial" "LWatchPoses$Watch;", Cond.fieldLink RX5 92 "WatchPoses$Watch" "lies" "I", Cond.methodLink RX5 208 yX4_copyFrom, Cond.instanceMethod yX4_copyFrom, Cond.selects RX4 yX4_copyFrom yX4_copyFrom, Cond.code yX4_copyFrom cX4_copyFrom 2 none, Cond.methodLink RX4 90 arraycopyName, Cond.native arraycopyName, Cond.static arraycopyName, Cond.initialized "java/lang/System", Cond.fieldLink RX4 39 "WatchPoses$Watch" "lies" "I", Cond.fieldLink RX4 42 "WatchPoses$Watch" "hour" "I", Cond.fieldLink RX4 45 "WatchPoses$Watch" "error" "I"]
def wsL_arePoses_r7 : List Cond := [Cond.fieldLink RX4 48 "WatchPoses$Watch" "stood" "I", Cond.fieldLink RX4 51 "WatchPoses$Watch" "went" "I", Cond.methodLink RX5 95 yX4_run, Cond.instanceMethod yX4_run, Cond.selects RX4 yX4_run yX4_run, Cond.code yX4_run cX4_run 4 (some .int), Cond.methodLink RX4 80 yX4_runHour, Cond.instanceMethod yX4_runHour, Cond.selects RX4 yX4_runHour yX4_runHour, Cond.code yX4_runHour cX4_runHour 1 none, Cond.methodLink RX4 58 Lib.Math.min.name, Cond.static Lib.Math.min.name, Cond.code Lib.Math.min.name Lib.Math.min.code 2 (some .int), Cond.methodLink RX4 83 yX4_goes, Cond.instanceMethod yX4_goes, Cond.selects RX4 yX4_goes yX4_goes, Cond.code yX4_goes cX4_goes 1 (some .boolean), Cond.methodLink RX4 87 yX4_rateIn, Cond.methodLink RL 94 yX5_count, Cond.instanceMethod yX5_count, Cond.selects RX5 yX5_count yX5_count, Cond.code yX5_count cX5_count 2 (some .int), Cond.methodLink RX5 194 yX5_countNumber, Cond.instanceMethod yX5_countNumber]
def wsL_arePoses_r8 : List Cond := [Cond.selects RX5 yX5_countNumber yX5_countNumber, Cond.code yX5_countNumber cX5_countNumber 3 (some .int), Cond.fieldLink RX5 181 "WatchPoses$Watch" "hour" "I", Cond.fieldLink RX5 59 "WatchPoses$Watch" "hoursLeft" "I", Cond.fieldLink RX5 74 "WatchPoses$Watch" "regulator" "I", Cond.fieldLink RX5 77 "WatchPoses$Watch" "stud" "I", Cond.fieldLink RX5 80 "WatchPoses$Watch" "magnetism" "I", Cond.fieldLink RX5 89 "WatchPoses$Watch" "dirt" "I", Cond.fieldLink RX5 211 "WatchPoses$Watch" "error" "I", Cond.constant RX5 282 (1000000), Cond.fieldLink RX5 283 "WatchPoses$Watch" "stood" "I", Cond.fieldLink RX5 118 "WatchPoses$Paper" "length" "I", Cond.fieldLink RX5 286 "WatchPoses$State" "readings" "I", Cond.fieldLink RX5 214 "WatchPoses$Watch" "went" "I", Cond.fieldLink RX5 135 "WatchPoses$State" "settings" "[I", Cond.fieldLink RX5 22 "WatchPoses" "saved" "LWatchPoses$SavedStates;", Cond.fieldLink RX5 170 "WatchPoses$SavedStates" "size" "I", Cond.methodLink RX5 279 yX4_goes, Cond.methodLink RX5 289 yX3_dayRateByPoses, Cond.instanceMethod yX3_dayRateByPoses, Cond.selects RX3 yX3_dayRateByPoses yX3_dayRateByPoses, Cond.code yX3_dayRateByPoses cX3_dayRateByPoses 3 (some .int), Cond.methodLink RX3 94 yX3_whyNoDayRate, Cond.instanceMethod yX3_whyNoDayRate]
def wsL_arePoses_r9 : List Cond := [Cond.selects RX3 yX3_whyNoDayRate yX3_whyNoDayRate, Cond.code yX3_whyNoDayRate cX3_whyNoDayRate 7 (some .int), Cond.constant RX3 74 (2000000000), Cond.constant RX3 75 (-2000000000), Cond.methodLink RX3 83 Lib.Math.min.name, Cond.methodLink RX3 88 Lib.Math.max.name, Cond.fieldLink RX3 91 "WatchPoses$Watch" "hour" "I", Cond.methodLink RX3 76 yX1_latestIn, Cond.methodLink RX3 79 yX1_number, Cond.methodLink RX3 98 yJ9_floorDiv_7cf53, Cond.methodLink RX5 292 yX3_dayRateByPaper, Cond.instanceMethod yX3_dayRateByPaper, Cond.selects RX3 yX3_dayRateByPaper yX3_dayRateByPaper, Cond.code yX3_dayRateByPaper cX3_dayRateByPaper 9 (some .int), Cond.fieldLink RX3 101 "WatchPoses$Paper" "length" "I", Cond.methodLink RX5 295 yX3_whyNoDayRate]
def wsL_arePoses : List Cond := .code yL_arePoses cL_arePoses 14 (some .boolean) :: ((wsL_arePoses_r1 ++ (wsL_arePoses_r2 ++ (wsL_arePoses_r3 ++ (wsL_arePoses_r4 ++ (wsL_arePoses_r5 ++ (wsL_arePoses_r6 ++ (wsL_arePoses_r7 ++ (wsL_arePoses_r8 ++ wsL_arePoses_r9)))))))) ++ wsX50 ++ wsX30 ++ wsX10 ++ wsX40 ++ wsX20 ++ (vx_atS RX5 127 "java/lang/IndexOutOfBoundsException" ["java/lang/RuntimeException", "java/lang/Exception"]).filter goodWord ++ (vx_atS RX5 156 "java/lang/IllegalArgumentException" ["java/lang/RuntimeException", "java/lang/Exception"]).filter goodWord)
def wsL_isAhead_r1 : List Cond := [Cond.arrayClass .int, Cond.constant RL 62 (100000), Cond.methodLink RL 84 yL_copy, Cond.static yL_copy, Cond.initialized RL, Cond.code yL_copy cL_copy 3 none, Cond.methodLink RL 97 yL_low, Cond.static yL_low, Cond.code yL_low cL_low 2 (some .int), Cond.constant RL 8 (2147483647), Cond.methodLink RL 100 yL_hours, Cond.static yL_hours, Cond.code yL_hours cL_hours 4 (some .int), Cond.methodLink RL 76 yL_hour, Cond.static yL_hour, Cond.code yL_hour cL_hour 1 none, Cond.methodLink RL 69 yL_goes, Cond.static yL_goes, Cond.code yL_goes cL_goes 2 (some .boolean), Cond.methodLink RL 56 yL_swing, Cond.static yL_swing, Cond.code yL_swing cL_swing 3 (some .int), Cond.methodLink RL 73 yL_rate, Cond.static yL_rate]
def wsL_isAhead_r2 : List Cond := [Cond.code yL_rate cL_rate 3 (some .int), Cond.methodLink RL 63 yL_down, Cond.static yL_down, Cond.code yL_down cL_down 3 (some .int), Cond.methodLink RL 103 yX5_ifWorn, Cond.instanceMethod yX5_ifWorn, Cond.selects RX5 yX5_ifWorn yX5_ifWorn, Cond.initialized RX5, Cond.code yX5_ifWorn cX5_ifWorn 5 (some .int), Cond.methodLink RX5 63 yX5_demandPose, Cond.static yX5_demandPose, Cond.code yX5_demandPose cX5_demandPose 1 none, Cond.classLink RX5 123 "java/lang/IndexOutOfBoundsException", Cond.initialized "java/lang/IndexOutOfBoundsException", Cond.methodLink RX5 244 yX5_isPose, Cond.static yX5_isPose, Cond.code yX5_isPose cX5_isPose 1 (some .boolean), Cond.methodLink RX5 44 yX5_demandRange, Cond.static yX5_demandRange, Cond.code yX5_demandRange cX5_demandRange 3 none, Cond.classLink RX5 152 "java/lang/IllegalArgumentException", Cond.initialized "java/lang/IllegalArgumentException", Cond.methodLink RX5 197 yX5_wornNumber, Cond.instanceMethod yX5_wornNumber]
def wsL_isAhead_r3 : List Cond := [Cond.selects RX5 yX5_wornNumber yX5_wornNumber, Cond.code yX5_wornNumber cX5_wornNumber 6 (some .int), Cond.fieldLink RX5 36 "WatchPoses" "trial" "LWatchPoses$Watch;", Cond.fieldLink RX5 10 "WatchPoses" "now" "LWatchPoses$State;", Cond.fieldLink RX5 52 "WatchPoses$State" "watch" "LWatchPoses$Watch;", Cond.fieldLink RX5 92 "WatchPoses$Watch" "lies" "I", Cond.fieldLink RX5 211 "WatchPoses$Watch" "error" "I", Cond.constant RX5 298 (100000), Cond.methodLink RX5 208 yX4_copyFrom, Cond.instanceMethod yX4_copyFrom, Cond.selects RX4 yX4_copyFrom yX4_copyFrom, Cond.initialized RX4, Cond.code yX4_copyFrom cX4_copyFrom 2 none, Cond.fieldLink RX4 20 "WatchPoses$Watch" "weights" "[I", Cond.methodLink RX4 90 arraycopyName, Cond.native arraycopyName, Cond.static arraycopyName, Cond.initialized "java/lang/System", Cond.fieldLink RX4 23 "WatchPoses$Watch" "regulator" "I", Cond.fieldLink RX4 27 "WatchPoses$Watch" "stud" "I", Cond.fieldLink RX4 30 "WatchPoses$Watch" "hoursLeft" "I", Cond.fieldLink RX4 33 "WatchPoses$Watch" "magnetism" "I", Cond.fieldLink RX4 36 "WatchPoses$Watch" "dirt" "I", Cond.fieldLink RX4 39 "WatchPoses$Watch" "lies" "I"]
def wsL_isAhead_r4 : List Cond := [Cond.fieldLink RX4 42 "WatchPoses$Watch" "hour" "I", Cond.fieldLink RX4 45 "WatchPoses$Watch" "error" "I", Cond.fieldLink RX4 48 "WatchPoses$Watch" "stood" "I", Cond.fieldLink RX4 51 "WatchPoses$Watch" "went" "I", Cond.methodLink RX5 95 yX4_run, Cond.instanceMethod yX4_run, Cond.selects RX4 yX4_run yX4_run, Cond.code yX4_run cX4_run 4 (some .int), Cond.methodLink RX4 80 yX4_runHour, Cond.instanceMethod yX4_runHour, Cond.selects RX4 yX4_runHour yX4_runHour, Cond.code yX4_runHour cX4_runHour 1 none, Cond.methodLink RX4 58 Lib.Math.min.name, Cond.static Lib.Math.min.name, Cond.initialized "java/lang/Math", Cond.code Lib.Math.min.name Lib.Math.min.code 2 (some .int), Cond.methodLink RX4 83 yX4_goes, Cond.instanceMethod yX4_goes, Cond.selects RX4 yX4_goes yX4_goes, Cond.code yX4_goes cX4_goes 1 (some .boolean), Cond.methodLink RX4 67 yX4_swingIn, Cond.instanceMethod yX4_swingIn, Cond.selects RX4 yX4_swingIn yX4_swingIn, Cond.code yX4_swingIn cX4_swingIn 3 (some .int)]
def wsL_isAhead_r5 : List Cond := [Cond.methodLink RX4 64 Lib.Math.max.name, Cond.static Lib.Math.max.name, Cond.code Lib.Math.max.name Lib.Math.max.code 2 (some .int), Cond.methodLink RX4 87 yX4_rateIn, Cond.instanceMethod yX4_rateIn, Cond.selects RX4 yX4_rateIn yX4_rateIn, Cond.code yX4_rateIn cX4_rateIn 4 (some .int), Cond.methodLink RX4 71 yX4_weightOf, Cond.instanceMethod yX4_weightOf, Cond.selects RX4 yX4_weightOf yX4_weightOf, Cond.code yX4_weightOf cX4_weightOf 2 (some .int), Cond.methodLink RX4 74 yJ9_floorDiv_7cf53, Cond.static yJ9_floorDiv_7cf53, Cond.initialized RJ9, Cond.code yJ9_floorDiv_7cf53 cJ9_floorDiv_7cf53 3 (some .int), Cond.methodLink RL 107 yX5_nightPose, Cond.instanceMethod yX5_nightPose, Cond.selects RX5 yX5_nightPose yX5_nightPose, Cond.code yX5_nightPose cX5_nightPose 4 (some .int), Cond.constant RX5 207 (2000000000), Cond.methodLink RX5 201 Lib.Math.abs.name, Cond.static Lib.Math.abs.name, Cond.code Lib.Math.abs.name Lib.Math.abs.code 1 (some .int), Cond.methodLink RL 110 yX5_bestRegulator]
def wsL_isAhead_r6 : List Cond := [Cond.instanceMethod yX5_bestRegulator, Cond.selects RX5 yX5_bestRegulator yX5_bestRegulator, Cond.code yX5_bestRegulator cX5_bestRegulator 4 (some .int), Cond.fieldLink RX5 74 "WatchPoses$Watch" "regulator" "I", Cond.methodLink RX5 111 yX4_rateIn]
def wsL_isAhead : List Cond := .code yL_isAhead cL_isAhead 15 (some .boolean) :: ((wsL_isAhead_r1 ++ (wsL_isAhead_r2 ++ (wsL_isAhead_r3 ++ (wsL_isAhead_r4 ++ (wsL_isAhead_r5 ++ wsL_isAhead_r6))))) ++ wsX50 ++ wsX30 ++ wsX40 ++ (vx_atS RX5 127 "java/lang/IndexOutOfBoundsException" ["java/lang/RuntimeException", "java/lang/Exception"]).filter goodWord ++ (vx_atS RX5 156 "java/lang/IllegalArgumentException" ["java/lang/RuntimeException", "java/lang/Exception"]).filter goodWord)
def wsL_isSo_r1 : List Cond := [Cond.constant RL 113 (1000000), Cond.methodLink RL 53 yX5_reading, Cond.instanceMethod yX5_reading, Cond.selects RX5 yX5_reading yX5_reading, Cond.initialized RX5, Cond.code yX5_reading cX5_reading 3 (some .int), Cond.classLink RX5 152 "java/lang/IllegalArgumentException", Cond.initialized "java/lang/IllegalArgumentException", Cond.methodLink RX5 44 yX5_demandRange, Cond.static yX5_demandRange, Cond.code yX5_demandRange cX5_demandRange 3 none, Cond.methodLink RX5 191 yX5_readingNumber, Cond.instanceMethod yX5_readingNumber, Cond.selects RX5 yX5_readingNumber yX5_readingNumber, Cond.code yX5_readingNumber cX5_readingNumber 4 (some .int), Cond.fieldLink RX5 10 "WatchPoses" "now" "LWatchPoses$State;", Cond.fieldLink RX5 114 "WatchPoses$State" "paper" "LWatchPoses$Paper;", Cond.fieldLink RX5 118 "WatchPoses$Paper" "length" "I", Cond.methodLink RX5 273 yX1_number, Cond.instanceMethod yX1_number, Cond.selects RX1 yX1_number yX1_number, Cond.initialized RX1, Cond.code yX1_number cX1_number 3 (some .int), Cond.fieldLink RX1 15 "WatchPoses$Paper" "length" "I"]
def wsL_isSo_r2 : List Cond := [Cond.fieldLink RX1 11 "WatchPoses$Paper" "row" "[I", Cond.methodLink RL 94 yX5_count, Cond.instanceMethod yX5_count, Cond.selects RX5 yX5_count yX5_count, Cond.code yX5_count cX5_count 2 (some .int), Cond.methodLink RX5 194 yX5_countNumber, Cond.instanceMethod yX5_countNumber, Cond.selects RX5 yX5_countNumber yX5_countNumber, Cond.code yX5_countNumber cX5_countNumber 3 (some .int), Cond.fieldLink RX5 52 "WatchPoses$State" "watch" "LWatchPoses$Watch;", Cond.fieldLink RX5 181 "WatchPoses$Watch" "hour" "I", Cond.fieldLink RX5 59 "WatchPoses$Watch" "hoursLeft" "I", Cond.fieldLink RX5 74 "WatchPoses$Watch" "regulator" "I", Cond.fieldLink RX5 77 "WatchPoses$Watch" "stud" "I", Cond.fieldLink RX5 80 "WatchPoses$Watch" "magnetism" "I", Cond.fieldLink RX5 89 "WatchPoses$Watch" "dirt" "I", Cond.fieldLink RX5 92 "WatchPoses$Watch" "lies" "I", Cond.fieldLink RX5 211 "WatchPoses$Watch" "error" "I", Cond.constant RX5 282 (1000000), Cond.fieldLink RX5 283 "WatchPoses$Watch" "stood" "I", Cond.fieldLink RX5 286 "WatchPoses$State" "readings" "I", Cond.fieldLink RX5 214 "WatchPoses$Watch" "went" "I", Cond.fieldLink RX5 135 "WatchPoses$State" "settings" "[I", Cond.fieldLink RX5 22 "WatchPoses" "saved" "LWatchPoses$SavedStates;"]
def wsL_isSo_r3 : List Cond := [Cond.fieldLink RX5 170 "WatchPoses$SavedStates" "size" "I", Cond.methodLink RX5 279 yX4_goes, Cond.instanceMethod yX4_goes, Cond.selects RX4 yX4_goes yX4_goes, Cond.initialized RX4, Cond.code yX4_goes cX4_goes 1 (some .boolean), Cond.fieldLink RX4 30 "WatchPoses$Watch" "hoursLeft" "I", Cond.fieldLink RX4 39 "WatchPoses$Watch" "lies" "I", Cond.methodLink RX4 67 yX4_swingIn, Cond.instanceMethod yX4_swingIn, Cond.selects RX4 yX4_swingIn yX4_swingIn, Cond.code yX4_swingIn cX4_swingIn 3 (some .int), Cond.fieldLink RX4 36 "WatchPoses$Watch" "dirt" "I", Cond.methodLink RX4 64 Lib.Math.max.name, Cond.static Lib.Math.max.name, Cond.initialized "java/lang/Math", Cond.code Lib.Math.max.name Lib.Math.max.code 2 (some .int), Cond.methodLink RX5 289 yX3_dayRateByPoses, Cond.instanceMethod yX3_dayRateByPoses, Cond.selects RX3 yX3_dayRateByPoses yX3_dayRateByPoses, Cond.initialized RX3, Cond.code yX3_dayRateByPoses cX3_dayRateByPoses 3 (some .int), Cond.fieldLink RX3 21 "WatchPoses$State" "paper" "LWatchPoses$Paper;", Cond.methodLink RX3 94 yX3_whyNoDayRate]
def wsL_isSo_r4 : List Cond := [Cond.instanceMethod yX3_whyNoDayRate, Cond.selects RX3 yX3_whyNoDayRate yX3_whyNoDayRate, Cond.code yX3_whyNoDayRate cX3_whyNoDayRate 7 (some .int), Cond.constant RX3 74 (2000000000), Cond.constant RX3 75 (-2000000000), Cond.methodLink RX3 83 Lib.Math.min.name, Cond.static Lib.Math.min.name, Cond.code Lib.Math.min.name Lib.Math.min.code 2 (some .int), Cond.methodLink RX3 88 Lib.Math.max.name, Cond.fieldLink RX3 12 "WatchPoses$State" "watch" "LWatchPoses$Watch;", Cond.fieldLink RX3 91 "WatchPoses$Watch" "hour" "I", Cond.fieldLink RX3 34 "WatchPoses$State" "settings" "[I", Cond.methodLink RX3 76 yX1_latestIn, Cond.instanceMethod yX1_latestIn, Cond.selects RX1 yX1_latestIn yX1_latestIn, Cond.code yX1_latestIn cX1_latestIn 3 (some .int), Cond.methodLink RX1 41 yX1_number, Cond.methodLink RX3 79 yX1_number, Cond.methodLink RX3 98 yJ9_floorDiv_7cf53, Cond.static yJ9_floorDiv_7cf53, Cond.initialized RJ9, Cond.code yJ9_floorDiv_7cf53 cJ9_floorDiv_7cf53 3 (some .int), Cond.methodLink RX5 292 yX3_dayRateByPaper, Cond.instanceMethod yX3_dayRateByPaper]
def wsL_isSo_r5 : List Cond := [Cond.selects RX3 yX3_dayRateByPaper yX3_dayRateByPaper, Cond.code yX3_dayRateByPaper cX3_dayRateByPaper 9 (some .int), Cond.fieldLink RX3 101 "WatchPoses$Paper" "length" "I", Cond.methodLink RX5 295 yX3_whyNoDayRate, Cond.methodLink RL 69 yL_goes, Cond.static yL_goes, Cond.initialized RL, Cond.code yL_goes cL_goes 2 (some .boolean), Cond.methodLink RL 56 yL_swing, Cond.static yL_swing, Cond.code yL_swing cL_swing 3 (some .int), Cond.methodLink RL 114 yL_arePoses, Cond.static yL_arePoses, Cond.code yL_arePoses cL_arePoses 14 (some .boolean), Cond.arrayClass .int, Cond.methodLink RL 80 yL_latest, Cond.static yL_latest, Cond.code yL_latest cL_latest 4 (some .int), Cond.methodLink RL 84 yL_copy, Cond.static yL_copy, Cond.code yL_copy cL_copy 3 none, Cond.methodLink RL 76 yL_hour, Cond.static yL_hour, Cond.code yL_hour cL_hour 1 none]
def wsL_isSo_r6 : List Cond := [Cond.methodLink RL 73 yL_rate, Cond.static yL_rate, Cond.code yL_rate cL_rate 3 (some .int), Cond.methodLink RL 63 yL_down, Cond.static yL_down, Cond.code yL_down cL_down 3 (some .int), Cond.constant RL 62 (100000), Cond.methodLink RL 50 yX5_pose, Cond.instanceMethod yX5_pose, Cond.selects RX5 yX5_pose yX5_pose, Cond.code yX5_pose cX5_pose 3 (some .int), Cond.methodLink RX5 63 yX5_demandPose, Cond.static yX5_demandPose, Cond.code yX5_demandPose cX5_demandPose 1 none, Cond.classLink RX5 123 "java/lang/IndexOutOfBoundsException", Cond.initialized "java/lang/IndexOutOfBoundsException", Cond.methodLink RX5 244 yX5_isPose, Cond.static yX5_isPose, Cond.code yX5_isPose cX5_isPose 1 (some .boolean), Cond.methodLink RX5 186 yX5_poseNumber, Cond.instanceMethod yX5_poseNumber, Cond.selects RX5 yX5_poseNumber yX5_poseNumber, Cond.code yX5_poseNumber cX5_poseNumber 4 (some .int), Cond.methodLink RX5 264 yX1_latestIn]
def wsL_isSo_r7 : List Cond := [Cond.methodLink RX5 66 yX4_weightOf, Cond.instanceMethod yX4_weightOf, Cond.selects RX4 yX4_weightOf yX4_weightOf, Cond.code yX4_weightOf cX4_weightOf 2 (some .int), Cond.fieldLink RX4 20 "WatchPoses$Watch" "weights" "[I", Cond.methodLink RX5 267 yX4_swingIn, Cond.methodLink RX5 111 yX4_rateIn, Cond.instanceMethod yX4_rateIn, Cond.selects RX4 yX4_rateIn yX4_rateIn, Cond.code yX4_rateIn cX4_rateIn 4 (some .int), Cond.fieldLink RX4 23 "WatchPoses$Watch" "regulator" "I", Cond.fieldLink RX4 33 "WatchPoses$Watch" "magnetism" "I", Cond.methodLink RX4 71 yX4_weightOf, Cond.methodLink RX4 74 yJ9_floorDiv_7cf53, Cond.methodLink RX5 270 yX4_beatErrorIn, Cond.instanceMethod yX4_beatErrorIn, Cond.selects RX4 yX4_beatErrorIn yX4_beatErrorIn, Cond.code yX4_beatErrorIn cX4_beatErrorIn 3 (some .int), Cond.fieldLink RX4 27 "WatchPoses$Watch" "stud" "I", Cond.methodLink RX4 77 Lib.Math.abs.name, Cond.static Lib.Math.abs.name, Cond.code Lib.Math.abs.name Lib.Math.abs.code 1 (some .int), Cond.methodLink RX5 98 yX3_whyNoReading, Cond.instanceMethod yX3_whyNoReading]
def wsL_isSo_r8 : List Cond := [Cond.selects RX3 yX3_whyNoReading yX3_whyNoReading, Cond.code yX3_whyNoReading cX3_whyNoReading 2 (some .int), Cond.fieldLink RX3 50 "WatchPoses$Watch" "hoursLeft" "I", Cond.fieldLink RX3 60 "WatchPoses$Watch" "magnetism" "I", Cond.methodLink RX3 53 yX4_swingIn, Cond.methodLink RX3 57 yX4_beatErrorIn, Cond.methodLink RX3 63 yX1_isFull, Cond.instanceMethod yX1_isFull, Cond.selects RX1 yX1_isFull yX1_isFull, Cond.code yX1_isFull cX1_isFull 1 (some .boolean), Cond.methodLink RX5 276 yX1_readingsIn, Cond.instanceMethod yX1_readingsIn, Cond.selects RX1 yX1_readingsIn yX1_readingsIn, Cond.code yX1_readingsIn cX1_readingsIn 4 (some .int), Cond.methodLink RL 66 yL_beat, Cond.static yL_beat, Cond.code yL_beat cL_beat 2 (some .int), Cond.methodLink RL 88 yL_why, Cond.static yL_why, Cond.code yL_why cL_why 2 (some .int), Cond.methodLink RL 91 yX5_stopsIn, Cond.instanceMethod yX5_stopsIn, Cond.selects RX5 yX5_stopsIn yX5_stopsIn, Cond.code yX5_stopsIn cX5_stopsIn 2 (some .int)]
def wsL_isSo_r9 : List Cond := [Cond.methodLink RX5 204 yX5_hoursUntilStop, Cond.instanceMethod yX5_hoursUntilStop, Cond.selects RX5 yX5_hoursUntilStop yX5_hoursUntilStop, Cond.code yX5_hoursUntilStop cX5_hoursUntilStop 2 (some .int), Cond.fieldLink RX5 36 "WatchPoses" "trial" "LWatchPoses$Watch;", Cond.methodLink RX5 208 yX4_copyFrom, Cond.instanceMethod yX4_copyFrom, Cond.selects RX4 yX4_copyFrom yX4_copyFrom, Cond.code yX4_copyFrom cX4_copyFrom 2 none, Cond.methodLink RX4 90 arraycopyName, Cond.native arraycopyName, Cond.static arraycopyName, Cond.initialized "java/lang/System", Cond.fieldLink RX4 42 "WatchPoses$Watch" "hour" "I", Cond.fieldLink RX4 45 "WatchPoses$Watch" "error" "I", Cond.fieldLink RX4 48 "WatchPoses$Watch" "stood" "I", Cond.fieldLink RX4 51 "WatchPoses$Watch" "went" "I", Cond.methodLink RX5 95 yX4_run, Cond.instanceMethod yX4_run, Cond.selects RX4 yX4_run yX4_run, Cond.code yX4_run cX4_run 4 (some .int), Cond.methodLink RX4 80 yX4_runHour, Cond.instanceMethod yX4_runHour, Cond.selects RX4 yX4_runHour yX4_runHour]
def wsL_isSo_r10 : List Cond := [Cond.code yX4_runHour cX4_runHour 1 none, Cond.methodLink RX4 58 Lib.Math.min.name, Cond.methodLink RX4 83 yX4_goes, Cond.methodLink RX4 87 yX4_rateIn, Cond.methodLink RL 118 yX5_going, Cond.instanceMethod yX5_going, Cond.selects RX5 yX5_going yX5_going, Cond.code yX5_going cX5_going 2 (some .double)]
def wsL_isSo : List Cond := .code yL_isSo cL_isSo 7 (some .boolean) :: ((wsL_isSo_r1 ++ (wsL_isSo_r2 ++ (wsL_isSo_r3 ++ (wsL_isSo_r4 ++ (wsL_isSo_r5 ++ (wsL_isSo_r6 ++ (wsL_isSo_r7 ++ (wsL_isSo_r8 ++ (wsL_isSo_r9 ++ wsL_isSo_r10))))))))) ++ wsX50 ++ wsX30 ++ wsX10 ++ wsX40 ++ wsX20 ++ (vx_atS RX5 156 "java/lang/IllegalArgumentException" ["java/lang/RuntimeException", "java/lang/Exception"]).filter goodWord ++ (vx_atS RX5 127 "java/lang/IndexOutOfBoundsException" ["java/lang/RuntimeException", "java/lang/Exception"]).filter goodWord)
def wsL_act_r1 : List Cond := [Cond.methodLink RL 97 yL_low, Cond.static yL_low, Cond.initialized RL, Cond.code yL_low cL_low 2 (some .int), Cond.constant RL 8 (2147483647), Cond.methodLink RL 122 yL_wind, Cond.static yL_wind, Cond.codeWith yL_wind cL_wind 4 (some .int) [(0, 6, 9, 15)], Cond.classLink RL 15 "java/lang/IllegalArgumentException", Cond.methodLink RL 9 yX5_wind, Cond.instanceMethod yX5_wind, Cond.selects RX5 yX5_wind yX5_wind, Cond.initialized RX5, Cond.code yX5_wind cX5_wind 2 (some .int), Cond.fieldLink RX5 22 "WatchPoses" "saved" "LWatchPoses$SavedStates;", Cond.fieldLink RX5 10 "WatchPoses" "now" "LWatchPoses$State;", Cond.fieldLink RX5 52 "WatchPoses$State" "watch" "LWatchPoses$Watch;", Cond.fieldLink RX5 59 "WatchPoses$Watch" "hoursLeft" "I", Cond.methodLink RX5 44 yX5_demandRange, Cond.static yX5_demandRange, Cond.code yX5_demandRange cX5_demandRange 3 none, Cond.classLink RX5 152 "java/lang/IllegalArgumentException", Cond.initialized "java/lang/IllegalArgumentException", Cond.methodLink RX5 48 yX2_push]
def wsL_act_r2 : List Cond := [Cond.instanceMethod yX2_push, Cond.selects RX2 yX2_push yX2_push, Cond.initialized RX2, Cond.code yX2_push cX2_push 2 none, Cond.fieldLink RX2 11 "WatchPoses$SavedStates" "ring" "[LWatchPoses$State;", Cond.fieldLink RX2 15 "WatchPoses$SavedStates" "next" "I", Cond.fieldLink RX2 19 "WatchPoses$SavedStates" "size" "I", Cond.methodLink RX2 27 Lib.Math.min.name, Cond.static Lib.Math.min.name, Cond.initialized "java/lang/Math", Cond.code Lib.Math.min.name Lib.Math.min.code 2 (some .int), Cond.methodLink RX2 23 yX3_copyFrom, Cond.instanceMethod yX3_copyFrom, Cond.selects RX3 yX3_copyFrom yX3_copyFrom, Cond.initialized RX3, Cond.code yX3_copyFrom cX3_copyFrom 2 none, Cond.fieldLink RX3 12 "WatchPoses$State" "watch" "LWatchPoses$Watch;", Cond.fieldLink RX3 21 "WatchPoses$State" "paper" "LWatchPoses$Paper;", Cond.fieldLink RX3 34 "WatchPoses$State" "settings" "[I", Cond.methodLink RX3 114 arraycopyName, Cond.native arraycopyName, Cond.static arraycopyName, Cond.initialized "java/lang/System", Cond.fieldLink RX3 37 "WatchPoses$State" "readings" "I"]
def wsL_act_r3 : List Cond := [Cond.fieldLink RX3 41 "WatchPoses$State" "stopPart" "I", Cond.fieldLink RX3 44 "WatchPoses$State" "stopReason" "I", Cond.fieldLink RX3 47 "WatchPoses$State" "stopPose" "I", Cond.methodLink RX3 108 yX4_copyFrom, Cond.instanceMethod yX4_copyFrom, Cond.selects RX4 yX4_copyFrom yX4_copyFrom, Cond.initialized RX4, Cond.code yX4_copyFrom cX4_copyFrom 2 none, Cond.fieldLink RX4 20 "WatchPoses$Watch" "weights" "[I", Cond.methodLink RX4 90 arraycopyName, Cond.fieldLink RX4 23 "WatchPoses$Watch" "regulator" "I", Cond.fieldLink RX4 27 "WatchPoses$Watch" "stud" "I", Cond.fieldLink RX4 30 "WatchPoses$Watch" "hoursLeft" "I", Cond.fieldLink RX4 33 "WatchPoses$Watch" "magnetism" "I", Cond.fieldLink RX4 36 "WatchPoses$Watch" "dirt" "I", Cond.fieldLink RX4 39 "WatchPoses$Watch" "lies" "I", Cond.fieldLink RX4 42 "WatchPoses$Watch" "hour" "I", Cond.fieldLink RX4 45 "WatchPoses$Watch" "error" "I", Cond.fieldLink RX4 48 "WatchPoses$Watch" "stood" "I", Cond.fieldLink RX4 51 "WatchPoses$Watch" "went" "I", Cond.methodLink RX3 111 yX1_copyFrom, Cond.instanceMethod yX1_copyFrom, Cond.selects RX1 yX1_copyFrom yX1_copyFrom, Cond.initialized RX1]
def wsL_act_r4 : List Cond := [Cond.code yX1_copyFrom cX1_copyFrom 2 none, Cond.fieldLink RX1 11 "WatchPoses$Paper" "row" "[I", Cond.methodLink RX1 45 arraycopyName, Cond.fieldLink RX1 15 "WatchPoses$Paper" "length" "I", Cond.methodLink RX5 55 yX4_tighten, Cond.instanceMethod yX4_tighten, Cond.selects RX4 yX4_tighten yX4_tighten, Cond.code yX4_tighten cX4_tighten 2 none, Cond.methodLink RX4 58 Lib.Math.min.name, Cond.methodLink RL 88 yL_why, Cond.static yL_why, Cond.code yL_why cL_why 2 (some .int), Cond.methodLink RL 56 yL_swing, Cond.static yL_swing, Cond.code yL_swing cL_swing 3 (some .int), Cond.methodLink RL 66 yL_beat, Cond.static yL_beat, Cond.code yL_beat cL_beat 2 (some .int), Cond.methodLink RL 125 yL_read, Cond.static yL_read, Cond.codeWith yL_read cL_read 4 (some .int) [(0, 6, 9, 21), (0, 6, 13, 38)], Cond.classLink RL 21 "java/lang/IndexOutOfBoundsException", Cond.classLink RL 38 "java/lang/IllegalStateException", Cond.methodLink RL 35 yX5_read]
def wsL_act_r5 : List Cond := [Cond.instanceMethod yX5_read, Cond.selects RX5 yX5_read yX5_read, Cond.code yX5_read cX5_read 2 (some .int), Cond.classLink RX5 101 "java/lang/IllegalStateException", Cond.initialized "java/lang/IllegalStateException", Cond.methodLink RX5 63 yX5_demandPose, Cond.static yX5_demandPose, Cond.code yX5_demandPose cX5_demandPose 1 none, Cond.classLink RX5 123 "java/lang/IndexOutOfBoundsException", Cond.initialized "java/lang/IndexOutOfBoundsException", Cond.methodLink RX5 244 yX5_isPose, Cond.static yX5_isPose, Cond.code yX5_isPose cX5_isPose 1 (some .boolean), Cond.methodLink RX5 98 yX3_whyNoReading, Cond.instanceMethod yX3_whyNoReading, Cond.selects RX3 yX3_whyNoReading yX3_whyNoReading, Cond.code yX3_whyNoReading cX3_whyNoReading 2 (some .int), Cond.fieldLink RX3 50 "WatchPoses$Watch" "hoursLeft" "I", Cond.fieldLink RX3 60 "WatchPoses$Watch" "magnetism" "I", Cond.methodLink RX3 53 yX4_swingIn, Cond.instanceMethod yX4_swingIn, Cond.selects RX4 yX4_swingIn yX4_swingIn, Cond.code yX4_swingIn cX4_swingIn 3 (some .int), Cond.methodLink RX4 64 Lib.Math.max.name]
def wsL_act_r6 : List Cond := [Cond.static Lib.Math.max.name, Cond.code Lib.Math.max.name Lib.Math.max.code 2 (some .int), Cond.methodLink RX3 57 yX4_beatErrorIn, Cond.instanceMethod yX4_beatErrorIn, Cond.selects RX4 yX4_beatErrorIn yX4_beatErrorIn, Cond.code yX4_beatErrorIn cX4_beatErrorIn 3 (some .int), Cond.methodLink RX4 77 Lib.Math.abs.name, Cond.static Lib.Math.abs.name, Cond.code Lib.Math.abs.name Lib.Math.abs.code 1 (some .int), Cond.methodLink RX3 63 yX1_isFull, Cond.instanceMethod yX1_isFull, Cond.selects RX1 yX1_isFull yX1_isFull, Cond.code yX1_isFull cX1_isFull 1 (some .boolean), Cond.methodLink RX5 108 yX3_makeReading, Cond.instanceMethod yX3_makeReading, Cond.selects RX3 yX3_makeReading yX3_makeReading, Cond.code yX3_makeReading cX3_makeReading 2 none, Cond.fieldLink RX3 67 "WatchPoses$Watch" "lies" "I", Cond.methodLink RX3 70 yX1_print, Cond.instanceMethod yX1_print, Cond.selects RX1 yX1_print yX1_print, Cond.code yX1_print cX1_print 3 none, Cond.fieldLink RX1 23 "WatchPoses$Watch" "hour" "I", Cond.fieldLink RX1 28 "WatchPoses$Watch" "lies" "I"]
def wsL_act_r7 : List Cond := [Cond.methodLink RX1 19 yX1_isFull, Cond.methodLink RX1 31 yX4_rateIn, Cond.instanceMethod yX4_rateIn, Cond.selects RX4 yX4_rateIn yX4_rateIn, Cond.code yX4_rateIn cX4_rateIn 4 (some .int), Cond.methodLink RX4 67 yX4_swingIn, Cond.methodLink RX4 71 yX4_weightOf, Cond.instanceMethod yX4_weightOf, Cond.selects RX4 yX4_weightOf yX4_weightOf, Cond.code yX4_weightOf cX4_weightOf 2 (some .int), Cond.methodLink RX4 74 yJ9_floorDiv_7cf53, Cond.static yJ9_floorDiv_7cf53, Cond.initialized RJ9, Cond.code yJ9_floorDiv_7cf53 cJ9_floorDiv_7cf53 3 (some .int), Cond.methodLink RX1 35 yX4_beatErrorIn, Cond.methodLink RX1 38 yX4_swingIn, Cond.methodLink RX5 111 yX4_rateIn, Cond.methodLink RL 73 yL_rate, Cond.static yL_rate, Cond.code yL_rate cL_rate 3 (some .int), Cond.methodLink RL 63 yL_down, Cond.static yL_down, Cond.code yL_down cL_down 3 (some .int), Cond.constant RL 62 (100000)]
def wsL_act_r8 : List Cond := [Cond.methodLink RL 100 yL_hours, Cond.static yL_hours, Cond.code yL_hours cL_hours 4 (some .int), Cond.methodLink RL 76 yL_hour, Cond.static yL_hour, Cond.code yL_hour cL_hour 1 none, Cond.methodLink RL 69 yL_goes, Cond.static yL_goes, Cond.code yL_goes cL_goes 2 (some .boolean), Cond.methodLink RL 127 yL_pass, Cond.static yL_pass, Cond.codeWith yL_pass cL_pass 4 (some .int) [(0, 6, 9, 15)], Cond.methodLink RL 32 yX5_pass, Cond.instanceMethod yX5_pass, Cond.selects RX5 yX5_pass yX5_pass, Cond.code yX5_pass cX5_pass 2 (some .int), Cond.methodLink RX5 95 yX4_run, Cond.instanceMethod yX4_run, Cond.selects RX4 yX4_run yX4_run, Cond.code yX4_run cX4_run 4 (some .int), Cond.methodLink RX4 80 yX4_runHour, Cond.instanceMethod yX4_runHour, Cond.selects RX4 yX4_runHour yX4_runHour, Cond.code yX4_runHour cX4_runHour 1 none]
def wsL_act_r9 : List Cond := [Cond.methodLink RX4 83 yX4_goes, Cond.instanceMethod yX4_goes, Cond.selects RX4 yX4_goes yX4_goes, Cond.code yX4_goes cX4_goes 1 (some .boolean), Cond.methodLink RX4 87 yX4_rateIn, Cond.methodLink RL 129 yL_weigh, Cond.static yL_weigh, Cond.codeWith yL_weigh cL_weigh 5 (some .int) [(0, 7, 10, 21), (0, 7, 15, 15)], Cond.methodLink RL 17 yX5_weigh, Cond.instanceMethod yX5_weigh, Cond.selects RX5 yX5_weigh yX5_weigh, Cond.code yX5_weigh cX5_weigh 4 (some .int), Cond.methodLink RX5 66 yX4_weightOf, Cond.methodLink RX5 70 yX4_putWeight, Cond.instanceMethod yX4_putWeight, Cond.selects RX4 yX4_putWeight yX4_putWeight, Cond.code yX4_putWeight cX4_putWeight 3 none, Cond.methodLink RL 132 yL_adjust, Cond.static yL_adjust, Cond.codeWith yL_adjust cL_adjust 5 (some .int) [(0, 7, 10, 15)], Cond.methodLink RL 23 yX5_adjust, Cond.instanceMethod yX5_adjust, Cond.selects RX5 yX5_adjust yX5_adjust, Cond.code yX5_adjust cX5_adjust 4 (some .int)]
def wsL_act_r10 : List Cond := [Cond.fieldLink RX5 74 "WatchPoses$Watch" "regulator" "I", Cond.fieldLink RX5 77 "WatchPoses$Watch" "stud" "I", Cond.methodLink RL 134 yL_magnetise, Cond.static yL_magnetise, Cond.codeWith yL_magnetise cL_magnetise 4 (some .int) [(0, 6, 9, 15)], Cond.methodLink RL 26 yX5_magnetise, Cond.instanceMethod yX5_magnetise, Cond.selects RX5 yX5_magnetise yX5_magnetise, Cond.code yX5_magnetise cX5_magnetise 2 (some .int), Cond.fieldLink RX5 80 "WatchPoses$Watch" "magnetism" "I", Cond.methodLink RX5 83 Lib.Math.min.name, Cond.methodLink RL 136 yX5_demagnetise, Cond.instanceMethod yX5_demagnetise, Cond.selects RX5 yX5_demagnetise yX5_demagnetise, Cond.code yX5_demagnetise cX5_demagnetise 2 (some .int), Cond.methodLink RL 139 yX5_clean, Cond.instanceMethod yX5_clean, Cond.selects RX5 yX5_clean yX5_clean, Cond.code yX5_clean cX5_clean 2 (some .int), Cond.fieldLink RX5 89 "WatchPoses$Watch" "dirt" "I", Cond.methodLink RL 142 yL_lay, Cond.static yL_lay, Cond.codeWith yL_lay cL_lay 4 (some .int) [(0, 6, 9, 21)], Cond.methodLink RL 29 yX5_lay]
def wsL_act_r11 : List Cond := [Cond.instanceMethod yX5_lay, Cond.selects RX5 yX5_lay yX5_lay, Cond.code yX5_lay cX5_lay 3 (some .int), Cond.fieldLink RX5 92 "WatchPoses$Watch" "lies" "I", Cond.methodLink RL 144 yX5_renew, Cond.instanceMethod yX5_renew, Cond.selects RX5 yX5_renew yX5_renew, Cond.code yX5_renew cX5_renew 2 (some .int), Cond.fieldLink RX5 114 "WatchPoses$State" "paper" "LWatchPoses$Paper;", Cond.fieldLink RX5 118 "WatchPoses$Paper" "length" "I", Cond.methodLink RL 147 yL_set, Cond.static yL_set, Cond.codeWith yL_set cL_set 5 (some .int) [(0, 7, 10, 21), (0, 7, 15, 15)], Cond.methodLink RL 40 yX5_set, Cond.instanceMethod yX5_set, Cond.selects RX5 yX5_set yX5_set, Cond.code yX5_set cX5_set 4 (some .int), Cond.fieldLink RX5 128 "WatchPoses$State" "LEAST_SETTINGS" "[I", Cond.fieldLink RX5 132 "WatchPoses$State" "MOST_SETTINGS" "[I", Cond.fieldLink RX5 135 "WatchPoses$State" "settings" "[I"]
def wsL_act : List Cond := .code yL_act cL_act 10 (some .boolean) :: ((wsL_act_r1 ++ (wsL_act_r2 ++ (wsL_act_r3 ++ (wsL_act_r4 ++ (wsL_act_r5 ++ (wsL_act_r6 ++ (wsL_act_r7 ++ (wsL_act_r8 ++ (wsL_act_r9 ++ (wsL_act_r10 ++ wsL_act_r11)))))))))) ++ wsX50 ++ wsX30 ++ wsX40 ++ wsX20 ++ wsX10 ++ (vx_atS RX5 156 "java/lang/IllegalArgumentException" ["java/lang/RuntimeException", "java/lang/Exception"]).filter goodWord ++ (vx_atS RX5 105 "java/lang/IllegalStateException" ["java/lang/RuntimeException", "java/lang/Exception"]).filter goodWord ++ (vx_atS RX5 127 "java/lang/IndexOutOfBoundsException" ["java/lang/RuntimeException", "java/lang/Exception"]).filter goodWord)
def wsL_law0_r1 : List Cond := [Cond.classLink RL 10 RX5, Cond.instantiable RX5 6, Cond.initialized RX5, Cond.arrayClass .int, Cond.methodLink RL 149 yX5_init, Cond.instanceMethod yX5_init, Cond.code yX5_init cX5_init 1 none, Cond.methodLink RX5 1 objectInit, Cond.instanceMethod objectInit, Cond.code objectInit ⟨#[0xb1]⟩ 1 none, Cond.classLink RX5 7 RX3, Cond.instantiable RX3 7, Cond.initialized RX3, Cond.fieldLink RX5 10 "WatchPoses" "now" "LWatchPoses$State;", Cond.fieldLink RX5 16 "WatchPoses" "snapshot" "LWatchPoses$State;", Cond.classLink RX5 19 RX2, Cond.instantiable RX2 3, Cond.initialized RX2, Cond.fieldLink RX5 22 "WatchPoses" "saved" "LWatchPoses$SavedStates;", Cond.classLink RX5 26 RX0, Cond.instantiable RX0 9, Cond.initialized RX0, Cond.fieldLink RX5 29 "WatchPoses" "text" "LWatchPoses$OrderText;", Cond.classLink RX5 33 RX4]
def wsL_law0_r2 : List Cond := [Cond.instantiable RX4 11, Cond.initialized RX4, Cond.fieldLink RX5 36 "WatchPoses" "trial" "LWatchPoses$Watch;", Cond.fieldLink RX5 40 "WatchPoses" "hasSnapshot" "Z", Cond.instanceMethod yX3_init, Cond.code yX3_init cX3_init 1 none, Cond.methodLink RX3 3 objectInit, Cond.classLink RX3 9 RX4, Cond.fieldLink RX3 12 "WatchPoses$State" "watch" "LWatchPoses$Watch;", Cond.classLink RX3 18 RX1, Cond.instantiable RX1 2, Cond.initialized RX1, Cond.fieldLink RX3 21 "WatchPoses$State" "paper" "LWatchPoses$Paper;", Cond.fieldLink RX3 25 "WatchPoses$State" "FIRST_SETTINGS" "[I", Cond.methodLink RX3 29 ⟨"[I", "clone", "()Ljava/lang/Object;"⟩, Cond.sameMethod "[I" "java/lang/Object" "clone" "()Ljava/lang/Object;", Cond.native ⟨"java/lang/Object", "clone", "()Ljava/lang/Object;"⟩, Cond.instanceMethod ⟨"java/lang/Object", "clone", "()Ljava/lang/Object;"⟩, Cond.selects "[I" ⟨"[I", "clone", "()Ljava/lang/Object;"⟩ ⟨"java/lang/Object", "clone", "()Ljava/lang/Object;"⟩, Cond.classLink RX3 30 "[I", Cond.fieldLink RX3 34 "WatchPoses$State" "settings" "[I", Cond.fieldLink RX3 37 "WatchPoses$State" "readings" "I", Cond.fieldLink RX3 41 "WatchPoses$State" "stopPart" "I", Cond.fieldLink RX3 44 "WatchPoses$State" "stopReason" "I"]
def wsL_law0_r3 : List Cond := [Cond.fieldLink RX3 47 "WatchPoses$State" "stopPose" "I", Cond.instanceMethod yX4_init, Cond.code yX4_init cX4_init 1 none, Cond.methodLink RX4 3 objectInit, Cond.fieldLink RX4 9 "WatchPoses$Watch" "FIRST_WEIGHTS" "[I", Cond.methodLink RX4 15 ⟨"[I", "clone", "()Ljava/lang/Object;"⟩, Cond.classLink RX4 16 "[I", Cond.fieldLink RX4 20 "WatchPoses$Watch" "weights" "[I", Cond.fieldLink RX4 23 "WatchPoses$Watch" "regulator" "I", Cond.fieldLink RX4 27 "WatchPoses$Watch" "stud" "I", Cond.fieldLink RX4 30 "WatchPoses$Watch" "hoursLeft" "I", Cond.fieldLink RX4 33 "WatchPoses$Watch" "magnetism" "I", Cond.fieldLink RX4 36 "WatchPoses$Watch" "dirt" "I", Cond.fieldLink RX4 39 "WatchPoses$Watch" "lies" "I", Cond.fieldLink RX4 42 "WatchPoses$Watch" "hour" "I", Cond.fieldLink RX4 45 "WatchPoses$Watch" "error" "I", Cond.fieldLink RX4 48 "WatchPoses$Watch" "stood" "I", Cond.fieldLink RX4 51 "WatchPoses$Watch" "went" "I", Cond.instanceMethod yX1_init, Cond.code yX1_init cX1_init 1 none, Cond.methodLink RX1 3 objectInit, Cond.fieldLink RX1 11 "WatchPoses$Paper" "row" "[I", Cond.fieldLink RX1 15 "WatchPoses$Paper" "length" "I", Cond.methodLink RX5 21 yX2_init]
def wsL_law0_r4 : List Cond := [Cond.instanceMethod yX2_init, Cond.code yX2_init cX2_init 2 none, Cond.methodLink RX2 1 objectInit, Cond.classLink RX2 9 RX3, Cond.fieldLink RX2 11 "WatchPoses$SavedStates" "ring" "[LWatchPoses$State;", Cond.fieldLink RX2 15 "WatchPoses$SavedStates" "next" "I", Cond.fieldLink RX2 19 "WatchPoses$SavedStates" "size" "I", Cond.instanceMethod yX0_init, Cond.code yX0_init cX0_init 1 none, Cond.methodLink RX0 3 objectInit, Cond.fieldLink RX0 11 "WatchPoses$OrderText" "codes" "[I", Cond.fieldLink RX0 15 "WatchPoses$OrderText" "length" "I", Cond.fieldLink RX0 19 "WatchPoses$OrderText" "kinds" "[I", Cond.fieldLink RX0 22 "WatchPoses$OrderText" "numbers" "[I", Cond.fieldLink RX0 25 "WatchPoses$OrderText" "parts" "I", Cond.fieldLink RX0 28 "WatchPoses$OrderText" "kind" "I", Cond.fieldLink RX0 31 "WatchPoses$OrderText" "negative" "Z", Cond.fieldLink RX0 35 "WatchPoses$OrderText" "digits" "I", Cond.fieldLink RX0 38 "WatchPoses$OrderText" "value" "I", Cond.methodLink RL 150 yL_isSo, Cond.static yL_isSo, Cond.initialized RL, Cond.code yL_isSo cL_isSo 7 (some .boolean), Cond.constant RL 113 (1000000)]
def wsL_law0_r5 : List Cond := [Cond.methodLink RL 53 yX5_reading, Cond.instanceMethod yX5_reading, Cond.selects RX5 yX5_reading yX5_reading, Cond.code yX5_reading cX5_reading 3 (some .int), Cond.classLink RX5 152 "java/lang/IllegalArgumentException", Cond.initialized "java/lang/IllegalArgumentException", Cond.methodLink RX5 44 yX5_demandRange, Cond.static yX5_demandRange, Cond.code yX5_demandRange cX5_demandRange 3 none, Cond.methodLink RX5 191 yX5_readingNumber, Cond.instanceMethod yX5_readingNumber, Cond.selects RX5 yX5_readingNumber yX5_readingNumber, Cond.code yX5_readingNumber cX5_readingNumber 4 (some .int), Cond.fieldLink RX5 114 "WatchPoses$State" "paper" "LWatchPoses$Paper;", Cond.fieldLink RX5 118 "WatchPoses$Paper" "length" "I", Cond.methodLink RX5 273 yX1_number, Cond.instanceMethod yX1_number, Cond.selects RX1 yX1_number yX1_number, Cond.code yX1_number cX1_number 3 (some .int), Cond.methodLink RL 94 yX5_count, Cond.instanceMethod yX5_count, Cond.selects RX5 yX5_count yX5_count, Cond.code yX5_count cX5_count 2 (some .int), Cond.methodLink RX5 194 yX5_countNumber]
def wsL_law0_r6 : List Cond := [Cond.instanceMethod yX5_countNumber, Cond.selects RX5 yX5_countNumber yX5_countNumber, Cond.code yX5_countNumber cX5_countNumber 3 (some .int), Cond.fieldLink RX5 52 "WatchPoses$State" "watch" "LWatchPoses$Watch;", Cond.fieldLink RX5 181 "WatchPoses$Watch" "hour" "I", Cond.fieldLink RX5 59 "WatchPoses$Watch" "hoursLeft" "I", Cond.fieldLink RX5 74 "WatchPoses$Watch" "regulator" "I", Cond.fieldLink RX5 77 "WatchPoses$Watch" "stud" "I", Cond.fieldLink RX5 80 "WatchPoses$Watch" "magnetism" "I", Cond.fieldLink RX5 89 "WatchPoses$Watch" "dirt" "I", Cond.fieldLink RX5 92 "WatchPoses$Watch" "lies" "I", Cond.fieldLink RX5 211 "WatchPoses$Watch" "error" "I", Cond.constant RX5 282 (1000000), Cond.fieldLink RX5 283 "WatchPoses$Watch" "stood" "I", Cond.fieldLink RX5 286 "WatchPoses$State" "readings" "I", Cond.fieldLink RX5 214 "WatchPoses$Watch" "went" "I", Cond.fieldLink RX5 135 "WatchPoses$State" "settings" "[I", Cond.fieldLink RX5 170 "WatchPoses$SavedStates" "size" "I", Cond.methodLink RX5 279 yX4_goes, Cond.instanceMethod yX4_goes, Cond.selects RX4 yX4_goes yX4_goes, Cond.code yX4_goes cX4_goes 1 (some .boolean), Cond.methodLink RX4 67 yX4_swingIn, Cond.instanceMethod yX4_swingIn]
def wsL_law0_r7 : List Cond := [Cond.selects RX4 yX4_swingIn yX4_swingIn, Cond.code yX4_swingIn cX4_swingIn 3 (some .int), Cond.methodLink RX4 64 Lib.Math.max.name, Cond.static Lib.Math.max.name, Cond.initialized "java/lang/Math", Cond.code Lib.Math.max.name Lib.Math.max.code 2 (some .int), Cond.methodLink RX5 289 yX3_dayRateByPoses, Cond.instanceMethod yX3_dayRateByPoses, Cond.selects RX3 yX3_dayRateByPoses yX3_dayRateByPoses, Cond.code yX3_dayRateByPoses cX3_dayRateByPoses 3 (some .int), Cond.methodLink RX3 94 yX3_whyNoDayRate, Cond.instanceMethod yX3_whyNoDayRate, Cond.selects RX3 yX3_whyNoDayRate yX3_whyNoDayRate, Cond.code yX3_whyNoDayRate cX3_whyNoDayRate 7 (some .int), Cond.constant RX3 74 (2000000000), Cond.constant RX3 75 (-2000000000), Cond.methodLink RX3 83 Lib.Math.min.name, Cond.static Lib.Math.min.name, Cond.code Lib.Math.min.name Lib.Math.min.code 2 (some .int), Cond.methodLink RX3 88 Lib.Math.max.name, Cond.fieldLink RX3 91 "WatchPoses$Watch" "hour" "I", Cond.methodLink RX3 76 yX1_latestIn, Cond.instanceMethod yX1_latestIn, Cond.selects RX1 yX1_latestIn yX1_latestIn]
def wsL_law0_r8 : List Cond := [Cond.code yX1_latestIn cX1_latestIn 3 (some .int), Cond.methodLink RX1 41 yX1_number, Cond.methodLink RX3 79 yX1_number, Cond.methodLink RX3 98 yJ9_floorDiv_7cf53, Cond.static yJ9_floorDiv_7cf53, Cond.initialized RJ9, Cond.code yJ9_floorDiv_7cf53 cJ9_floorDiv_7cf53 3 (some .int), Cond.methodLink RX5 292 yX3_dayRateByPaper, Cond.instanceMethod yX3_dayRateByPaper, Cond.selects RX3 yX3_dayRateByPaper yX3_dayRateByPaper, Cond.code yX3_dayRateByPaper cX3_dayRateByPaper 9 (some .int), Cond.fieldLink RX3 101 "WatchPoses$Paper" "length" "I", Cond.methodLink RX5 295 yX3_whyNoDayRate, Cond.methodLink RL 69 yL_goes, Cond.static yL_goes, Cond.code yL_goes cL_goes 2 (some .boolean), Cond.methodLink RL 56 yL_swing, Cond.static yL_swing, Cond.code yL_swing cL_swing 3 (some .int), Cond.methodLink RL 114 yL_arePoses, Cond.static yL_arePoses, Cond.code yL_arePoses cL_arePoses 14 (some .boolean), Cond.methodLink RL 80 yL_latest, Cond.static yL_latest]
def wsL_law0_r9 : List Cond := [Cond.code yL_latest cL_latest 4 (some .int), Cond.methodLink RL 84 yL_copy, Cond.static yL_copy, Cond.code yL_copy cL_copy 3 none, Cond.methodLink RL 76 yL_hour, Cond.static yL_hour, Cond.code yL_hour cL_hour 1 none, Cond.methodLink RL 73 yL_rate, Cond.static yL_rate, Cond.code yL_rate cL_rate 3 (some .int), Cond.methodLink RL 63 yL_down, Cond.static yL_down, Cond.code yL_down cL_down 3 (some .int), Cond.constant RL 62 (100000), Cond.methodLink RL 50 yX5_pose, Cond.instanceMethod yX5_pose, Cond.selects RX5 yX5_pose yX5_pose, Cond.code yX5_pose cX5_pose 3 (some .int), Cond.methodLink RX5 63 yX5_demandPose, Cond.static yX5_demandPose, Cond.code yX5_demandPose cX5_demandPose 1 none, Cond.classLink RX5 123 "java/lang/IndexOutOfBoundsException", Cond.initialized "java/lang/IndexOutOfBoundsException", Cond.methodLink RX5 244 yX5_isPose]
def wsL_law0_r10 : List Cond := [Cond.static yX5_isPose, Cond.code yX5_isPose cX5_isPose 1 (some .boolean), Cond.methodLink RX5 186 yX5_poseNumber, Cond.instanceMethod yX5_poseNumber, Cond.selects RX5 yX5_poseNumber yX5_poseNumber, Cond.code yX5_poseNumber cX5_poseNumber 4 (some .int), Cond.methodLink RX5 264 yX1_latestIn, Cond.methodLink RX5 66 yX4_weightOf, Cond.instanceMethod yX4_weightOf, Cond.selects RX4 yX4_weightOf yX4_weightOf, Cond.code yX4_weightOf cX4_weightOf 2 (some .int), Cond.methodLink RX5 267 yX4_swingIn, Cond.methodLink RX5 111 yX4_rateIn, Cond.instanceMethod yX4_rateIn, Cond.selects RX4 yX4_rateIn yX4_rateIn, Cond.code yX4_rateIn cX4_rateIn 4 (some .int), Cond.methodLink RX4 71 yX4_weightOf, Cond.methodLink RX4 74 yJ9_floorDiv_7cf53, Cond.methodLink RX5 270 yX4_beatErrorIn, Cond.instanceMethod yX4_beatErrorIn, Cond.selects RX4 yX4_beatErrorIn yX4_beatErrorIn, Cond.code yX4_beatErrorIn cX4_beatErrorIn 3 (some .int), Cond.methodLink RX4 77 Lib.Math.abs.name, Cond.static Lib.Math.abs.name]
def wsL_law0_r11 : List Cond := [Cond.code Lib.Math.abs.name Lib.Math.abs.code 1 (some .int), Cond.methodLink RX5 98 yX3_whyNoReading, Cond.instanceMethod yX3_whyNoReading, Cond.selects RX3 yX3_whyNoReading yX3_whyNoReading, Cond.code yX3_whyNoReading cX3_whyNoReading 2 (some .int), Cond.fieldLink RX3 50 "WatchPoses$Watch" "hoursLeft" "I", Cond.fieldLink RX3 60 "WatchPoses$Watch" "magnetism" "I", Cond.methodLink RX3 53 yX4_swingIn, Cond.methodLink RX3 57 yX4_beatErrorIn, Cond.methodLink RX3 63 yX1_isFull, Cond.instanceMethod yX1_isFull, Cond.selects RX1 yX1_isFull yX1_isFull, Cond.code yX1_isFull cX1_isFull 1 (some .boolean), Cond.methodLink RX5 276 yX1_readingsIn, Cond.instanceMethod yX1_readingsIn, Cond.selects RX1 yX1_readingsIn yX1_readingsIn, Cond.code yX1_readingsIn cX1_readingsIn 4 (some .int), Cond.methodLink RL 66 yL_beat, Cond.static yL_beat, Cond.code yL_beat cL_beat 2 (some .int), Cond.methodLink RL 88 yL_why, Cond.static yL_why, Cond.code yL_why cL_why 2 (some .int), Cond.methodLink RL 91 yX5_stopsIn]
def wsL_law0_r12 : List Cond := [Cond.instanceMethod yX5_stopsIn, Cond.selects RX5 yX5_stopsIn yX5_stopsIn, Cond.code yX5_stopsIn cX5_stopsIn 2 (some .int), Cond.methodLink RX5 204 yX5_hoursUntilStop, Cond.instanceMethod yX5_hoursUntilStop, Cond.selects RX5 yX5_hoursUntilStop yX5_hoursUntilStop, Cond.code yX5_hoursUntilStop cX5_hoursUntilStop 2 (some .int), Cond.methodLink RX5 208 yX4_copyFrom, Cond.instanceMethod yX4_copyFrom, Cond.selects RX4 yX4_copyFrom yX4_copyFrom, Cond.code yX4_copyFrom cX4_copyFrom 2 none, Cond.methodLink RX4 90 arraycopyName, Cond.native arraycopyName, Cond.static arraycopyName, Cond.initialized "java/lang/System", Cond.methodLink RX5 95 yX4_run, Cond.instanceMethod yX4_run, Cond.selects RX4 yX4_run yX4_run, Cond.code yX4_run cX4_run 4 (some .int), Cond.methodLink RX4 80 yX4_runHour, Cond.instanceMethod yX4_runHour, Cond.selects RX4 yX4_runHour yX4_runHour, Cond.code yX4_runHour cX4_runHour 1 none, Cond.methodLink RX4 58 Lib.Math.min.name]
def wsL_law0_r13 : List Cond := [Cond.methodLink RX4 83 yX4_goes, Cond.methodLink RX4 87 yX4_rateIn, Cond.methodLink RL 118 yX5_going, Cond.instanceMethod yX5_going, Cond.selects RX5 yX5_going yX5_going, Cond.code yX5_going cX5_going 2 (some .double), Cond.methodLink RL 154 yL_isAhead, Cond.static yL_isAhead, Cond.code yL_isAhead cL_isAhead 15 (some .boolean), Cond.methodLink RL 97 yL_low, Cond.static yL_low, Cond.code yL_low cL_low 2 (some .int), Cond.constant RL 8 (2147483647), Cond.methodLink RL 100 yL_hours, Cond.static yL_hours, Cond.code yL_hours cL_hours 4 (some .int), Cond.methodLink RL 103 yX5_ifWorn, Cond.instanceMethod yX5_ifWorn, Cond.selects RX5 yX5_ifWorn yX5_ifWorn, Cond.code yX5_ifWorn cX5_ifWorn 5 (some .int), Cond.methodLink RX5 197 yX5_wornNumber, Cond.instanceMethod yX5_wornNumber, Cond.selects RX5 yX5_wornNumber yX5_wornNumber, Cond.code yX5_wornNumber cX5_wornNumber 6 (some .int)]
def wsL_law0_r14 : List Cond := [Cond.constant RX5 298 (100000), Cond.methodLink RL 107 yX5_nightPose, Cond.instanceMethod yX5_nightPose, Cond.selects RX5 yX5_nightPose yX5_nightPose, Cond.code yX5_nightPose cX5_nightPose 4 (some .int), Cond.constant RX5 207 (2000000000), Cond.methodLink RX5 201 Lib.Math.abs.name, Cond.methodLink RL 110 yX5_bestRegulator, Cond.instanceMethod yX5_bestRegulator, Cond.selects RX5 yX5_bestRegulator yX5_bestRegulator, Cond.code yX5_bestRegulator cX5_bestRegulator 4 (some .int), Cond.methodLink RL 158 yL_undo, Cond.static yL_undo, Cond.codeWith yL_undo cL_undo 3 (some .int) [(0, 5, 8, 38)], Cond.classLink RL 38 "java/lang/IllegalStateException", Cond.methodLink RL 43 yX5_undo, Cond.instanceMethod yX5_undo, Cond.selects RX5 yX5_undo yX5_undo, Cond.code yX5_undo cX5_undo 1 (some .int), Cond.classLink RX5 101 "java/lang/IllegalStateException", Cond.initialized "java/lang/IllegalStateException", Cond.methodLink RX5 175 yX2_popInto, Cond.instanceMethod yX2_popInto, Cond.selects RX2 yX2_popInto yX2_popInto]
def wsL_law0_r15 : List Cond := [Cond.code yX2_popInto cX2_popInto 2 none, Cond.methodLink RX2 23 yX3_copyFrom, Cond.instanceMethod yX3_copyFrom, Cond.selects RX3 yX3_copyFrom yX3_copyFrom, Cond.code yX3_copyFrom cX3_copyFrom 2 none, Cond.methodLink RX3 114 arraycopyName, Cond.methodLink RX3 108 yX4_copyFrom, Cond.methodLink RX3 111 yX1_copyFrom, Cond.instanceMethod yX1_copyFrom, Cond.selects RX1 yX1_copyFrom yX1_copyFrom, Cond.code yX1_copyFrom cX1_copyFrom 2 none, Cond.methodLink RX1 45 arraycopyName, Cond.methodLink RL 161 yL_restore, Cond.static yL_restore, Cond.codeWith yL_restore cL_restore 3 (some .int) [(0, 5, 8, 38)], Cond.methodLink RL 47 yX5_restore, Cond.instanceMethod yX5_restore, Cond.selects RX5 yX5_restore yX5_restore, Cond.code yX5_restore cX5_restore 1 (some .int), Cond.methodLink RX5 48 yX2_push, Cond.instanceMethod yX2_push, Cond.selects RX2 yX2_push yX2_push, Cond.code yX2_push cX2_push 2 none, Cond.methodLink RX2 27 Lib.Math.min.name]
def wsL_law0_r16 : List Cond := [Cond.methodLink RX5 178 yX3_copyFrom, Cond.methodLink RL 163 yL_pose, Cond.static yL_pose, Cond.codeWith yL_pose cL_pose 5 (some .int) [(0, 7, 10, 21), (0, 7, 15, 15)], Cond.classLink RL 21 "java/lang/IndexOutOfBoundsException", Cond.classLink RL 15 "java/lang/IllegalArgumentException", Cond.methodLink RL 165 yL_reading, Cond.static yL_reading, Cond.codeWith yL_reading cL_reading 5 (some .int) [(0, 7, 10, 15)], Cond.methodLink RL 167 yL_cell, Cond.static yL_cell, Cond.code yL_cell cL_cell 2 (some .int), Cond.constant RL 7 (1013904243), Cond.methodLink RL 170 yL_act, Cond.static yL_act, Cond.code yL_act cL_act 10 (some .boolean), Cond.methodLink RL 122 yL_wind, Cond.static yL_wind, Cond.codeWith yL_wind cL_wind 4 (some .int) [(0, 6, 9, 15)], Cond.methodLink RL 9 yX5_wind, Cond.instanceMethod yX5_wind, Cond.selects RX5 yX5_wind yX5_wind, Cond.code yX5_wind cX5_wind 2 (some .int), Cond.methodLink RX5 55 yX4_tighten]
def wsL_law0_r17 : List Cond := [Cond.instanceMethod yX4_tighten, Cond.selects RX4 yX4_tighten yX4_tighten, Cond.code yX4_tighten cX4_tighten 2 none, Cond.methodLink RL 125 yL_read, Cond.static yL_read, Cond.codeWith yL_read cL_read 4 (some .int) [(0, 6, 9, 21), (0, 6, 13, 38)], Cond.methodLink RL 35 yX5_read, Cond.instanceMethod yX5_read, Cond.selects RX5 yX5_read yX5_read, Cond.code yX5_read cX5_read 2 (some .int), Cond.methodLink RX5 108 yX3_makeReading, Cond.instanceMethod yX3_makeReading, Cond.selects RX3 yX3_makeReading yX3_makeReading, Cond.code yX3_makeReading cX3_makeReading 2 none, Cond.fieldLink RX3 67 "WatchPoses$Watch" "lies" "I", Cond.methodLink RX3 70 yX1_print, Cond.instanceMethod yX1_print, Cond.selects RX1 yX1_print yX1_print, Cond.code yX1_print cX1_print 3 none, Cond.fieldLink RX1 23 "WatchPoses$Watch" "hour" "I", Cond.fieldLink RX1 28 "WatchPoses$Watch" "lies" "I", Cond.methodLink RX1 19 yX1_isFull, Cond.methodLink RX1 31 yX4_rateIn, Cond.methodLink RX1 35 yX4_beatErrorIn]
def wsL_law0_r18 : List Cond := [Cond.methodLink RX1 38 yX4_swingIn, Cond.methodLink RL 127 yL_pass, Cond.static yL_pass, Cond.codeWith yL_pass cL_pass 4 (some .int) [(0, 6, 9, 15)], Cond.methodLink RL 32 yX5_pass, Cond.instanceMethod yX5_pass, Cond.selects RX5 yX5_pass yX5_pass, Cond.code yX5_pass cX5_pass 2 (some .int), Cond.methodLink RL 129 yL_weigh, Cond.static yL_weigh, Cond.codeWith yL_weigh cL_weigh 5 (some .int) [(0, 7, 10, 21), (0, 7, 15, 15)], Cond.methodLink RL 17 yX5_weigh, Cond.instanceMethod yX5_weigh, Cond.selects RX5 yX5_weigh yX5_weigh, Cond.code yX5_weigh cX5_weigh 4 (some .int), Cond.methodLink RX5 70 yX4_putWeight, Cond.instanceMethod yX4_putWeight, Cond.selects RX4 yX4_putWeight yX4_putWeight, Cond.code yX4_putWeight cX4_putWeight 3 none, Cond.methodLink RL 132 yL_adjust, Cond.static yL_adjust, Cond.codeWith yL_adjust cL_adjust 5 (some .int) [(0, 7, 10, 15)], Cond.methodLink RL 23 yX5_adjust, Cond.instanceMethod yX5_adjust]
def wsL_law0_r19 : List Cond := [Cond.selects RX5 yX5_adjust yX5_adjust, Cond.code yX5_adjust cX5_adjust 4 (some .int), Cond.methodLink RL 134 yL_magnetise, Cond.static yL_magnetise, Cond.codeWith yL_magnetise cL_magnetise 4 (some .int) [(0, 6, 9, 15)], Cond.methodLink RL 26 yX5_magnetise, Cond.instanceMethod yX5_magnetise, Cond.selects RX5 yX5_magnetise yX5_magnetise, Cond.code yX5_magnetise cX5_magnetise 2 (some .int), Cond.methodLink RX5 83 Lib.Math.min.name, Cond.methodLink RL 136 yX5_demagnetise, Cond.instanceMethod yX5_demagnetise, Cond.selects RX5 yX5_demagnetise yX5_demagnetise, Cond.code yX5_demagnetise cX5_demagnetise 2 (some .int), Cond.methodLink RL 139 yX5_clean, Cond.instanceMethod yX5_clean, Cond.selects RX5 yX5_clean yX5_clean, Cond.code yX5_clean cX5_clean 2 (some .int), Cond.methodLink RL 142 yL_lay, Cond.static yL_lay, Cond.codeWith yL_lay cL_lay 4 (some .int) [(0, 6, 9, 21)], Cond.methodLink RL 29 yX5_lay, Cond.instanceMethod yX5_lay, Cond.selects RX5 yX5_lay yX5_lay]
def wsL_law0_r20 : List Cond := [Cond.code yX5_lay cX5_lay 3 (some .int), Cond.methodLink RL 144 yX5_renew, Cond.instanceMethod yX5_renew, Cond.selects RX5 yX5_renew yX5_renew, Cond.code yX5_renew cX5_renew 2 (some .int), Cond.methodLink RL 147 yL_set, Cond.static yL_set, Cond.codeWith yL_set cL_set 5 (some .int) [(0, 7, 10, 21), (0, 7, 15, 15)], Cond.methodLink RL 40 yX5_set, Cond.instanceMethod yX5_set, Cond.selects RX5 yX5_set yX5_set, Cond.code yX5_set cX5_set 4 (some .int), Cond.fieldLink RX5 128 "WatchPoses$State" "LEAST_SETTINGS" "[I", Cond.fieldLink RX5 132 "WatchPoses$State" "MOST_SETTINGS" "[I"]
def wsL_law0 : List Cond := (wsL_law0_r1 ++ (wsL_law0_r2 ++ (wsL_law0_r3 ++ (wsL_law0_r4 ++ (wsL_law0_r5 ++ (wsL_law0_r6 ++ (wsL_law0_r7 ++ (wsL_law0_r8 ++ (wsL_law0_r9 ++ (wsL_law0_r10 ++ (wsL_law0_r11 ++ (wsL_law0_r12 ++ (wsL_law0_r13 ++ (wsL_law0_r14 ++ (wsL_law0_r15 ++ (wsL_law0_r16 ++ (wsL_law0_r17 ++ (wsL_law0_r18 ++ (wsL_law0_r19 ++ wsL_law0_r20))))))))))))))))))) ++ wsX50 ++ wsX30 ++ wsX20 ++ wsX00 ++ wsX40 ++ wsX10 ++ ([] : List Cond)
end
section
def wsL_law : List Cond := wsL_law0 ++ (vx_atS RX5 156 "java/lang/IllegalArgumentException" ["java/lang/RuntimeException", "java/lang/Exception"]).filter goodWord ++ (vx_atS RX5 127 "java/lang/IndexOutOfBoundsException" ["java/lang/RuntimeException", "java/lang/Exception"]).filter goodWord ++ (vx_atS RX5 105 "java/lang/IllegalStateException" ["java/lang/RuntimeException", "java/lang/Exception"]).filter goodWord
end
section
theorem in_ps {big : List Cond} (ws : List Cond) (ps : List Nat) (hp : ws = ps.filterMap (fun i => big[i]?)) : ∀ w ∈ ws, w ∈ big := by
  intro w hw
  rw [hp] at hw
  obtain ⟨i, -, hi⟩ := List.mem_filterMap.mp hw
  exact List.mem_of_getElem? hi
set_option maxRecDepth 20000 in
theorem in_wsL_law0_r1 : ∀ w ∈ wsL_law0_r1, w ∈ lw_tbl := in_ps _ [22, 23, 8, 101, 24, 25, 26, 27, 28, 29, 30, 31, 9, 203, 204, 147, 148, 12, 205, 167, 168, 13, 206, 201] (by decide +kernel)
set_option maxRecDepth 20000 in
theorem in_wsL_law0_r2 : ∀ w ∈ wsL_law0_r2, w ∈ lw_tbl := in_ps _ [37, 10, 207, 208, 33, 34, 35, 36, 121, 102, 103, 11, 123, 117, 119, 45, 46, 47, 48, 120, 125, 127, 129, 130] (by decide +kernel)
set_option maxRecDepth 20000 in
theorem in_wsL_law0_r3 : ∀ w ∈ wsL_law0_r3, w ∈ lw_tbl := in_ps _ [131, 39, 40, 41, 42, 44, 50, 51, 52, 54, 56, 59, 62, 64, 68, 72, 74, 76, 105, 106, 107, 108, 109, 149] (by decide +kernel)
set_option maxRecDepth 20000 in
theorem in_wsL_law0_r4 : ∀ w ∈ wsL_law0_r4, w ∈ lw_tbl := in_ps _ [150, 151, 152, 153, 156, 157, 158, 170, 171, 172, 173, 174, 175, 176, 177, 178, 179, 180, 181, 519, 520, 7, 521, 552] (by decide +kernel)
set_option maxRecDepth 20000 in
theorem in_wsL_law0_r5 : ∀ w ∈ wsL_law0_r5, w ∈ lw_tbl := in_ps _ [447, 448, 449, 450, 373, 17, 370, 371, 372, 452, 454, 2, 455, 124, 111, 439, 398, 399, 400, 522, 523, 524, 525, 526] (by decide +kernel)
end
section
set_option maxRecDepth 20000 in
theorem in_wsL_law0_r6 : ∀ w ∈ wsL_law0_r6, w ∈ lw_tbl := in_ps _ [528, 5, 529, 122, 71, 58, 53, 55, 61, 63, 67, 73, 531, 75, 128, 77, 126, 159, 530, 503, 504, 505, 417, 407] (by decide +kernel)
set_option maxRecDepth 20000 in
theorem in_wsL_law0_r7 : ∀ w ∈ wsL_law0_r7, w ∈ lw_tbl := in_ps _ [408, 409, 410, 411, 18, 412, 532, 533, 534, 535, 536, 537, 538, 539, 540, 541, 544, 336, 337, 545, 70, 542, 394, 395] (by decide +kernel)
set_option maxRecDepth 20000 in
theorem in_wsL_law0_r8 : ∀ w ∈ wsL_law0_r8, w ∈ lw_tbl := in_ps _ [396, 397, 543, 546, 420, 18, 421, 547, 548, 549, 550, 110, 551, 472, 473, 474, 475, 476, 477, 553, 554, 555, 556, 557] (by decide +kernel)
set_option maxRecDepth 20000 in
theorem in_wsL_law0_r9 : ∀ w ∈ wsL_law0_r9, w ∈ lw_tbl := in_ps _ [558, 459, 460, 461, 469, 470, 471, 478, 479, 480, 481, 482, 483, 484, 344, 345, 346, 347, 348, 349, 350, 354, 19, 351] (by decide +kernel)
set_option maxRecDepth 20000 in
theorem in_wsL_law0_r10 : ∀ w ∈ wsL_law0_r10, w ∈ lw_tbl := in_ps _ [352, 353, 389, 391, 1, 392, 393, 401, 402, 403, 404, 406, 413, 414, 415, 416, 418, 419, 422, 423, 424, 425, 426, 427] (by decide +kernel)
end
section
set_option maxRecDepth 20000 in
theorem in_wsL_law0_r11 : ∀ w ∈ wsL_law0_r11, w ∈ lw_tbl := in_ps _ [428, 429, 430, 431, 432, 57, 60, 433, 434, 435, 436, 437, 438, 440, 441, 442, 443, 559, 560, 561, 562, 563, 564, 565] (by decide +kernel)
set_option maxRecDepth 20000 in
theorem in_wsL_law0_r12 : ∀ w ∈ wsL_law0_r12, w ∈ lw_tbl := in_ps _ [566, 567, 568, 569, 571, 6, 572, 493, 311, 312, 313, 314, 316, 315, 20, 494, 495, 496, 497, 498, 500, 4, 501, 507] (by decide +kernel)
set_option maxRecDepth 20000 in
theorem in_wsL_law0_r13 : ∀ w ∈ wsL_law0_r13, w ∈ lw_tbl := in_ps _ [502, 506, 573, 574, 575, 576, 456, 457, 458, 462, 463, 464, 465, 466, 467, 468, 485, 486, 487, 488, 489, 491, 3, 492] (by decide +kernel)
set_option maxRecDepth 20000 in
theorem in_wsL_law0_r14 : ∀ w ∈ wsL_law0_r14, w ∈ lw_tbl := in_ps _ [508, 509, 510, 511, 512, 513, 514, 515, 516, 517, 518, 226, 227, 228, 229, 230, 231, 232, 233, 234, 21, 302, 303, 304] (by decide +kernel)
set_option maxRecDepth 20000 in
theorem in_wsL_law0_r15 : ∀ w ∈ wsL_law0_r15, w ∈ lw_tbl := in_ps _ [305, 306, 307, 308, 309, 322, 310, 317, 318, 319, 320, 321, 323, 324, 325, 326, 327, 328, 329, 331, 332, 333, 334, 335] (by decide +kernel)
end
section
set_option maxRecDepth 20000 in
theorem in_r16a : ∀ w ∈ ([Cond.methodLink RX5 178 yX3_copyFrom, Cond.methodLink RL 163 yL_pose, Cond.static yL_pose, Cond.codeWith yL_pose cL_pose 5 (some .int) [(0, 7, 10, 21), (0, 7, 15, 15)], Cond.classLink RL 21 "java/lang/IndexOutOfBoundsException", Cond.classLink RL 15 "java/lang/IllegalArgumentException", Cond.methodLink RL 165 yL_reading, Cond.static yL_reading, Cond.codeWith yL_reading cL_reading 5 (some .int) [(0, 7, 10, 15)], Cond.methodLink RL 167 yL_cell, Cond.static yL_cell, Cond.code yL_cell cL_cell 2 (some .int), Cond.constant RL 7 (1013904243), Cond.methodLink RL 170 yL_act, Cond.static yL_act] : List Cond), w ∈ lw_tbl := in_ps _ [338, 339, 340, 341, 342, 343, 444, 445, 446, 222, 223, 224, 225, 577, 578] (by decide +kernel)
set_option maxRecDepth 20000 in
theorem in_r16b : ∀ w ∈ ([Cond.methodLink RL 122 yL_wind, Cond.static yL_wind, Cond.codeWith yL_wind cL_wind 4 (some .int) [(0, 6, 9, 15)], Cond.methodLink RL 9 yX5_wind, Cond.instanceMethod yX5_wind, Cond.selects RX5 yX5_wind yX5_wind, Cond.code yX5_wind cX5_wind 2 (some .int), Cond.methodLink RX5 55 yX4_tighten] : List Cond), w ∈ lw_tbl := in_ps _ [580, 581, 582, 583, 584, 585, 586, 587] (by decide +kernel)
set_option maxRecDepth 100000 in
theorem in_r16c : Cond.code yL_act cL_act 10 (some .boolean) ∈ lw_tbl := List.mem_append_right (k2_sels lw_privs) (List.mem_append_right tables_1_1 (List.mem_append_right tables_1_2 (List.mem_of_getElem? (i := 92) rfl)))
theorem in_wsL_law0_r16 : ∀ w ∈ wsL_law0_r16, w ∈ lw_tbl := fun w h => (List.mem_append.mp (show w ∈ ([Cond.methodLink RX5 178 yX3_copyFrom, Cond.methodLink RL 163 yL_pose, Cond.static yL_pose, Cond.codeWith yL_pose cL_pose 5 (some .int) [(0, 7, 10, 21), (0, 7, 15, 15)], Cond.classLink RL 21 "java/lang/IndexOutOfBoundsException", Cond.classLink RL 15 "java/lang/IllegalArgumentException", Cond.methodLink RL 165 yL_reading, Cond.static yL_reading, Cond.codeWith yL_reading cL_reading 5 (some .int) [(0, 7, 10, 15)], Cond.methodLink RL 167 yL_cell, Cond.static yL_cell, Cond.code yL_cell cL_cell 2 (some .int), Cond.constant RL 7 (1013904243), Cond.methodLink RL 170 yL_act, Cond.static yL_act] : List Cond) ++ (Cond.code yL_act cL_act 10 (some .boolean) :: [Cond.methodLink RL 122 yL_wind, Cond.static yL_wind, Cond.codeWith yL_wind cL_wind 4 (some .int) [(0, 6, 9, 15)], Cond.methodLink RL 9 yX5_wind, Cond.instanceMethod yX5_wind, Cond.selects RX5 yX5_wind yX5_wind, Cond.code yX5_wind cX5_wind 2 (some .int), Cond.methodLink RX5 55 yX4_tighten]) from h)).elim (in_r16a w) (fun h => (List.mem_cons.mp h).elim (fun e => e ▸ in_r16c) (in_r16b w))
set_option maxRecDepth 20000 in
theorem in_wsL_law0_r17 : ∀ w ∈ wsL_law0_r17, w ∈ lw_tbl := in_ps _ [588, 589, 590, 591, 592, 593, 594, 595, 596, 597, 599, 600, 601, 602, 65, 603, 604, 605, 606, 69, 66, 607, 608, 609] (by decide +kernel)
set_option maxRecDepth 20000 in
theorem in_wsL_law0_r18 : ∀ w ∈ wsL_law0_r18, w ∈ lw_tbl := in_ps _ [610, 611, 612, 613, 614, 615, 616, 617, 618, 619, 620, 621, 622, 623, 624, 625, 626, 627, 628, 629, 630, 631, 632, 633] (by decide +kernel)
set_option maxRecDepth 20000 in
theorem in_wsL_law0_r19 : ∀ w ∈ wsL_law0_r19, w ∈ lw_tbl := in_ps _ [634, 635, 636, 637, 638, 639, 640, 641, 642, 643, 644, 645, 646, 647, 648, 649, 650, 651, 652, 653, 654, 655, 656, 657] (by decide +kernel)
set_option maxRecDepth 20000 in
theorem in_wsL_law0_r20 : ∀ w ∈ wsL_law0_r20, w ∈ lw_tbl := in_ps _ [658, 659, 660, 661, 662, 663, 664, 665, 666, 667, 668, 669, 671, 673] (by decide +kernel)
end
section
set_option maxRecDepth 20000 in
theorem in_wsX50 : ∀ w ∈ wsX50, w ∈ lw_tbl := in_ps _ [209, 211, 213, 215, 217, 219] (by decide +kernel)
set_option maxRecDepth 20000 in
theorem in_wsX30 : ∀ w ∈ wsX30, w ∈ lw_tbl := in_ps _ [132, 134, 136, 138, 140, 142, 144] (by decide +kernel)
set_option maxRecDepth 20000 in
theorem in_wsX20 : ∀ w ∈ wsX20, w ∈ lw_tbl := in_ps _ [160, 162, 164] (by decide +kernel)
set_option maxRecDepth 20000 in
theorem in_wsX00 : ∀ w ∈ wsX00, w ∈ lw_tbl := in_ps _ [182, 184, 186, 188, 190, 192, 194, 196, 198] (by decide +kernel)
set_option maxRecDepth 20000 in
theorem in_wsX40 : ∀ w ∈ wsX40, w ∈ lw_tbl := in_ps _ [78, 80, 82, 84, 86, 88, 90, 92, 94, 96, 98] (by decide +kernel)
end
section
set_option maxRecDepth 20000 in
theorem in_wsX10 : ∀ w ∈ wsX10, w ∈ lw_tbl := in_ps _ [112, 114] (by decide +kernel)
end
section
theorem wsL_law_in0 : ∀ w ∈ wsL_law0, w ∈ lw_tbl := (fun w h => (List.mem_append.mp h).elim ((fun w h => (List.mem_append.mp h).elim ((fun w h => (List.mem_append.mp h).elim ((fun w h => (List.mem_append.mp h).elim ((fun w h => (List.mem_append.mp h).elim ((fun w h => (List.mem_append.mp h).elim ((fun w h => (List.mem_append.mp h).elim ((fun w h => (List.mem_append.mp h).elim (in_wsL_law0_r1 w) ((fun w h => (List.mem_append.mp h).elim (in_wsL_law0_r2 w) ((fun w h => (List.mem_append.mp h).elim (in_wsL_law0_r3 w) ((fun w h => (List.mem_append.mp h).elim (in_wsL_law0_r4 w) ((fun w h => (List.mem_append.mp h).elim (in_wsL_law0_r5 w) ((fun w h => (List.mem_append.mp h).elim (in_wsL_law0_r6 w) ((fun w h => (List.mem_append.mp h).elim (in_wsL_law0_r7 w) ((fun w h => (List.mem_append.mp h).elim (in_wsL_law0_r8 w) ((fun w h => (List.mem_append.mp h).elim (in_wsL_law0_r9 w) ((fun w h => (List.mem_append.mp h).elim (in_wsL_law0_r10 w) ((fun w h => (List.mem_append.mp h).elim (in_wsL_law0_r11 w) ((fun w h => (List.mem_append.mp h).elim (in_wsL_law0_r12 w) ((fun w h => (List.mem_append.mp h).elim (in_wsL_law0_r13 w) ((fun w h => (List.mem_append.mp h).elim (in_wsL_law0_r14 w) ((fun w h => (List.mem_append.mp h).elim (in_wsL_law0_r15 w) ((fun w h => (List.mem_append.mp h).elim (in_wsL_law0_r16 w) ((fun w h => (List.mem_append.mp h).elim (in_wsL_law0_r17 w) ((fun w h => (List.mem_append.mp h).elim (in_wsL_law0_r18 w) ((fun w h => (List.mem_append.mp h).elim (in_wsL_law0_r19 w) (in_wsL_law0_r20 w)) w)) w)) w)) w)) w)) w)) w)) w)) w)) w)) w)) w)) w)) w)) w)) w)) w)) w)) w) (in_wsX50 w)) w) (in_wsX30 w)) w) (in_wsX20 w)) w) (in_wsX00 w)) w) (in_wsX40 w)) w) (in_wsX10 w)) w) (fun h => absurd h List.not_mem_nil))
theorem wsL_law_x0 : ∀ w ∈ (vx_atS RX5 156 "java/lang/IllegalArgumentException" ["java/lang/RuntimeException", "java/lang/Exception"]).filter goodWord, w ∈ lw_tbl := by decide +kernel
theorem wsL_law_x1 : ∀ w ∈ (vx_atS RX5 127 "java/lang/IndexOutOfBoundsException" ["java/lang/RuntimeException", "java/lang/Exception"]).filter goodWord, w ∈ lw_tbl := by decide +kernel
theorem wsL_law_x2 : ∀ w ∈ (vx_atS RX5 105 "java/lang/IllegalStateException" ["java/lang/RuntimeException", "java/lang/Exception"]).filter goodWord, w ∈ lw_tbl := by decide +kernel
theorem wsL_law_in : ∀ w ∈ wsL_law, w ∈ lw_tbl := fun w h => (List.mem_append.mp h).elim (fun h => (List.mem_append.mp h).elim (fun h => (List.mem_append.mp h).elim (fun h => wsL_law_in0 w h) (fun h => wsL_law_x0 w h)) (fun h => wsL_law_x1 w h)) (fun h => wsL_law_x2 w h)
theorem inlX0 : ∀ w ∈ wsX00, w ∈ wsL_law := fun _ h => List.mem_append_left _ (List.mem_append_left _ (List.mem_append_left _ (List.mem_append_left _ (List.mem_append_left _ (List.mem_append_left _ (List.mem_append_right _ h))))))
theorem inX0 : ∀ w ∈ wsX00, w ∈ lw_tbl := fun w h => wsL_law_in w (inlX0 w h)
theorem inlX1 : ∀ w ∈ wsX10, w ∈ wsL_law := fun _ h => List.mem_append_left _ (List.mem_append_left _ (List.mem_append_left _ (List.mem_append_left _ (List.mem_append_right _ h))))
theorem inX1 : ∀ w ∈ wsX10, w ∈ lw_tbl := fun w h => wsL_law_in w (inlX1 w h)
theorem inlX2 : ∀ w ∈ wsX20, w ∈ wsL_law := fun _ h => List.mem_append_left _ (List.mem_append_left _ (List.mem_append_left _ (List.mem_append_left _ (List.mem_append_left _ (List.mem_append_left _ (List.mem_append_left _ (List.mem_append_right _ h)))))))
theorem inX2 : ∀ w ∈ wsX20, w ∈ lw_tbl := fun w h => wsL_law_in w (inlX2 w h)
theorem inlX3 : ∀ w ∈ wsX30, w ∈ wsL_law := fun _ h => List.mem_append_left _ (List.mem_append_left _ (List.mem_append_left _ (List.mem_append_left _ (List.mem_append_left _ (List.mem_append_left _ (List.mem_append_left _ (List.mem_append_left _ (List.mem_append_right _ h))))))))
theorem inX3 : ∀ w ∈ wsX30, w ∈ lw_tbl := fun w h => wsL_law_in w (inlX3 w h)
theorem inlX4 : ∀ w ∈ wsX40, w ∈ wsL_law := fun _ h => List.mem_append_left _ (List.mem_append_left _ (List.mem_append_left _ (List.mem_append_left _ (List.mem_append_left _ (List.mem_append_right _ h)))))
theorem inX4 : ∀ w ∈ wsX40, w ∈ lw_tbl := fun w h => wsL_law_in w (inlX4 w h)
theorem inlX5 : ∀ w ∈ wsX50, w ∈ wsL_law := fun _ h => List.mem_append_left _ (List.mem_append_left _ (List.mem_append_left _ (List.mem_append_left _ (List.mem_append_left _ (List.mem_append_left _ (List.mem_append_left _ (List.mem_append_left _ (List.mem_append_left _ (List.mem_append_right _ h)))))))))
theorem inX5 : ∀ w ∈ wsX50, w ∈ lw_tbl := fun w h => wsL_law_in w (inlX5 w h)
theorem inX6 : ∀ w ∈ wsX60, w ∈ lw_tbl := by decide +kernel
theorem inJx8e188 : ∀ w ∈ wsJx8e1880, w ∈ lw_tbl := by decide +kernel
theorem inJ9 : ∀ w ∈ wsJ90, w ∈ lw_tbl := by decide +kernel
theorem inJ0 : ∀ w ∈ wsJ00, w ∈ lw_tbl := by decide +kernel
theorem inJ10 : ∀ w ∈ wsJ100, w ∈ lw_tbl := by decide +kernel
theorem dX0_init_0 : decode cX0_init 0 = .ok (.aload_n 0, 1) := by decide +kernel
theorem dX0_init_1 : decode cX0_init 1 = .ok (.invokespecial 3, 3) := by decide +kernel
theorem dX0_init_4 : decode cX0_init 4 = .ok (.aload_n 0, 1) := by decide +kernel
theorem dX0_init_5 : decode cX0_init 5 = .ok (.bipush 60, 2) := by decide +kernel
theorem dX0_init_7 : decode cX0_init 7 = .ok (.newarray .int, 2) := by decide +kernel
theorem dX0_init_9 : decode cX0_init 9 = .ok (.putfield 11, 3) := by decide +kernel
theorem dX0_init_12 : decode cX0_init 12 = .ok (.aload_n 0, 1) := by decide +kernel
theorem dX0_init_13 : decode cX0_init 13 = .ok (.iconst 0, 1) := by decide +kernel
theorem dX0_init_14 : decode cX0_init 14 = .ok (.putfield 15, 3) := by decide +kernel
theorem dX0_init_17 : decode cX0_init 17 = .ok (.aload_n 0, 1) := by decide +kernel
theorem dX0_init_18 : decode cX0_init 18 = .ok (.bipush 60, 2) := by decide +kernel
theorem dX0_init_20 : decode cX0_init 20 = .ok (.newarray .int, 2) := by decide +kernel
theorem dX0_init_22 : decode cX0_init 22 = .ok (.putfield 19, 3) := by decide +kernel
theorem dX0_init_25 : decode cX0_init 25 = .ok (.aload_n 0, 1) := by decide +kernel
theorem dX0_init_26 : decode cX0_init 26 = .ok (.bipush 60, 2) := by decide +kernel
theorem dX0_init_28 : decode cX0_init 28 = .ok (.newarray .int, 2) := by decide +kernel
theorem dX0_init_30 : decode cX0_init 30 = .ok (.putfield 22, 3) := by decide +kernel
theorem dX0_init_33 : decode cX0_init 33 = .ok (.aload_n 0, 1) := by decide +kernel
theorem dX0_init_34 : decode cX0_init 34 = .ok (.iconst 0, 1) := by decide +kernel
theorem dX0_init_35 : decode cX0_init 35 = .ok (.putfield 25, 3) := by decide +kernel
theorem dX0_init_38 : decode cX0_init 38 = .ok (.aload_n 0, 1) := by decide +kernel
theorem dX0_init_39 : decode cX0_init 39 = .ok (.iconst 0, 1) := by decide +kernel
theorem dX0_init_40 : decode cX0_init 40 = .ok (.putfield 28, 3) := by decide +kernel
theorem dX0_init_43 : decode cX0_init 43 = .ok (.aload_n 0, 1) := by decide +kernel
theorem dX0_init_44 : decode cX0_init 44 = .ok (.iconst 0, 1) := by decide +kernel
theorem dX0_init_45 : decode cX0_init 45 = .ok (.putfield 31, 3) := by decide +kernel
theorem dX0_init_48 : decode cX0_init 48 = .ok (.aload_n 0, 1) := by decide +kernel
theorem dX0_init_49 : decode cX0_init 49 = .ok (.iconst 0, 1) := by decide +kernel
theorem dX0_init_50 : decode cX0_init 50 = .ok (.putfield 35, 3) := by decide +kernel
theorem dX0_init_53 : decode cX0_init 53 = .ok (.aload_n 0, 1) := by decide +kernel
theorem dX0_init_54 : decode cX0_init 54 = .ok (.iconst 0, 1) := by decide +kernel
theorem dX0_init_55 : decode cX0_init 55 = .ok (.putfield 38, 3) := by decide +kernel
theorem dX0_init_58 : decode cX0_init 58 = .ok (.return_, 1) := by decide +kernel
theorem dX1_init_0 : decode cX1_init 0 = .ok (.aload_n 0, 1) := by decide +kernel
theorem dX1_init_1 : decode cX1_init 1 = .ok (.invokespecial 3, 3) := by decide +kernel
theorem dX1_init_4 : decode cX1_init 4 = .ok (.aload_n 0, 1) := by decide +kernel
theorem dX1_init_5 : decode cX1_init 5 = .ok (.sipush 200, 3) := by decide +kernel
theorem dX1_init_8 : decode cX1_init 8 = .ok (.newarray .int, 2) := by decide +kernel
theorem dX1_init_10 : decode cX1_init 10 = .ok (.putfield 11, 3) := by decide +kernel
theorem dX1_init_13 : decode cX1_init 13 = .ok (.aload_n 0, 1) := by decide +kernel
theorem dX1_init_14 : decode cX1_init 14 = .ok (.iconst 0, 1) := by decide +kernel
theorem dX1_init_15 : decode cX1_init 15 = .ok (.putfield 15, 3) := by decide +kernel
theorem dX1_init_18 : decode cX1_init 18 = .ok (.return_, 1) := by decide +kernel
theorem dX1_isFull_0 : decode cX1_isFull 0 = .ok (.aload_n 0, 1) := by decide +kernel
theorem dX1_isFull_1 : decode cX1_isFull 1 = .ok (.getfield 15, 3) := by decide +kernel
theorem dX1_isFull_4 : decode cX1_isFull 4 = .ok (.bipush 40, 2) := by decide +kernel
theorem dX1_isFull_6 : decode cX1_isFull 6 = .ok (.if_icmp .lt 7, 3) := by decide +kernel
theorem dX1_isFull_9 : decode cX1_isFull 9 = .ok (.iconst 1, 1) := by decide +kernel
theorem dX1_isFull_10 : decode cX1_isFull 10 = .ok (.goto 4, 3) := by decide +kernel
theorem dX1_isFull_13 : decode cX1_isFull 13 = .ok (.iconst 0, 1) := by decide +kernel
theorem dX1_isFull_14 : decode cX1_isFull 14 = .ok (.ireturn, 1) := by decide +kernel
set_option maxRecDepth 20000 in
theorem ggX1_print_X1_isFull : GoodIn wsX1_print wsX1_isFull := goodIn_r _ [9, 1, 48, 49] (by decide +kernel) (by decide +kernel)
set_option maxRecDepth 20000 in
theorem gX1_print_X1_isFull : GoodIn wsX1_print (wsV RX1 19 RX1 yX1_isFull wsX1_isFull) := goodIn_app (goodIn_of _ (by decide +kernel)) ggX1_print_X1_isFull
set_option maxRecDepth 20000 in
theorem ggX1_print_X4_rateIn : GoodIn wsX1_print wsX4_rateIn := goodIn_r _ [14, 15, 16, 17, 18, 19, 13, 20, 21, 22, 23, 24, 25, 26, 27, 28, 29, 30, 31, 32, 33, 34, 35, 36, 37, 38, 50, 51, 52, 53, 54, 55, 56, 57, 58, 59, 60] (by decide +kernel) (by decide +kernel)
set_option maxRecDepth 20000 in
theorem gX1_print_X4_rateIn : GoodIn wsX1_print (wsV RX1 31 RX4 yX4_rateIn wsX4_rateIn) := goodIn_app (goodIn_of _ (by decide +kernel)) ggX1_print_X4_rateIn
set_option maxRecDepth 20000 in
theorem ggX1_print_X4_beatErrorIn : GoodIn wsX1_print wsX4_beatErrorIn := goodIn_r _ [42, 43, 44, 45, 25, 46, 22, 50, 51, 52, 53, 54, 55, 56, 57, 58, 59, 60] (by decide +kernel) (by decide +kernel)
set_option maxRecDepth 20000 in
theorem gX1_print_X4_beatErrorIn : GoodIn wsX1_print (wsV RX1 35 RX4 yX4_beatErrorIn wsX4_beatErrorIn) := goodIn_app (goodIn_of _ (by decide +kernel)) ggX1_print_X4_beatErrorIn
set_option maxRecDepth 20000 in
theorem ggX1_print_X4_swingIn : GoodIn wsX1_print wsX4_swingIn := goodIn_r _ [20, 21, 22, 23, 24, 25, 26, 50, 51, 52, 53, 54, 55, 56, 57, 58, 59, 60] (by decide +kernel) (by decide +kernel)
set_option maxRecDepth 20000 in
theorem gX1_print_X4_swingIn : GoodIn wsX1_print (wsV RX1 38 RX4 yX4_swingIn wsX4_swingIn) := goodIn_app (goodIn_of _ (by decide +kernel)) ggX1_print_X4_swingIn
theorem dX1_print_0 : decode cX1_print 0 = .ok (.aload_n 0, 1) := by decide +kernel
theorem dX1_print_1 : decode cX1_print 1 = .ok (.invokevirtual 19, 3) := by decide +kernel
theorem dX1_print_4 : decode cX1_print 4 = .ok (.ifCond .eq 4, 3) := by decide +kernel
theorem dX1_print_7 : decode cX1_print 7 = .ok (.return_, 1) := by decide +kernel
theorem dX1_print_8 : decode cX1_print 8 = .ok (.aload_n 0, 1) := by decide +kernel
theorem dX1_print_9 : decode cX1_print 9 = .ok (.getfield 15, 3) := by decide +kernel
theorem dX1_print_12 : decode cX1_print 12 = .ok (.iconst 5, 1) := by decide +kernel
theorem dX1_print_13 : decode cX1_print 13 = .ok (.imul, 1) := by decide +kernel
theorem dX1_print_14 : decode cX1_print 14 = .ok (.istore_n 2, 1) := by decide +kernel
theorem dX1_print_15 : decode cX1_print 15 = .ok (.aload_n 0, 1) := by decide +kernel
theorem dX1_print_16 : decode cX1_print 16 = .ok (.getfield 11, 3) := by decide +kernel
theorem dX1_print_19 : decode cX1_print 19 = .ok (.iload_n 2, 1) := by decide +kernel
theorem dX1_print_20 : decode cX1_print 20 = .ok (.iconst 0, 1) := by decide +kernel
theorem dX1_print_21 : decode cX1_print 21 = .ok (.iadd, 1) := by decide +kernel
theorem dX1_print_22 : decode cX1_print 22 = .ok (.aload_n 1, 1) := by decide +kernel
theorem dX1_print_23 : decode cX1_print 23 = .ok (.getfield 23, 3) := by decide +kernel
theorem dX1_print_26 : decode cX1_print 26 = .ok (.iastore, 1) := by decide +kernel
theorem dX1_print_27 : decode cX1_print 27 = .ok (.aload_n 0, 1) := by decide +kernel
theorem dX1_print_28 : decode cX1_print 28 = .ok (.getfield 11, 3) := by decide +kernel
theorem dX1_print_31 : decode cX1_print 31 = .ok (.iload_n 2, 1) := by decide +kernel
theorem dX1_print_32 : decode cX1_print 32 = .ok (.iconst 1, 1) := by decide +kernel
theorem dX1_print_33 : decode cX1_print 33 = .ok (.iadd, 1) := by decide +kernel
theorem dX1_print_34 : decode cX1_print 34 = .ok (.aload_n 1, 1) := by decide +kernel
theorem dX1_print_35 : decode cX1_print 35 = .ok (.getfield 28, 3) := by decide +kernel
theorem dX1_print_38 : decode cX1_print 38 = .ok (.iastore, 1) := by decide +kernel
theorem dX1_print_39 : decode cX1_print 39 = .ok (.aload_n 0, 1) := by decide +kernel
theorem dX1_print_40 : decode cX1_print 40 = .ok (.getfield 11, 3) := by decide +kernel
theorem dX1_print_43 : decode cX1_print 43 = .ok (.iload_n 2, 1) := by decide +kernel
theorem dX1_print_44 : decode cX1_print 44 = .ok (.iconst 2, 1) := by decide +kernel
theorem dX1_print_45 : decode cX1_print 45 = .ok (.iadd, 1) := by decide +kernel
theorem dX1_print_46 : decode cX1_print 46 = .ok (.aload_n 1, 1) := by decide +kernel
theorem dX1_print_47 : decode cX1_print 47 = .ok (.aload_n 1, 1) := by decide +kernel
theorem dX1_print_48 : decode cX1_print 48 = .ok (.getfield 28, 3) := by decide +kernel
theorem dX1_print_51 : decode cX1_print 51 = .ok (.invokevirtual 31, 3) := by decide +kernel
theorem dX1_print_54 : decode cX1_print 54 = .ok (.iastore, 1) := by decide +kernel
theorem dX1_print_55 : decode cX1_print 55 = .ok (.aload_n 0, 1) := by decide +kernel
theorem dX1_print_56 : decode cX1_print 56 = .ok (.getfield 11, 3) := by decide +kernel
theorem dX1_print_59 : decode cX1_print 59 = .ok (.iload_n 2, 1) := by decide +kernel
theorem dX1_print_60 : decode cX1_print 60 = .ok (.iconst 3, 1) := by decide +kernel
theorem dX1_print_61 : decode cX1_print 61 = .ok (.iadd, 1) := by decide +kernel
theorem dX1_print_62 : decode cX1_print 62 = .ok (.aload_n 1, 1) := by decide +kernel
theorem dX1_print_63 : decode cX1_print 63 = .ok (.aload_n 1, 1) := by decide +kernel
theorem dX1_print_64 : decode cX1_print 64 = .ok (.getfield 28, 3) := by decide +kernel
theorem dX1_print_67 : decode cX1_print 67 = .ok (.invokevirtual 35, 3) := by decide +kernel
theorem dX1_print_70 : decode cX1_print 70 = .ok (.iastore, 1) := by decide +kernel
theorem dX1_print_71 : decode cX1_print 71 = .ok (.aload_n 0, 1) := by decide +kernel
theorem dX1_print_72 : decode cX1_print 72 = .ok (.getfield 11, 3) := by decide +kernel
theorem dX1_print_75 : decode cX1_print 75 = .ok (.iload_n 2, 1) := by decide +kernel
theorem dX1_print_76 : decode cX1_print 76 = .ok (.iconst 4, 1) := by decide +kernel
theorem dX1_print_77 : decode cX1_print 77 = .ok (.iadd, 1) := by decide +kernel
theorem dX1_print_78 : decode cX1_print 78 = .ok (.aload_n 1, 1) := by decide +kernel
theorem dX1_print_79 : decode cX1_print 79 = .ok (.aload_n 1, 1) := by decide +kernel
theorem dX1_print_80 : decode cX1_print 80 = .ok (.getfield 28, 3) := by decide +kernel
theorem dX1_print_83 : decode cX1_print 83 = .ok (.invokevirtual 38, 3) := by decide +kernel
theorem dX1_print_86 : decode cX1_print 86 = .ok (.iastore, 1) := by decide +kernel
theorem dX1_print_87 : decode cX1_print 87 = .ok (.aload_n 0, 1) := by decide +kernel
theorem dX1_print_88 : decode cX1_print 88 = .ok (.dup, 1) := by decide +kernel
theorem dX1_print_89 : decode cX1_print 89 = .ok (.getfield 15, 3) := by decide +kernel
theorem dX1_print_92 : decode cX1_print 92 = .ok (.iconst 1, 1) := by decide +kernel
theorem dX1_print_93 : decode cX1_print 93 = .ok (.iadd, 1) := by decide +kernel
theorem dX1_print_94 : decode cX1_print 94 = .ok (.putfield 15, 3) := by decide +kernel
theorem dX1_print_97 : decode cX1_print 97 = .ok (.return_, 1) := by decide +kernel
theorem dX1_number_0 : decode cX1_number 0 = .ok (.iload_n 1, 1) := by decide +kernel
theorem dX1_number_1 : decode cX1_number 1 = .ok (.ifCond .lt 20, 3) := by decide +kernel
theorem dX1_number_4 : decode cX1_number 4 = .ok (.iload_n 1, 1) := by decide +kernel
theorem dX1_number_5 : decode cX1_number 5 = .ok (.aload_n 0, 1) := by decide +kernel
theorem dX1_number_6 : decode cX1_number 6 = .ok (.getfield 15, 3) := by decide +kernel
theorem dX1_number_9 : decode cX1_number 9 = .ok (.if_icmp .ge 12, 3) := by decide +kernel
theorem dX1_number_12 : decode cX1_number 12 = .ok (.iload_n 2, 1) := by decide +kernel
theorem dX1_number_13 : decode cX1_number 13 = .ok (.ifCond .lt 8, 3) := by decide +kernel
theorem dX1_number_16 : decode cX1_number 16 = .ok (.iload_n 2, 1) := by decide +kernel
theorem dX1_number_17 : decode cX1_number 17 = .ok (.iconst 5, 1) := by decide +kernel
theorem dX1_number_18 : decode cX1_number 18 = .ok (.if_icmp .lt 5, 3) := by decide +kernel
theorem dX1_number_21 : decode cX1_number 21 = .ok (.iconst (-1), 1) := by decide +kernel
theorem dX1_number_22 : decode cX1_number 22 = .ok (.ireturn, 1) := by decide +kernel
theorem dX1_number_23 : decode cX1_number 23 = .ok (.aload_n 0, 1) := by decide +kernel
theorem dX1_number_24 : decode cX1_number 24 = .ok (.getfield 11, 3) := by decide +kernel
theorem dX1_number_27 : decode cX1_number 27 = .ok (.iload_n 1, 1) := by decide +kernel
theorem dX1_number_28 : decode cX1_number 28 = .ok (.iconst 5, 1) := by decide +kernel
theorem dX1_number_29 : decode cX1_number 29 = .ok (.imul, 1) := by decide +kernel
theorem dX1_number_30 : decode cX1_number 30 = .ok (.iload_n 2, 1) := by decide +kernel
theorem dX1_number_31 : decode cX1_number 31 = .ok (.iadd, 1) := by decide +kernel
theorem dX1_number_32 : decode cX1_number 32 = .ok (.iaload, 1) := by decide +kernel
theorem dX1_number_33 : decode cX1_number 33 = .ok (.ireturn, 1) := by decide +kernel
set_option maxRecDepth 20000 in
theorem ggX1_latestIn_X1_number : GoodIn wsX1_latestIn wsX1_number := goodIn_r _ [6, 1, 7, 8, 9] (by decide +kernel) (by decide +kernel)
set_option maxRecDepth 20000 in
theorem gX1_latestIn_X1_number : GoodIn wsX1_latestIn (wsV RX1 41 RX1 yX1_number wsX1_number) := goodIn_app (goodIn_of _ (by decide +kernel)) ggX1_latestIn_X1_number
theorem dX1_latestIn_0 : decode cX1_latestIn 0 = .ok (.aload_n 0, 1) := by decide +kernel
theorem dX1_latestIn_1 : decode cX1_latestIn 1 = .ok (.getfield 15, 3) := by decide +kernel
theorem dX1_latestIn_4 : decode cX1_latestIn 4 = .ok (.iconst 1, 1) := by decide +kernel
theorem dX1_latestIn_5 : decode cX1_latestIn 5 = .ok (.isub, 1) := by decide +kernel
theorem dX1_latestIn_6 : decode cX1_latestIn 6 = .ok (.istore_n 2, 1) := by decide +kernel
theorem dX1_latestIn_7 : decode cX1_latestIn 7 = .ok (.iload_n 2, 1) := by decide +kernel
theorem dX1_latestIn_8 : decode cX1_latestIn 8 = .ok (.ifCond .lt 21, 3) := by decide +kernel
theorem dX1_latestIn_11 : decode cX1_latestIn 11 = .ok (.aload_n 0, 1) := by decide +kernel
theorem dX1_latestIn_12 : decode cX1_latestIn 12 = .ok (.iload_n 2, 1) := by decide +kernel
theorem dX1_latestIn_13 : decode cX1_latestIn 13 = .ok (.iconst 1, 1) := by decide +kernel
theorem dX1_latestIn_14 : decode cX1_latestIn 14 = .ok (.invokevirtual 41, 3) := by decide +kernel
theorem dX1_latestIn_17 : decode cX1_latestIn 17 = .ok (.iload_n 1, 1) := by decide +kernel
theorem dX1_latestIn_18 : decode cX1_latestIn 18 = .ok (.if_icmp .ne 5, 3) := by decide +kernel
theorem dX1_latestIn_21 : decode cX1_latestIn 21 = .ok (.iload_n 2, 1) := by decide +kernel
theorem dX1_latestIn_22 : decode cX1_latestIn 22 = .ok (.ireturn, 1) := by decide +kernel
theorem dX1_latestIn_23 : decode cX1_latestIn 23 = .ok (.iinc 2 (-1), 3) := by decide +kernel
theorem dX1_latestIn_26 : decode cX1_latestIn 26 = .ok (.goto (-19), 3) := by decide +kernel
theorem dX1_latestIn_29 : decode cX1_latestIn 29 = .ok (.iconst (-1), 1) := by decide +kernel
theorem dX1_latestIn_30 : decode cX1_latestIn 30 = .ok (.ireturn, 1) := by decide +kernel
set_option maxRecDepth 20000 in
theorem ggX1_readingsIn_X1_number : GoodIn wsX1_readingsIn wsX1_number := goodIn_r _ [6, 1, 7, 8, 9] (by decide +kernel) (by decide +kernel)
set_option maxRecDepth 20000 in
theorem gX1_readingsIn_X1_number : GoodIn wsX1_readingsIn (wsV RX1 41 RX1 yX1_number wsX1_number) := goodIn_app (goodIn_of _ (by decide +kernel)) ggX1_readingsIn_X1_number
theorem dX1_readingsIn_0 : decode cX1_readingsIn 0 = .ok (.iconst 0, 1) := by decide +kernel
theorem dX1_readingsIn_1 : decode cX1_readingsIn 1 = .ok (.istore_n 2, 1) := by decide +kernel
theorem dX1_readingsIn_2 : decode cX1_readingsIn 2 = .ok (.iconst 0, 1) := by decide +kernel
theorem dX1_readingsIn_3 : decode cX1_readingsIn 3 = .ok (.istore_n 3, 1) := by decide +kernel
theorem dX1_readingsIn_4 : decode cX1_readingsIn 4 = .ok (.iload_n 3, 1) := by decide +kernel
theorem dX1_readingsIn_5 : decode cX1_readingsIn 5 = .ok (.aload_n 0, 1) := by decide +kernel
theorem dX1_readingsIn_6 : decode cX1_readingsIn 6 = .ok (.getfield 15, 3) := by decide +kernel
theorem dX1_readingsIn_9 : decode cX1_readingsIn 9 = .ok (.if_icmp .ge 22, 3) := by decide +kernel
theorem dX1_readingsIn_12 : decode cX1_readingsIn 12 = .ok (.aload_n 0, 1) := by decide +kernel
theorem dX1_readingsIn_13 : decode cX1_readingsIn 13 = .ok (.iload_n 3, 1) := by decide +kernel
theorem dX1_readingsIn_14 : decode cX1_readingsIn 14 = .ok (.iconst 1, 1) := by decide +kernel
theorem dX1_readingsIn_15 : decode cX1_readingsIn 15 = .ok (.invokevirtual 41, 3) := by decide +kernel
theorem dX1_readingsIn_18 : decode cX1_readingsIn 18 = .ok (.iload_n 1, 1) := by decide +kernel
theorem dX1_readingsIn_19 : decode cX1_readingsIn 19 = .ok (.if_icmp .ne 6, 3) := by decide +kernel
theorem dX1_readingsIn_22 : decode cX1_readingsIn 22 = .ok (.iinc 2 1, 3) := by decide +kernel
theorem dX1_readingsIn_25 : decode cX1_readingsIn 25 = .ok (.iinc 3 1, 3) := by decide +kernel
theorem dX1_readingsIn_28 : decode cX1_readingsIn 28 = .ok (.goto (-24), 3) := by decide +kernel
theorem dX1_readingsIn_31 : decode cX1_readingsIn 31 = .ok (.iload_n 2, 1) := by decide +kernel
theorem dX1_readingsIn_32 : decode cX1_readingsIn 32 = .ok (.ireturn, 1) := by decide +kernel
theorem dX1_copyFrom_0 : decode cX1_copyFrom 0 = .ok (.aload_n 1, 1) := by decide +kernel
theorem dX1_copyFrom_1 : decode cX1_copyFrom 1 = .ok (.getfield 11, 3) := by decide +kernel
theorem dX1_copyFrom_4 : decode cX1_copyFrom 4 = .ok (.iconst 0, 1) := by decide +kernel
theorem dX1_copyFrom_5 : decode cX1_copyFrom 5 = .ok (.aload_n 0, 1) := by decide +kernel
theorem dX1_copyFrom_6 : decode cX1_copyFrom 6 = .ok (.getfield 11, 3) := by decide +kernel
theorem dX1_copyFrom_9 : decode cX1_copyFrom 9 = .ok (.iconst 0, 1) := by decide +kernel
theorem dX1_copyFrom_10 : decode cX1_copyFrom 10 = .ok (.aload_n 0, 1) := by decide +kernel
theorem dX1_copyFrom_11 : decode cX1_copyFrom 11 = .ok (.getfield 11, 3) := by decide +kernel
theorem dX1_copyFrom_14 : decode cX1_copyFrom 14 = .ok (.arraylength, 1) := by decide +kernel
theorem dX1_copyFrom_15 : decode cX1_copyFrom 15 = .ok (.invokestatic 45, 3) := by decide +kernel
theorem dX1_copyFrom_18 : decode cX1_copyFrom 18 = .ok (.aload_n 0, 1) := by decide +kernel
theorem dX1_copyFrom_19 : decode cX1_copyFrom 19 = .ok (.aload_n 1, 1) := by decide +kernel
theorem dX1_copyFrom_20 : decode cX1_copyFrom 20 = .ok (.getfield 15, 3) := by decide +kernel
theorem dX1_copyFrom_23 : decode cX1_copyFrom 23 = .ok (.putfield 15, 3) := by decide +kernel
theorem dX1_copyFrom_26 : decode cX1_copyFrom 26 = .ok (.return_, 1) := by decide +kernel
set_option maxRecDepth 20000 in
theorem ggX2_init_X3_init : GoodIn wsX2_init wsX3_init := goodIn_r _ [11, 12, 2, 3, 13, 14, 15, 16, 17, 18, 19, 20, 21, 22, 23, 24, 25, 26, 27, 28, 29, 30, 31, 32, 33, 34, 35, 36, 37, 38, 39, 40, 41, 42, 43, 44, 45, 46, 47, 48, 49, 50, 51, 52, 53, 54, 55, 66, 67, 68, 69, 70, 71, 72, 73, 74, 75, 76, 59, 60, 61, 62, 63, 64, 65, 77, 78] (by decide +kernel) (by decide +kernel)
set_option maxRecDepth 20000 in
theorem gX2_init_X3_init_n22 : GoodIn wsX2_init (wsX3_init) := ggX2_init_X3_init
theorem dX2_init_0 : decode cX2_init 0 = .ok (.aload_n 0, 1) := by decide +kernel
theorem dX2_init_1 : decode cX2_init 1 = .ok (.invokespecial 1, 3) := by decide +kernel
theorem dX2_init_4 : decode cX2_init 4 = .ok (.aload_n 0, 1) := by decide +kernel
theorem dX2_init_5 : decode cX2_init 5 = .ok (.bipush 6, 2) := by decide +kernel
theorem dX2_init_7 : decode cX2_init 7 = .ok (.anewarray 9, 3) := by decide +kernel
theorem dX2_init_10 : decode cX2_init 10 = .ok (.putfield 11, 3) := by decide +kernel
theorem dX2_init_13 : decode cX2_init 13 = .ok (.aload_n 0, 1) := by decide +kernel
theorem dX2_init_14 : decode cX2_init 14 = .ok (.iconst 0, 1) := by decide +kernel
theorem dX2_init_15 : decode cX2_init 15 = .ok (.putfield 15, 3) := by decide +kernel
theorem dX2_init_18 : decode cX2_init 18 = .ok (.aload_n 0, 1) := by decide +kernel
theorem dX2_init_19 : decode cX2_init 19 = .ok (.iconst 0, 1) := by decide +kernel
theorem dX2_init_20 : decode cX2_init 20 = .ok (.putfield 19, 3) := by decide +kernel
theorem dX2_init_23 : decode cX2_init 23 = .ok (.iconst 0, 1) := by decide +kernel
theorem dX2_init_24 : decode cX2_init 24 = .ok (.istore_n 1, 1) := by decide +kernel
theorem dX2_init_25 : decode cX2_init 25 = .ok (.iload_n 1, 1) := by decide +kernel
theorem dX2_init_26 : decode cX2_init 26 = .ok (.bipush 6, 2) := by decide +kernel
theorem dX2_init_28 : decode cX2_init 28 = .ok (.if_icmp .ge 22, 3) := by decide +kernel
theorem dX2_init_31 : decode cX2_init 31 = .ok (.aload_n 0, 1) := by decide +kernel
theorem dX2_init_32 : decode cX2_init 32 = .ok (.getfield 11, 3) := by decide +kernel
theorem dX2_init_35 : decode cX2_init 35 = .ok (.iload_n 1, 1) := by decide +kernel
theorem dX2_init_36 : decode cX2_init 36 = .ok (.new 9, 3) := by decide +kernel
theorem dX2_init_39 : decode cX2_init 39 = .ok (.dup, 1) := by decide +kernel
theorem dX2_init_40 : decode cX2_init 40 = .ok (.invokespecial 22, 3) := by decide +kernel
theorem dX2_init_43 : decode cX2_init 43 = .ok (.aastore, 1) := by decide +kernel
theorem dX2_init_44 : decode cX2_init 44 = .ok (.iinc 1 1, 3) := by decide +kernel
theorem dX2_init_47 : decode cX2_init 47 = .ok (.goto (-22), 3) := by decide +kernel
theorem dX2_init_50 : decode cX2_init 50 = .ok (.return_, 1) := by decide +kernel
set_option maxRecDepth 20000 in
theorem ggX2_push_X3_copyFrom : GoodIn wsX2_push wsX3_copyFrom := goodIn_r _ [12, 13, 14, 15, 16, 17, 18, 19, 20, 21, 22, 23, 24, 25, 26, 27, 28, 29, 30, 31, 32, 33, 34, 35, 36, 37, 38, 39, 40, 41, 42, 43, 44, 45, 46, 47, 48, 52, 53, 54, 55, 56, 57, 58, 59, 60, 61, 62, 63, 64, 65, 66, 67, 68, 69, 70, 71] (by decide +kernel) (by decide +kernel)
set_option maxRecDepth 20000 in
theorem gX2_push_X3_copyFrom : GoodIn wsX2_push (wsV RX2 23 RX3 yX3_copyFrom wsX3_copyFrom) := goodIn_app (goodIn_of _ (by decide +kernel)) ggX2_push_X3_copyFrom
theorem dX2_push_0 : decode cX2_push 0 = .ok (.aload_n 0, 1) := by decide +kernel
theorem dX2_push_1 : decode cX2_push 1 = .ok (.getfield 11, 3) := by decide +kernel
theorem dX2_push_4 : decode cX2_push 4 = .ok (.aload_n 0, 1) := by decide +kernel
theorem dX2_push_5 : decode cX2_push 5 = .ok (.getfield 15, 3) := by decide +kernel
theorem dX2_push_8 : decode cX2_push 8 = .ok (.aaload, 1) := by decide +kernel
theorem dX2_push_9 : decode cX2_push 9 = .ok (.aload_n 1, 1) := by decide +kernel
theorem dX2_push_10 : decode cX2_push 10 = .ok (.invokevirtual 23, 3) := by decide +kernel
theorem dX2_push_13 : decode cX2_push 13 = .ok (.aload_n 0, 1) := by decide +kernel
theorem dX2_push_14 : decode cX2_push 14 = .ok (.aload_n 0, 1) := by decide +kernel
theorem dX2_push_15 : decode cX2_push 15 = .ok (.getfield 15, 3) := by decide +kernel
theorem dX2_push_18 : decode cX2_push 18 = .ok (.iconst 1, 1) := by decide +kernel
theorem dX2_push_19 : decode cX2_push 19 = .ok (.iadd, 1) := by decide +kernel
theorem dX2_push_20 : decode cX2_push 20 = .ok (.bipush 6, 2) := by decide +kernel
theorem dX2_push_22 : decode cX2_push 22 = .ok (.irem, 1) := by decide +kernel
theorem dX2_push_23 : decode cX2_push 23 = .ok (.putfield 15, 3) := by decide +kernel
theorem dX2_push_26 : decode cX2_push 26 = .ok (.aload_n 0, 1) := by decide +kernel
theorem dX2_push_27 : decode cX2_push 27 = .ok (.bipush 6, 2) := by decide +kernel
theorem dX2_push_29 : decode cX2_push 29 = .ok (.aload_n 0, 1) := by decide +kernel
theorem dX2_push_30 : decode cX2_push 30 = .ok (.getfield 19, 3) := by decide +kernel
theorem dX2_push_33 : decode cX2_push 33 = .ok (.iconst 1, 1) := by decide +kernel
theorem dX2_push_34 : decode cX2_push 34 = .ok (.iadd, 1) := by decide +kernel
theorem dX2_push_35 : decode cX2_push 35 = .ok (.invokestatic 27, 3) := by decide +kernel
theorem dX2_push_38 : decode cX2_push 38 = .ok (.putfield 19, 3) := by decide +kernel
theorem dX2_push_41 : decode cX2_push 41 = .ok (.return_, 1) := by decide +kernel
set_option maxRecDepth 20000 in
theorem ggX2_popInto_X3_copyFrom : GoodIn wsX2_popInto wsX3_copyFrom := goodIn_r _ [8, 9, 10, 11, 12, 13, 14, 15, 16, 17, 18, 19, 20, 21, 22, 23, 24, 25, 26, 27, 28, 29, 30, 31, 32, 33, 34, 35, 36, 37, 38, 39, 40, 41, 42, 43, 44, 48, 49, 50, 51, 52, 53, 54, 55, 56, 57, 58, 59, 60, 61, 62, 63, 64, 65, 66, 67] (by decide +kernel) (by decide +kernel)
set_option maxRecDepth 20000 in
theorem gX2_popInto_X3_copyFrom : GoodIn wsX2_popInto (wsV RX2 23 RX3 yX3_copyFrom wsX3_copyFrom) := goodIn_app (goodIn_of _ (by decide +kernel)) ggX2_popInto_X3_copyFrom
theorem dX2_popInto_0 : decode cX2_popInto 0 = .ok (.aload_n 0, 1) := by decide +kernel
theorem dX2_popInto_1 : decode cX2_popInto 1 = .ok (.getfield 19, 3) := by decide +kernel
theorem dX2_popInto_4 : decode cX2_popInto 4 = .ok (.ifCond .ne 4, 3) := by decide +kernel
theorem dX2_popInto_7 : decode cX2_popInto 7 = .ok (.return_, 1) := by decide +kernel
theorem dX2_popInto_8 : decode cX2_popInto 8 = .ok (.aload_n 0, 1) := by decide +kernel
theorem dX2_popInto_9 : decode cX2_popInto 9 = .ok (.aload_n 0, 1) := by decide +kernel
theorem dX2_popInto_10 : decode cX2_popInto 10 = .ok (.getfield 15, 3) := by decide +kernel
theorem dX2_popInto_13 : decode cX2_popInto 13 = .ok (.bipush 6, 2) := by decide +kernel
theorem dX2_popInto_15 : decode cX2_popInto 15 = .ok (.iadd, 1) := by decide +kernel
theorem dX2_popInto_16 : decode cX2_popInto 16 = .ok (.iconst 1, 1) := by decide +kernel
theorem dX2_popInto_17 : decode cX2_popInto 17 = .ok (.isub, 1) := by decide +kernel
theorem dX2_popInto_18 : decode cX2_popInto 18 = .ok (.bipush 6, 2) := by decide +kernel
theorem dX2_popInto_20 : decode cX2_popInto 20 = .ok (.irem, 1) := by decide +kernel
theorem dX2_popInto_21 : decode cX2_popInto 21 = .ok (.putfield 15, 3) := by decide +kernel
theorem dX2_popInto_24 : decode cX2_popInto 24 = .ok (.aload_n 0, 1) := by decide +kernel
theorem dX2_popInto_25 : decode cX2_popInto 25 = .ok (.dup, 1) := by decide +kernel
theorem dX2_popInto_26 : decode cX2_popInto 26 = .ok (.getfield 19, 3) := by decide +kernel
theorem dX2_popInto_29 : decode cX2_popInto 29 = .ok (.iconst 1, 1) := by decide +kernel
theorem dX2_popInto_30 : decode cX2_popInto 30 = .ok (.isub, 1) := by decide +kernel
theorem dX2_popInto_31 : decode cX2_popInto 31 = .ok (.putfield 19, 3) := by decide +kernel
theorem dX2_popInto_34 : decode cX2_popInto 34 = .ok (.aload_n 1, 1) := by decide +kernel
theorem dX2_popInto_35 : decode cX2_popInto 35 = .ok (.aload_n 0, 1) := by decide +kernel
theorem dX2_popInto_36 : decode cX2_popInto 36 = .ok (.getfield 11, 3) := by decide +kernel
theorem dX2_popInto_39 : decode cX2_popInto 39 = .ok (.aload_n 0, 1) := by decide +kernel
theorem dX2_popInto_40 : decode cX2_popInto 40 = .ok (.getfield 15, 3) := by decide +kernel
theorem dX2_popInto_43 : decode cX2_popInto 43 = .ok (.aaload, 1) := by decide +kernel
theorem dX2_popInto_44 : decode cX2_popInto 44 = .ok (.invokevirtual 23, 3) := by decide +kernel
theorem dX2_popInto_47 : decode cX2_popInto 47 = .ok (.return_, 1) := by decide +kernel
set_option maxRecDepth 20000 in
theorem ggX3_init_X4_init : GoodIn wsX3_init wsX4_init := goodIn_r _ [25, 26, 2, 3, 27, 28, 14, 15, 16, 17, 29, 30, 31, 32, 33, 34, 35, 36, 37, 38, 39, 40, 47, 48, 49, 50, 51, 52, 53, 54, 55, 56, 57] (by decide +kernel) (by decide +kernel)
set_option maxRecDepth 20000 in
theorem gX3_init_X4_init_n11 : GoodIn wsX3_init (wsX4_init) := ggX3_init_X4_init
set_option maxRecDepth 20000 in
theorem ggX3_init_X1_init : GoodIn wsX3_init wsX1_init := goodIn_r _ [42, 43, 2, 3, 44, 45, 46, 65, 66] (by decide +kernel) (by decide +kernel)
set_option maxRecDepth 20000 in
theorem gX3_init_X1_init_n20 : GoodIn wsX3_init (wsX1_init) := ggX3_init_X1_init
theorem dX3_init_0 : decode cX3_init 0 = .ok (.aload_n 0, 1) := by decide +kernel
theorem dX3_init_1 : decode cX3_init 1 = .ok (.invokespecial 3, 3) := by decide +kernel
theorem dX3_init_4 : decode cX3_init 4 = .ok (.aload_n 0, 1) := by decide +kernel
theorem dX3_init_5 : decode cX3_init 5 = .ok (.new 9, 3) := by decide +kernel
theorem dX3_init_8 : decode cX3_init 8 = .ok (.dup, 1) := by decide +kernel
theorem dX3_init_9 : decode cX3_init 9 = .ok (.invokespecial 11, 3) := by decide +kernel
theorem dX3_init_12 : decode cX3_init 12 = .ok (.putfield 12, 3) := by decide +kernel
theorem dX3_init_15 : decode cX3_init 15 = .ok (.aload_n 0, 1) := by decide +kernel
theorem dX3_init_16 : decode cX3_init 16 = .ok (.new 18, 3) := by decide +kernel
theorem dX3_init_19 : decode cX3_init 19 = .ok (.dup, 1) := by decide +kernel
theorem dX3_init_20 : decode cX3_init 20 = .ok (.invokespecial 20, 3) := by decide +kernel
theorem dX3_init_23 : decode cX3_init 23 = .ok (.putfield 21, 3) := by decide +kernel
theorem dX3_init_26 : decode cX3_init 26 = .ok (.aload_n 0, 1) := by decide +kernel
theorem dX3_init_27 : decode cX3_init 27 = .ok (.getstatic 25, 3) := by decide +kernel
theorem dX3_init_30 : decode cX3_init 30 = .ok (.invokevirtual 29, 3) := by decide +kernel
theorem dX3_init_33 : decode cX3_init 33 = .ok (.checkcast 30, 3) := by decide +kernel
theorem dX3_init_36 : decode cX3_init 36 = .ok (.putfield 34, 3) := by decide +kernel
theorem dX3_init_39 : decode cX3_init 39 = .ok (.aload_n 0, 1) := by decide +kernel
theorem dX3_init_40 : decode cX3_init 40 = .ok (.iconst 0, 1) := by decide +kernel
theorem dX3_init_41 : decode cX3_init 41 = .ok (.putfield 37, 3) := by decide +kernel
theorem dX3_init_44 : decode cX3_init 44 = .ok (.aload_n 0, 1) := by decide +kernel
theorem dX3_init_45 : decode cX3_init 45 = .ok (.iconst (-1), 1) := by decide +kernel
theorem dX3_init_46 : decode cX3_init 46 = .ok (.putfield 41, 3) := by decide +kernel
theorem dX3_init_49 : decode cX3_init 49 = .ok (.aload_n 0, 1) := by decide +kernel
theorem dX3_init_50 : decode cX3_init 50 = .ok (.iconst (-1), 1) := by decide +kernel
theorem dX3_init_51 : decode cX3_init 51 = .ok (.putfield 44, 3) := by decide +kernel
theorem dX3_init_54 : decode cX3_init 54 = .ok (.aload_n 0, 1) := by decide +kernel
theorem dX3_init_55 : decode cX3_init 55 = .ok (.iconst (-1), 1) := by decide +kernel
theorem dX3_init_56 : decode cX3_init 56 = .ok (.putfield 47, 3) := by decide +kernel
theorem dX3_init_59 : decode cX3_init 59 = .ok (.return_, 1) := by decide +kernel
set_option maxRecDepth 20000 in
theorem ggX3_whyNoReading_X4_swingIn : GoodIn wsX3_whyNoReading wsX4_swingIn := goodIn_r _ [10, 11, 12, 13, 14, 15, 16, 38, 39, 40, 41, 42, 43, 44, 45, 46, 47, 48] (by decide +kernel) (by decide +kernel)
set_option maxRecDepth 20000 in
theorem gX3_whyNoReading_X4_swingIn : GoodIn wsX3_whyNoReading (wsV RX3 53 RX4 yX4_swingIn wsX4_swingIn) := goodIn_app (goodIn_of _ (by decide +kernel)) ggX3_whyNoReading_X4_swingIn
set_option maxRecDepth 20000 in
theorem ggX3_whyNoReading_X4_beatErrorIn : GoodIn wsX3_whyNoReading wsX4_beatErrorIn := goodIn_r _ [20, 21, 22, 23, 15, 24, 12, 38, 39, 40, 41, 42, 43, 44, 45, 46, 47, 48] (by decide +kernel) (by decide +kernel)
set_option maxRecDepth 20000 in
theorem gX3_whyNoReading_X4_beatErrorIn : GoodIn wsX3_whyNoReading (wsV RX3 57 RX4 yX4_beatErrorIn wsX4_beatErrorIn) := goodIn_app (goodIn_of _ (by decide +kernel)) ggX3_whyNoReading_X4_beatErrorIn
set_option maxRecDepth 20000 in
theorem ggX3_whyNoReading_X1_isFull : GoodIn wsX3_whyNoReading wsX1_isFull := goodIn_r _ [29, 30, 49, 50] (by decide +kernel) (by decide +kernel)
set_option maxRecDepth 20000 in
theorem gX3_whyNoReading_X1_isFull : GoodIn wsX3_whyNoReading (wsV RX3 63 RX1 yX1_isFull wsX1_isFull) := goodIn_app (goodIn_of _ (by decide +kernel)) ggX3_whyNoReading_X1_isFull
theorem dX3_whyNoReading_0 : decode cX3_whyNoReading 0 = .ok (.aload_n 0, 1) := by decide +kernel
theorem dX3_whyNoReading_1 : decode cX3_whyNoReading 1 = .ok (.getfield 12, 3) := by decide +kernel
theorem dX3_whyNoReading_4 : decode cX3_whyNoReading 4 = .ok (.getfield 50, 3) := by decide +kernel
theorem dX3_whyNoReading_7 : decode cX3_whyNoReading 7 = .ok (.ifCond .gt 5, 3) := by decide +kernel
theorem dX3_whyNoReading_10 : decode cX3_whyNoReading 10 = .ok (.iconst 1, 1) := by decide +kernel
theorem dX3_whyNoReading_11 : decode cX3_whyNoReading 11 = .ok (.ireturn, 1) := by decide +kernel
theorem dX3_whyNoReading_12 : decode cX3_whyNoReading 12 = .ok (.aload_n 0, 1) := by decide +kernel
theorem dX3_whyNoReading_13 : decode cX3_whyNoReading 13 = .ok (.getfield 12, 3) := by decide +kernel
theorem dX3_whyNoReading_16 : decode cX3_whyNoReading 16 = .ok (.iload_n 1, 1) := by decide +kernel
theorem dX3_whyNoReading_17 : decode cX3_whyNoReading 17 = .ok (.invokevirtual 53, 3) := by decide +kernel
theorem dX3_whyNoReading_20 : decode cX3_whyNoReading 20 = .ok (.bipush 120, 2) := by decide +kernel
theorem dX3_whyNoReading_22 : decode cX3_whyNoReading 22 = .ok (.if_icmp .ge 5, 3) := by decide +kernel
theorem dX3_whyNoReading_25 : decode cX3_whyNoReading 25 = .ok (.iconst 2, 1) := by decide +kernel
theorem dX3_whyNoReading_26 : decode cX3_whyNoReading 26 = .ok (.ireturn, 1) := by decide +kernel
theorem dX3_whyNoReading_27 : decode cX3_whyNoReading 27 = .ok (.aload_n 0, 1) := by decide +kernel
theorem dX3_whyNoReading_28 : decode cX3_whyNoReading 28 = .ok (.getfield 12, 3) := by decide +kernel
theorem dX3_whyNoReading_31 : decode cX3_whyNoReading 31 = .ok (.iload_n 1, 1) := by decide +kernel
theorem dX3_whyNoReading_32 : decode cX3_whyNoReading 32 = .ok (.invokevirtual 57, 3) := by decide +kernel
theorem dX3_whyNoReading_35 : decode cX3_whyNoReading 35 = .ok (.aload_n 0, 1) := by decide +kernel
theorem dX3_whyNoReading_36 : decode cX3_whyNoReading 36 = .ok (.getfield 34, 3) := by decide +kernel
theorem dX3_whyNoReading_39 : decode cX3_whyNoReading 39 = .ok (.iconst 0, 1) := by decide +kernel
theorem dX3_whyNoReading_40 : decode cX3_whyNoReading 40 = .ok (.iaload, 1) := by decide +kernel
theorem dX3_whyNoReading_41 : decode cX3_whyNoReading 41 = .ok (.if_icmp .le 5, 3) := by decide +kernel
theorem dX3_whyNoReading_44 : decode cX3_whyNoReading 44 = .ok (.iconst 3, 1) := by decide +kernel
theorem dX3_whyNoReading_45 : decode cX3_whyNoReading 45 = .ok (.ireturn, 1) := by decide +kernel
theorem dX3_whyNoReading_46 : decode cX3_whyNoReading 46 = .ok (.aload_n 0, 1) := by decide +kernel
theorem dX3_whyNoReading_47 : decode cX3_whyNoReading 47 = .ok (.getfield 12, 3) := by decide +kernel
theorem dX3_whyNoReading_50 : decode cX3_whyNoReading 50 = .ok (.getfield 60, 3) := by decide +kernel
theorem dX3_whyNoReading_53 : decode cX3_whyNoReading 53 = .ok (.aload_n 0, 1) := by decide +kernel
theorem dX3_whyNoReading_54 : decode cX3_whyNoReading 54 = .ok (.getfield 34, 3) := by decide +kernel
theorem dX3_whyNoReading_57 : decode cX3_whyNoReading 57 = .ok (.iconst 1, 1) := by decide +kernel
theorem dX3_whyNoReading_58 : decode cX3_whyNoReading 58 = .ok (.iaload, 1) := by decide +kernel
theorem dX3_whyNoReading_59 : decode cX3_whyNoReading 59 = .ok (.if_icmp .le 5, 3) := by decide +kernel
theorem dX3_whyNoReading_62 : decode cX3_whyNoReading 62 = .ok (.iconst 4, 1) := by decide +kernel
theorem dX3_whyNoReading_63 : decode cX3_whyNoReading 63 = .ok (.ireturn, 1) := by decide +kernel
theorem dX3_whyNoReading_64 : decode cX3_whyNoReading 64 = .ok (.aload_n 0, 1) := by decide +kernel
theorem dX3_whyNoReading_65 : decode cX3_whyNoReading 65 = .ok (.getfield 21, 3) := by decide +kernel
theorem dX3_whyNoReading_68 : decode cX3_whyNoReading 68 = .ok (.invokevirtual 63, 3) := by decide +kernel
theorem dX3_whyNoReading_71 : decode cX3_whyNoReading 71 = .ok (.ifCond .eq 7, 3) := by decide +kernel
theorem dX3_whyNoReading_74 : decode cX3_whyNoReading 74 = .ok (.iconst 5, 1) := by decide +kernel
theorem dX3_whyNoReading_75 : decode cX3_whyNoReading 75 = .ok (.goto 4, 3) := by decide +kernel
theorem dX3_whyNoReading_78 : decode cX3_whyNoReading 78 = .ok (.iconst 0, 1) := by decide +kernel
theorem dX3_whyNoReading_79 : decode cX3_whyNoReading 79 = .ok (.ireturn, 1) := by decide +kernel
set_option maxRecDepth 20000 in
theorem ggX3_makeReading_X1_print : GoodIn wsX3_makeReading wsX1_print := goodIn_r _ [9, 10, 11, 12, 13, 14, 15, 16, 8, 17, 18, 19, 20, 21, 22, 23, 24, 25, 26, 27, 28, 29, 30, 31, 32, 33, 34, 35, 36, 37, 38, 39, 40, 41, 42, 43, 44, 45, 46, 47, 48, 49, 50, 51, 52, 53, 54, 55, 74, 75, 63, 64, 65, 66, 67, 68, 69, 70, 71, 72, 73] (by decide +kernel) (by decide +kernel)
set_option maxRecDepth 20000 in
theorem gX3_makeReading_X1_print : GoodIn wsX3_makeReading (wsV RX3 70 RX1 yX1_print wsX1_print) := goodIn_app (goodIn_of _ (by decide +kernel)) ggX3_makeReading_X1_print
theorem dX3_makeReading_0 : decode cX3_makeReading 0 = .ok (.aload_n 0, 1) := by decide +kernel
theorem dX3_makeReading_1 : decode cX3_makeReading 1 = .ok (.getfield 12, 3) := by decide +kernel
theorem dX3_makeReading_4 : decode cX3_makeReading 4 = .ok (.iload_n 1, 1) := by decide +kernel
theorem dX3_makeReading_5 : decode cX3_makeReading 5 = .ok (.putfield 67, 3) := by decide +kernel
theorem dX3_makeReading_8 : decode cX3_makeReading 8 = .ok (.aload_n 0, 1) := by decide +kernel
theorem dX3_makeReading_9 : decode cX3_makeReading 9 = .ok (.getfield 21, 3) := by decide +kernel
theorem dX3_makeReading_12 : decode cX3_makeReading 12 = .ok (.aload_n 0, 1) := by decide +kernel
theorem dX3_makeReading_13 : decode cX3_makeReading 13 = .ok (.getfield 12, 3) := by decide +kernel
theorem dX3_makeReading_16 : decode cX3_makeReading 16 = .ok (.invokevirtual 70, 3) := by decide +kernel
theorem dX3_makeReading_19 : decode cX3_makeReading 19 = .ok (.aload_n 0, 1) := by decide +kernel
theorem dX3_makeReading_20 : decode cX3_makeReading 20 = .ok (.dup, 1) := by decide +kernel
theorem dX3_makeReading_21 : decode cX3_makeReading 21 = .ok (.getfield 37, 3) := by decide +kernel
theorem dX3_makeReading_24 : decode cX3_makeReading 24 = .ok (.iconst 1, 1) := by decide +kernel
theorem dX3_makeReading_25 : decode cX3_makeReading 25 = .ok (.iadd, 1) := by decide +kernel
theorem dX3_makeReading_26 : decode cX3_makeReading 26 = .ok (.putfield 37, 3) := by decide +kernel
theorem dX3_makeReading_29 : decode cX3_makeReading 29 = .ok (.return_, 1) := by decide +kernel
set_option maxRecDepth 20000 in
theorem ggX3_whyNoDayRate_X1_latestIn : GoodIn wsX3_whyNoDayRate wsX1_latestIn := goodIn_r _ [18, 19, 20, 21, 22, 17, 23, 24, 44, 45] (by decide +kernel) (by decide +kernel)
set_option maxRecDepth 20000 in
theorem gX3_whyNoDayRate_X1_latestIn : GoodIn wsX3_whyNoDayRate (wsV RX3 76 RX1 yX1_latestIn wsX1_latestIn) := goodIn_app (goodIn_of _ (by decide +kernel)) ggX3_whyNoDayRate_X1_latestIn
set_option maxRecDepth 20000 in
theorem ggX3_whyNoDayRate_X1_number : GoodIn wsX3_whyNoDayRate wsX1_number := goodIn_r _ [23, 19, 24, 44, 45] (by decide +kernel) (by decide +kernel)
set_option maxRecDepth 20000 in
theorem gX3_whyNoDayRate_X1_number : GoodIn wsX3_whyNoDayRate (wsV RX3 79 RX1 yX1_number wsX1_number) := goodIn_app (goodIn_of _ (by decide +kernel)) ggX3_whyNoDayRate_X1_number
theorem dX3_whyNoDayRate_0 : decode cX3_whyNoDayRate 0 = .ok (.ldc 74, 2) := by decide +kernel
theorem dX3_whyNoDayRate_2 : decode cX3_whyNoDayRate 2 = .ok (.istore_n 1, 1) := by decide +kernel
theorem dX3_whyNoDayRate_3 : decode cX3_whyNoDayRate 3 = .ok (.ldc 74, 2) := by decide +kernel
theorem dX3_whyNoDayRate_5 : decode cX3_whyNoDayRate 5 = .ok (.istore_n 2, 1) := by decide +kernel
theorem dX3_whyNoDayRate_6 : decode cX3_whyNoDayRate 6 = .ok (.ldc 75, 2) := by decide +kernel
theorem dX3_whyNoDayRate_8 : decode cX3_whyNoDayRate 8 = .ok (.istore_n 3, 1) := by decide +kernel
theorem dX3_whyNoDayRate_9 : decode cX3_whyNoDayRate 9 = .ok (.iconst 0, 1) := by decide +kernel
theorem dX3_whyNoDayRate_10 : decode cX3_whyNoDayRate 10 = .ok (.istore 4, 2) := by decide +kernel
theorem dX3_whyNoDayRate_12 : decode cX3_whyNoDayRate 12 = .ok (.iload 4, 2) := by decide +kernel
theorem dX3_whyNoDayRate_14 : decode cX3_whyNoDayRate 14 = .ok (.bipush 6, 2) := by decide +kernel
theorem dX3_whyNoDayRate_16 : decode cX3_whyNoDayRate 16 = .ok (.if_icmp .ge 70, 3) := by decide +kernel
theorem dX3_whyNoDayRate_19 : decode cX3_whyNoDayRate 19 = .ok (.aload_n 0, 1) := by decide +kernel
theorem dX3_whyNoDayRate_20 : decode cX3_whyNoDayRate 20 = .ok (.getfield 21, 3) := by decide +kernel
theorem dX3_whyNoDayRate_23 : decode cX3_whyNoDayRate 23 = .ok (.iload 4, 2) := by decide +kernel
theorem dX3_whyNoDayRate_25 : decode cX3_whyNoDayRate 25 = .ok (.invokevirtual 76, 3) := by decide +kernel
theorem dX3_whyNoDayRate_28 : decode cX3_whyNoDayRate 28 = .ok (.istore 5, 2) := by decide +kernel
theorem dX3_whyNoDayRate_30 : decode cX3_whyNoDayRate 30 = .ok (.iload 5, 2) := by decide +kernel
theorem dX3_whyNoDayRate_32 : decode cX3_whyNoDayRate 32 = .ok (.iconst (-1), 1) := by decide +kernel
theorem dX3_whyNoDayRate_33 : decode cX3_whyNoDayRate 33 = .ok (.if_icmp .ne 6, 3) := by decide +kernel
theorem dX3_whyNoDayRate_36 : decode cX3_whyNoDayRate 36 = .ok (.bipush 6, 2) := by decide +kernel
theorem dX3_whyNoDayRate_38 : decode cX3_whyNoDayRate 38 = .ok (.ireturn, 1) := by decide +kernel
theorem dX3_whyNoDayRate_39 : decode cX3_whyNoDayRate 39 = .ok (.aload_n 0, 1) := by decide +kernel
theorem dX3_whyNoDayRate_40 : decode cX3_whyNoDayRate 40 = .ok (.getfield 21, 3) := by decide +kernel
theorem dX3_whyNoDayRate_43 : decode cX3_whyNoDayRate 43 = .ok (.iload 5, 2) := by decide +kernel
theorem dX3_whyNoDayRate_45 : decode cX3_whyNoDayRate 45 = .ok (.iconst 2, 1) := by decide +kernel
theorem dX3_whyNoDayRate_46 : decode cX3_whyNoDayRate 46 = .ok (.invokevirtual 79, 3) := by decide +kernel
theorem dX3_whyNoDayRate_49 : decode cX3_whyNoDayRate 49 = .ok (.istore 6, 2) := by decide +kernel
theorem dX3_whyNoDayRate_51 : decode cX3_whyNoDayRate 51 = .ok (.iload_n 1, 1) := by decide +kernel
theorem dX3_whyNoDayRate_52 : decode cX3_whyNoDayRate 52 = .ok (.aload_n 0, 1) := by decide +kernel
theorem dX3_whyNoDayRate_53 : decode cX3_whyNoDayRate 53 = .ok (.getfield 21, 3) := by decide +kernel
theorem dX3_whyNoDayRate_56 : decode cX3_whyNoDayRate 56 = .ok (.iload 5, 2) := by decide +kernel
theorem dX3_whyNoDayRate_58 : decode cX3_whyNoDayRate 58 = .ok (.iconst 0, 1) := by decide +kernel
theorem dX3_whyNoDayRate_59 : decode cX3_whyNoDayRate 59 = .ok (.invokevirtual 79, 3) := by decide +kernel
theorem dX3_whyNoDayRate_62 : decode cX3_whyNoDayRate 62 = .ok (.invokestatic 83, 3) := by decide +kernel
theorem dX3_whyNoDayRate_65 : decode cX3_whyNoDayRate 65 = .ok (.istore_n 1, 1) := by decide +kernel
theorem dX3_whyNoDayRate_66 : decode cX3_whyNoDayRate 66 = .ok (.iload_n 2, 1) := by decide +kernel
theorem dX3_whyNoDayRate_67 : decode cX3_whyNoDayRate 67 = .ok (.iload 6, 2) := by decide +kernel
theorem dX3_whyNoDayRate_69 : decode cX3_whyNoDayRate 69 = .ok (.invokestatic 83, 3) := by decide +kernel
theorem dX3_whyNoDayRate_72 : decode cX3_whyNoDayRate 72 = .ok (.istore_n 2, 1) := by decide +kernel
theorem dX3_whyNoDayRate_73 : decode cX3_whyNoDayRate 73 = .ok (.iload_n 3, 1) := by decide +kernel
theorem dX3_whyNoDayRate_74 : decode cX3_whyNoDayRate 74 = .ok (.iload 6, 2) := by decide +kernel
theorem dX3_whyNoDayRate_76 : decode cX3_whyNoDayRate 76 = .ok (.invokestatic 88, 3) := by decide +kernel
theorem dX3_whyNoDayRate_79 : decode cX3_whyNoDayRate 79 = .ok (.istore_n 3, 1) := by decide +kernel
theorem dX3_whyNoDayRate_80 : decode cX3_whyNoDayRate 80 = .ok (.iinc 4 1, 3) := by decide +kernel
theorem dX3_whyNoDayRate_83 : decode cX3_whyNoDayRate 83 = .ok (.goto (-71), 3) := by decide +kernel
theorem dX3_whyNoDayRate_86 : decode cX3_whyNoDayRate 86 = .ok (.aload_n 0, 1) := by decide +kernel
theorem dX3_whyNoDayRate_87 : decode cX3_whyNoDayRate 87 = .ok (.getfield 12, 3) := by decide +kernel
theorem dX3_whyNoDayRate_90 : decode cX3_whyNoDayRate 90 = .ok (.getfield 91, 3) := by decide +kernel
theorem dX3_whyNoDayRate_93 : decode cX3_whyNoDayRate 93 = .ok (.iload_n 1, 1) := by decide +kernel
theorem dX3_whyNoDayRate_94 : decode cX3_whyNoDayRate 94 = .ok (.isub, 1) := by decide +kernel
theorem dX3_whyNoDayRate_95 : decode cX3_whyNoDayRate 95 = .ok (.aload_n 0, 1) := by decide +kernel
theorem dX3_whyNoDayRate_96 : decode cX3_whyNoDayRate 96 = .ok (.getfield 34, 3) := by decide +kernel
theorem dX3_whyNoDayRate_99 : decode cX3_whyNoDayRate 99 = .ok (.iconst 2, 1) := by decide +kernel
theorem dX3_whyNoDayRate_100 : decode cX3_whyNoDayRate 100 = .ok (.iaload, 1) := by decide +kernel
theorem dX3_whyNoDayRate_101 : decode cX3_whyNoDayRate 101 = .ok (.if_icmp .le 6, 3) := by decide +kernel
theorem dX3_whyNoDayRate_104 : decode cX3_whyNoDayRate 104 = .ok (.bipush 7, 2) := by decide +kernel
theorem dX3_whyNoDayRate_106 : decode cX3_whyNoDayRate 106 = .ok (.ireturn, 1) := by decide +kernel
theorem dX3_whyNoDayRate_107 : decode cX3_whyNoDayRate 107 = .ok (.iload_n 3, 1) := by decide +kernel
theorem dX3_whyNoDayRate_108 : decode cX3_whyNoDayRate 108 = .ok (.iload_n 2, 1) := by decide +kernel
theorem dX3_whyNoDayRate_109 : decode cX3_whyNoDayRate 109 = .ok (.isub, 1) := by decide +kernel
theorem dX3_whyNoDayRate_110 : decode cX3_whyNoDayRate 110 = .ok (.aload_n 0, 1) := by decide +kernel
theorem dX3_whyNoDayRate_111 : decode cX3_whyNoDayRate 111 = .ok (.getfield 34, 3) := by decide +kernel
theorem dX3_whyNoDayRate_114 : decode cX3_whyNoDayRate 114 = .ok (.iconst 3, 1) := by decide +kernel
theorem dX3_whyNoDayRate_115 : decode cX3_whyNoDayRate 115 = .ok (.iaload, 1) := by decide +kernel
theorem dX3_whyNoDayRate_116 : decode cX3_whyNoDayRate 116 = .ok (.if_icmp .le 8, 3) := by decide +kernel
theorem dX3_whyNoDayRate_119 : decode cX3_whyNoDayRate 119 = .ok (.bipush 8, 2) := by decide +kernel
theorem dX3_whyNoDayRate_121 : decode cX3_whyNoDayRate 121 = .ok (.goto 4, 3) := by decide +kernel
theorem dX3_whyNoDayRate_124 : decode cX3_whyNoDayRate 124 = .ok (.iconst 0, 1) := by decide +kernel
theorem dX3_whyNoDayRate_125 : decode cX3_whyNoDayRate 125 = .ok (.ireturn, 1) := by decide +kernel
set_option maxRecDepth 20000 in
theorem ggX3_dayRateByPoses_X3_whyNoDayRate : GoodIn wsX3_dayRateByPoses wsX3_whyNoDayRate := goodIn_r _ [6, 7, 8, 1, 9, 10, 11, 12, 13, 14, 15, 16, 17, 18, 19, 20, 21, 22, 23, 24, 25, 26, 27, 28, 29, 30, 35, 36, 37, 38, 39, 40, 41, 42, 43, 44, 45, 46, 47, 48, 49, 50, 51, 52, 53, 54] (by decide +kernel) (by decide +kernel)
set_option maxRecDepth 20000 in
theorem gX3_dayRateByPoses_X3_whyNoDayRate : GoodIn wsX3_dayRateByPoses (wsV RX3 94 RX3 yX3_whyNoDayRate wsX3_whyNoDayRate) := goodIn_app (goodIn_of _ (by decide +kernel)) ggX3_dayRateByPoses_X3_whyNoDayRate
set_option maxRecDepth 20000 in
theorem ggX3_dayRateByPoses_X1_latestIn : GoodIn wsX3_dayRateByPoses wsX1_latestIn := goodIn_r _ [23, 24, 25, 26, 27, 22, 28, 29, 53, 54] (by decide +kernel) (by decide +kernel)
set_option maxRecDepth 20000 in
theorem gX3_dayRateByPoses_X1_latestIn : GoodIn wsX3_dayRateByPoses (wsV RX3 76 RX1 yX1_latestIn wsX1_latestIn) := goodIn_app (goodIn_of _ (by decide +kernel)) ggX3_dayRateByPoses_X1_latestIn
set_option maxRecDepth 20000 in
theorem ggX3_dayRateByPoses_X1_number : GoodIn wsX3_dayRateByPoses wsX1_number := goodIn_r _ [28, 24, 29, 53, 54] (by decide +kernel) (by decide +kernel)
set_option maxRecDepth 20000 in
theorem gX3_dayRateByPoses_X1_number : GoodIn wsX3_dayRateByPoses (wsV RX3 79 RX1 yX1_number wsX1_number) := goodIn_app (goodIn_of _ (by decide +kernel)) ggX3_dayRateByPoses_X1_number
set_option maxRecDepth 20000 in
theorem ggX3_dayRateByPoses_J9_floorDiv_7cf53 : GoodIn wsX3_dayRateByPoses wsJ9_floorDiv_7cf53 := goodIn_r _ [34] (by decide +kernel) (by decide +kernel)
set_option maxRecDepth 20000 in
theorem gX3_dayRateByPoses_J9_floorDiv_7cf53 : GoodIn wsX3_dayRateByPoses (va_wsS RX3 98 yJ9_floorDiv_7cf53 wsJ9_floorDiv_7cf53) := goodIn_app (goodIn_of _ (by decide +kernel)) ggX3_dayRateByPoses_J9_floorDiv_7cf53
theorem dX3_dayRateByPoses_0 : decode cX3_dayRateByPoses 0 = .ok (.aload_n 0, 1) := by decide +kernel
theorem dX3_dayRateByPoses_1 : decode cX3_dayRateByPoses 1 = .ok (.invokevirtual 94, 3) := by decide +kernel
theorem dX3_dayRateByPoses_4 : decode cX3_dayRateByPoses 4 = .ok (.ifCond .eq 5, 3) := by decide +kernel
theorem dX3_dayRateByPoses_7 : decode cX3_dayRateByPoses 7 = .ok (.iconst (-1), 1) := by decide +kernel
theorem dX3_dayRateByPoses_8 : decode cX3_dayRateByPoses 8 = .ok (.ireturn, 1) := by decide +kernel
theorem dX3_dayRateByPoses_9 : decode cX3_dayRateByPoses 9 = .ok (.iconst 0, 1) := by decide +kernel
theorem dX3_dayRateByPoses_10 : decode cX3_dayRateByPoses 10 = .ok (.istore_n 1, 1) := by decide +kernel
theorem dX3_dayRateByPoses_11 : decode cX3_dayRateByPoses 11 = .ok (.iconst 0, 1) := by decide +kernel
theorem dX3_dayRateByPoses_12 : decode cX3_dayRateByPoses 12 = .ok (.istore_n 2, 1) := by decide +kernel
theorem dX3_dayRateByPoses_13 : decode cX3_dayRateByPoses 13 = .ok (.iload_n 2, 1) := by decide +kernel
theorem dX3_dayRateByPoses_14 : decode cX3_dayRateByPoses 14 = .ok (.bipush 6, 2) := by decide +kernel
theorem dX3_dayRateByPoses_16 : decode cX3_dayRateByPoses 16 = .ok (.if_icmp .ge 28, 3) := by decide +kernel
theorem dX3_dayRateByPoses_19 : decode cX3_dayRateByPoses 19 = .ok (.iload_n 1, 1) := by decide +kernel
theorem dX3_dayRateByPoses_20 : decode cX3_dayRateByPoses 20 = .ok (.aload_n 0, 1) := by decide +kernel
theorem dX3_dayRateByPoses_21 : decode cX3_dayRateByPoses 21 = .ok (.getfield 21, 3) := by decide +kernel
theorem dX3_dayRateByPoses_24 : decode cX3_dayRateByPoses 24 = .ok (.aload_n 0, 1) := by decide +kernel
theorem dX3_dayRateByPoses_25 : decode cX3_dayRateByPoses 25 = .ok (.getfield 21, 3) := by decide +kernel
theorem dX3_dayRateByPoses_28 : decode cX3_dayRateByPoses 28 = .ok (.iload_n 2, 1) := by decide +kernel
theorem dX3_dayRateByPoses_29 : decode cX3_dayRateByPoses 29 = .ok (.invokevirtual 76, 3) := by decide +kernel
theorem dX3_dayRateByPoses_32 : decode cX3_dayRateByPoses 32 = .ok (.iconst 2, 1) := by decide +kernel
theorem dX3_dayRateByPoses_33 : decode cX3_dayRateByPoses 33 = .ok (.invokevirtual 79, 3) := by decide +kernel
theorem dX3_dayRateByPoses_36 : decode cX3_dayRateByPoses 36 = .ok (.iadd, 1) := by decide +kernel
theorem dX3_dayRateByPoses_37 : decode cX3_dayRateByPoses 37 = .ok (.istore_n 1, 1) := by decide +kernel
theorem dX3_dayRateByPoses_38 : decode cX3_dayRateByPoses 38 = .ok (.iinc 2 1, 3) := by decide +kernel
theorem dX3_dayRateByPoses_41 : decode cX3_dayRateByPoses 41 = .ok (.goto (-28), 3) := by decide +kernel
theorem dX3_dayRateByPoses_44 : decode cX3_dayRateByPoses 44 = .ok (.iload_n 1, 1) := by decide +kernel
theorem dX3_dayRateByPoses_45 : decode cX3_dayRateByPoses 45 = .ok (.bipush 6, 2) := by decide +kernel
theorem dX3_dayRateByPoses_47 : decode cX3_dayRateByPoses 47 = .ok (.invokestatic 98, 3) := by decide +kernel
theorem dX3_dayRateByPoses_50 : decode cX3_dayRateByPoses 50 = .ok (.sipush 10000, 3) := by decide +kernel
theorem dX3_dayRateByPoses_53 : decode cX3_dayRateByPoses 53 = .ok (.iadd, 1) := by decide +kernel
theorem dX3_dayRateByPoses_54 : decode cX3_dayRateByPoses 54 = .ok (.ireturn, 1) := by decide +kernel
set_option maxRecDepth 20000 in
theorem ggX3_dayRateByPaper_X1_number : GoodIn wsX3_dayRateByPaper wsX1_number := goodIn_r _ [19, 20, 21, 33, 34] (by decide +kernel) (by decide +kernel)
set_option maxRecDepth 20000 in
theorem gX3_dayRateByPaper_X1_number : GoodIn wsX3_dayRateByPaper (wsV RX3 79 RX1 yX1_number wsX1_number) := goodIn_app (goodIn_of _ (by decide +kernel)) ggX3_dayRateByPaper_X1_number
set_option maxRecDepth 20000 in
theorem ggX3_dayRateByPaper_J9_floorDiv_7cf53 : GoodIn wsX3_dayRateByPaper wsJ9_floorDiv_7cf53 := goodIn_r _ [25] (by decide +kernel) (by decide +kernel)
set_option maxRecDepth 20000 in
theorem gX3_dayRateByPaper_J9_floorDiv_7cf53 : GoodIn wsX3_dayRateByPaper (va_wsS RX3 98 yJ9_floorDiv_7cf53 wsJ9_floorDiv_7cf53) := goodIn_app (goodIn_of _ (by decide +kernel)) ggX3_dayRateByPaper_J9_floorDiv_7cf53
theorem dX3_dayRateByPaper_0 : decode cX3_dayRateByPaper 0 = .ok (.iconst 0, 1) := by decide +kernel
theorem dX3_dayRateByPaper_1 : decode cX3_dayRateByPaper 1 = .ok (.istore_n 1, 1) := by decide +kernel
theorem dX3_dayRateByPaper_2 : decode cX3_dayRateByPaper 2 = .ok (.iconst 0, 1) := by decide +kernel
theorem dX3_dayRateByPaper_3 : decode cX3_dayRateByPaper 3 = .ok (.istore_n 2, 1) := by decide +kernel
theorem dX3_dayRateByPaper_4 : decode cX3_dayRateByPaper 4 = .ok (.iconst 0, 1) := by decide +kernel
theorem dX3_dayRateByPaper_5 : decode cX3_dayRateByPaper 5 = .ok (.istore_n 3, 1) := by decide +kernel
theorem dX3_dayRateByPaper_6 : decode cX3_dayRateByPaper 6 = .ok (.ldc 74, 2) := by decide +kernel
theorem dX3_dayRateByPaper_8 : decode cX3_dayRateByPaper 8 = .ok (.istore 4, 2) := by decide +kernel
theorem dX3_dayRateByPaper_10 : decode cX3_dayRateByPaper 10 = .ok (.ldc 75, 2) := by decide +kernel
theorem dX3_dayRateByPaper_12 : decode cX3_dayRateByPaper 12 = .ok (.istore 5, 2) := by decide +kernel
theorem dX3_dayRateByPaper_14 : decode cX3_dayRateByPaper 14 = .ok (.aload_n 0, 1) := by decide +kernel
theorem dX3_dayRateByPaper_15 : decode cX3_dayRateByPaper 15 = .ok (.getfield 21, 3) := by decide +kernel
theorem dX3_dayRateByPaper_18 : decode cX3_dayRateByPaper 18 = .ok (.getfield 101, 3) := by decide +kernel
theorem dX3_dayRateByPaper_21 : decode cX3_dayRateByPaper 21 = .ok (.iconst 1, 1) := by decide +kernel
theorem dX3_dayRateByPaper_22 : decode cX3_dayRateByPaper 22 = .ok (.isub, 1) := by decide +kernel
theorem dX3_dayRateByPaper_23 : decode cX3_dayRateByPaper 23 = .ok (.istore 6, 2) := by decide +kernel
theorem dX3_dayRateByPaper_25 : decode cX3_dayRateByPaper 25 = .ok (.iload 6, 2) := by decide +kernel
theorem dX3_dayRateByPaper_27 : decode cX3_dayRateByPaper 27 = .ok (.ifCond .lt 111, 3) := by decide +kernel
theorem dX3_dayRateByPaper_30 : decode cX3_dayRateByPaper 30 = .ok (.iload_n 2, 1) := by decide +kernel
theorem dX3_dayRateByPaper_31 : decode cX3_dayRateByPaper 31 = .ok (.bipush 6, 2) := by decide +kernel
theorem dX3_dayRateByPaper_33 : decode cX3_dayRateByPaper 33 = .ok (.if_icmp .ge 105, 3) := by decide +kernel
theorem dX3_dayRateByPaper_36 : decode cX3_dayRateByPaper 36 = .ok (.iconst 1, 1) := by decide +kernel
theorem dX3_dayRateByPaper_37 : decode cX3_dayRateByPaper 37 = .ok (.aload_n 0, 1) := by decide +kernel
theorem dX3_dayRateByPaper_38 : decode cX3_dayRateByPaper 38 = .ok (.getfield 21, 3) := by decide +kernel
theorem dX3_dayRateByPaper_41 : decode cX3_dayRateByPaper 41 = .ok (.iload 6, 2) := by decide +kernel
theorem dX3_dayRateByPaper_43 : decode cX3_dayRateByPaper 43 = .ok (.iconst 1, 1) := by decide +kernel
theorem dX3_dayRateByPaper_44 : decode cX3_dayRateByPaper 44 = .ok (.invokevirtual 79, 3) := by decide +kernel
theorem dX3_dayRateByPaper_47 : decode cX3_dayRateByPaper 47 = .ok (.ishl, 1) := by decide +kernel
theorem dX3_dayRateByPaper_48 : decode cX3_dayRateByPaper 48 = .ok (.istore 7, 2) := by decide +kernel
theorem dX3_dayRateByPaper_50 : decode cX3_dayRateByPaper 50 = .ok (.iload_n 1, 1) := by decide +kernel
theorem dX3_dayRateByPaper_51 : decode cX3_dayRateByPaper 51 = .ok (.iload 7, 2) := by decide +kernel
theorem dX3_dayRateByPaper_53 : decode cX3_dayRateByPaper 53 = .ok (.iand, 1) := by decide +kernel
theorem dX3_dayRateByPaper_54 : decode cX3_dayRateByPaper 54 = .ok (.ifCond .eq 6, 3) := by decide +kernel
theorem dX3_dayRateByPaper_57 : decode cX3_dayRateByPaper 57 = .ok (.goto 75, 3) := by decide +kernel
theorem dX3_dayRateByPaper_60 : decode cX3_dayRateByPaper 60 = .ok (.aload_n 0, 1) := by decide +kernel
theorem dX3_dayRateByPaper_61 : decode cX3_dayRateByPaper 61 = .ok (.getfield 12, 3) := by decide +kernel
theorem dX3_dayRateByPaper_64 : decode cX3_dayRateByPaper 64 = .ok (.getfield 91, 3) := by decide +kernel
theorem dX3_dayRateByPaper_67 : decode cX3_dayRateByPaper 67 = .ok (.aload_n 0, 1) := by decide +kernel
theorem dX3_dayRateByPaper_68 : decode cX3_dayRateByPaper 68 = .ok (.getfield 21, 3) := by decide +kernel
theorem dX3_dayRateByPaper_71 : decode cX3_dayRateByPaper 71 = .ok (.iload 6, 2) := by decide +kernel
theorem dX3_dayRateByPaper_73 : decode cX3_dayRateByPaper 73 = .ok (.iconst 0, 1) := by decide +kernel
theorem dX3_dayRateByPaper_74 : decode cX3_dayRateByPaper 74 = .ok (.invokevirtual 79, 3) := by decide +kernel
theorem dX3_dayRateByPaper_77 : decode cX3_dayRateByPaper 77 = .ok (.isub, 1) := by decide +kernel
theorem dX3_dayRateByPaper_78 : decode cX3_dayRateByPaper 78 = .ok (.aload_n 0, 1) := by decide +kernel
theorem dX3_dayRateByPaper_79 : decode cX3_dayRateByPaper 79 = .ok (.getfield 34, 3) := by decide +kernel
theorem dX3_dayRateByPaper_82 : decode cX3_dayRateByPaper 82 = .ok (.iconst 2, 1) := by decide +kernel
theorem dX3_dayRateByPaper_83 : decode cX3_dayRateByPaper 83 = .ok (.iaload, 1) := by decide +kernel
theorem dX3_dayRateByPaper_84 : decode cX3_dayRateByPaper 84 = .ok (.if_icmp .le 5, 3) := by decide +kernel
theorem dX3_dayRateByPaper_87 : decode cX3_dayRateByPaper 87 = .ok (.iconst (-1), 1) := by decide +kernel
theorem dX3_dayRateByPaper_88 : decode cX3_dayRateByPaper 88 = .ok (.ireturn, 1) := by decide +kernel
theorem dX3_dayRateByPaper_89 : decode cX3_dayRateByPaper 89 = .ok (.aload_n 0, 1) := by decide +kernel
theorem dX3_dayRateByPaper_90 : decode cX3_dayRateByPaper 90 = .ok (.getfield 21, 3) := by decide +kernel
theorem dX3_dayRateByPaper_93 : decode cX3_dayRateByPaper 93 = .ok (.iload 6, 2) := by decide +kernel
theorem dX3_dayRateByPaper_95 : decode cX3_dayRateByPaper 95 = .ok (.iconst 2, 1) := by decide +kernel
theorem dX3_dayRateByPaper_96 : decode cX3_dayRateByPaper 96 = .ok (.invokevirtual 79, 3) := by decide +kernel
theorem dX3_dayRateByPaper_99 : decode cX3_dayRateByPaper 99 = .ok (.istore 8, 2) := by decide +kernel
theorem dX3_dayRateByPaper_101 : decode cX3_dayRateByPaper 101 = .ok (.iload_n 1, 1) := by decide +kernel
theorem dX3_dayRateByPaper_102 : decode cX3_dayRateByPaper 102 = .ok (.iload 7, 2) := by decide +kernel
theorem dX3_dayRateByPaper_104 : decode cX3_dayRateByPaper 104 = .ok (.ior, 1) := by decide +kernel
theorem dX3_dayRateByPaper_105 : decode cX3_dayRateByPaper 105 = .ok (.istore_n 1, 1) := by decide +kernel
theorem dX3_dayRateByPaper_106 : decode cX3_dayRateByPaper 106 = .ok (.iinc 2 1, 3) := by decide +kernel
theorem dX3_dayRateByPaper_109 : decode cX3_dayRateByPaper 109 = .ok (.iload_n 3, 1) := by decide +kernel
theorem dX3_dayRateByPaper_110 : decode cX3_dayRateByPaper 110 = .ok (.iload 8, 2) := by decide +kernel
theorem dX3_dayRateByPaper_112 : decode cX3_dayRateByPaper 112 = .ok (.iadd, 1) := by decide +kernel
theorem dX3_dayRateByPaper_113 : decode cX3_dayRateByPaper 113 = .ok (.istore_n 3, 1) := by decide +kernel
theorem dX3_dayRateByPaper_114 : decode cX3_dayRateByPaper 114 = .ok (.iload 4, 2) := by decide +kernel
theorem dX3_dayRateByPaper_116 : decode cX3_dayRateByPaper 116 = .ok (.iload 8, 2) := by decide +kernel
theorem dX3_dayRateByPaper_118 : decode cX3_dayRateByPaper 118 = .ok (.invokestatic 83, 3) := by decide +kernel
end
section
theorem dX3_dayRateByPaper_121 : decode cX3_dayRateByPaper 121 = .ok (.istore 4, 2) := by decide +kernel
theorem dX3_dayRateByPaper_123 : decode cX3_dayRateByPaper 123 = .ok (.iload 5, 2) := by decide +kernel
theorem dX3_dayRateByPaper_125 : decode cX3_dayRateByPaper 125 = .ok (.iload 8, 2) := by decide +kernel
theorem dX3_dayRateByPaper_127 : decode cX3_dayRateByPaper 127 = .ok (.invokestatic 88, 3) := by decide +kernel
theorem dX3_dayRateByPaper_130 : decode cX3_dayRateByPaper 130 = .ok (.istore 5, 2) := by decide +kernel
theorem dX3_dayRateByPaper_132 : decode cX3_dayRateByPaper 132 = .ok (.iinc 6 (-1), 3) := by decide +kernel
theorem dX3_dayRateByPaper_135 : decode cX3_dayRateByPaper 135 = .ok (.goto (-110), 3) := by decide +kernel
theorem dX3_dayRateByPaper_138 : decode cX3_dayRateByPaper 138 = .ok (.iload_n 2, 1) := by decide +kernel
theorem dX3_dayRateByPaper_139 : decode cX3_dayRateByPaper 139 = .ok (.bipush 6, 2) := by decide +kernel
theorem dX3_dayRateByPaper_141 : decode cX3_dayRateByPaper 141 = .ok (.if_icmp .lt 17, 3) := by decide +kernel
theorem dX3_dayRateByPaper_144 : decode cX3_dayRateByPaper 144 = .ok (.iload 5, 2) := by decide +kernel
theorem dX3_dayRateByPaper_146 : decode cX3_dayRateByPaper 146 = .ok (.iload 4, 2) := by decide +kernel
theorem dX3_dayRateByPaper_148 : decode cX3_dayRateByPaper 148 = .ok (.isub, 1) := by decide +kernel
theorem dX3_dayRateByPaper_149 : decode cX3_dayRateByPaper 149 = .ok (.aload_n 0, 1) := by decide +kernel
theorem dX3_dayRateByPaper_150 : decode cX3_dayRateByPaper 150 = .ok (.getfield 34, 3) := by decide +kernel
theorem dX3_dayRateByPaper_153 : decode cX3_dayRateByPaper 153 = .ok (.iconst 3, 1) := by decide +kernel
theorem dX3_dayRateByPaper_154 : decode cX3_dayRateByPaper 154 = .ok (.iaload, 1) := by decide +kernel
theorem dX3_dayRateByPaper_155 : decode cX3_dayRateByPaper 155 = .ok (.if_icmp .le 5, 3) := by decide +kernel
theorem dX3_dayRateByPaper_158 : decode cX3_dayRateByPaper 158 = .ok (.iconst (-1), 1) := by decide +kernel
theorem dX3_dayRateByPaper_159 : decode cX3_dayRateByPaper 159 = .ok (.ireturn, 1) := by decide +kernel
theorem dX3_dayRateByPaper_160 : decode cX3_dayRateByPaper 160 = .ok (.iload_n 3, 1) := by decide +kernel
theorem dX3_dayRateByPaper_161 : decode cX3_dayRateByPaper 161 = .ok (.bipush 6, 2) := by decide +kernel
theorem dX3_dayRateByPaper_163 : decode cX3_dayRateByPaper 163 = .ok (.invokestatic 98, 3) := by decide +kernel
theorem dX3_dayRateByPaper_166 : decode cX3_dayRateByPaper 166 = .ok (.sipush 10000, 3) := by decide +kernel
theorem dX3_dayRateByPaper_169 : decode cX3_dayRateByPaper 169 = .ok (.iadd, 1) := by decide +kernel
theorem dX3_dayRateByPaper_170 : decode cX3_dayRateByPaper 170 = .ok (.ireturn, 1) := by decide +kernel
set_option maxRecDepth 20000 in
theorem ggX3_copyFrom_X4_copyFrom : GoodIn wsX3_copyFrom wsX4_copyFrom := goodIn_r _ [16, 17, 18, 5, 6, 7, 19, 20, 21, 22, 23, 24, 25, 26, 27, 28, 44, 45, 46, 47, 48, 49, 50, 51, 52, 53, 54] (by decide +kernel) (by decide +kernel)
set_option maxRecDepth 20000 in
theorem gX3_copyFrom_X4_copyFrom : GoodIn wsX3_copyFrom (wsV RX3 108 RX4 yX4_copyFrom wsX4_copyFrom) := goodIn_app (goodIn_of _ (by decide +kernel)) ggX3_copyFrom_X4_copyFrom
set_option maxRecDepth 20000 in
theorem ggX3_copyFrom_X1_copyFrom : GoodIn wsX3_copyFrom wsX1_copyFrom := goodIn_r _ [33, 34, 35, 5, 6, 7, 36, 55, 56] (by decide +kernel) (by decide +kernel)
set_option maxRecDepth 20000 in
theorem gX3_copyFrom_X1_copyFrom : GoodIn wsX3_copyFrom (wsV RX3 111 RX1 yX1_copyFrom wsX1_copyFrom) := goodIn_app (goodIn_of _ (by decide +kernel)) ggX3_copyFrom_X1_copyFrom
theorem dX3_copyFrom_0 : decode cX3_copyFrom 0 = .ok (.aload_n 0, 1) := by decide +kernel
theorem dX3_copyFrom_1 : decode cX3_copyFrom 1 = .ok (.getfield 12, 3) := by decide +kernel
theorem dX3_copyFrom_4 : decode cX3_copyFrom 4 = .ok (.aload_n 1, 1) := by decide +kernel
theorem dX3_copyFrom_5 : decode cX3_copyFrom 5 = .ok (.getfield 12, 3) := by decide +kernel
theorem dX3_copyFrom_8 : decode cX3_copyFrom 8 = .ok (.invokevirtual 108, 3) := by decide +kernel
theorem dX3_copyFrom_11 : decode cX3_copyFrom 11 = .ok (.aload_n 0, 1) := by decide +kernel
theorem dX3_copyFrom_12 : decode cX3_copyFrom 12 = .ok (.getfield 21, 3) := by decide +kernel
theorem dX3_copyFrom_15 : decode cX3_copyFrom 15 = .ok (.aload_n 1, 1) := by decide +kernel
theorem dX3_copyFrom_16 : decode cX3_copyFrom 16 = .ok (.getfield 21, 3) := by decide +kernel
theorem dX3_copyFrom_19 : decode cX3_copyFrom 19 = .ok (.invokevirtual 111, 3) := by decide +kernel
theorem dX3_copyFrom_22 : decode cX3_copyFrom 22 = .ok (.aload_n 1, 1) := by decide +kernel
theorem dX3_copyFrom_23 : decode cX3_copyFrom 23 = .ok (.getfield 34, 3) := by decide +kernel
theorem dX3_copyFrom_26 : decode cX3_copyFrom 26 = .ok (.iconst 0, 1) := by decide +kernel
theorem dX3_copyFrom_27 : decode cX3_copyFrom 27 = .ok (.aload_n 0, 1) := by decide +kernel
theorem dX3_copyFrom_28 : decode cX3_copyFrom 28 = .ok (.getfield 34, 3) := by decide +kernel
theorem dX3_copyFrom_31 : decode cX3_copyFrom 31 = .ok (.iconst 0, 1) := by decide +kernel
theorem dX3_copyFrom_32 : decode cX3_copyFrom 32 = .ok (.iconst 4, 1) := by decide +kernel
theorem dX3_copyFrom_33 : decode cX3_copyFrom 33 = .ok (.invokestatic 114, 3) := by decide +kernel
theorem dX3_copyFrom_36 : decode cX3_copyFrom 36 = .ok (.aload_n 0, 1) := by decide +kernel
theorem dX3_copyFrom_37 : decode cX3_copyFrom 37 = .ok (.aload_n 1, 1) := by decide +kernel
theorem dX3_copyFrom_38 : decode cX3_copyFrom 38 = .ok (.getfield 37, 3) := by decide +kernel
theorem dX3_copyFrom_41 : decode cX3_copyFrom 41 = .ok (.putfield 37, 3) := by decide +kernel
theorem dX3_copyFrom_44 : decode cX3_copyFrom 44 = .ok (.aload_n 0, 1) := by decide +kernel
theorem dX3_copyFrom_45 : decode cX3_copyFrom 45 = .ok (.aload_n 1, 1) := by decide +kernel
theorem dX3_copyFrom_46 : decode cX3_copyFrom 46 = .ok (.getfield 41, 3) := by decide +kernel
theorem dX3_copyFrom_49 : decode cX3_copyFrom 49 = .ok (.putfield 41, 3) := by decide +kernel
theorem dX3_copyFrom_52 : decode cX3_copyFrom 52 = .ok (.aload_n 0, 1) := by decide +kernel
theorem dX3_copyFrom_53 : decode cX3_copyFrom 53 = .ok (.aload_n 1, 1) := by decide +kernel
theorem dX3_copyFrom_54 : decode cX3_copyFrom 54 = .ok (.getfield 44, 3) := by decide +kernel
theorem dX3_copyFrom_57 : decode cX3_copyFrom 57 = .ok (.putfield 44, 3) := by decide +kernel
theorem dX3_copyFrom_60 : decode cX3_copyFrom 60 = .ok (.aload_n 0, 1) := by decide +kernel
theorem dX3_copyFrom_61 : decode cX3_copyFrom 61 = .ok (.aload_n 1, 1) := by decide +kernel
theorem dX3_copyFrom_62 : decode cX3_copyFrom 62 = .ok (.getfield 47, 3) := by decide +kernel
theorem dX3_copyFrom_65 : decode cX3_copyFrom 65 = .ok (.putfield 47, 3) := by decide +kernel
theorem dX3_copyFrom_68 : decode cX3_copyFrom 68 = .ok (.return_, 1) := by decide +kernel
theorem dX4_init_0 : decode cX4_init 0 = .ok (.aload_n 0, 1) := by decide +kernel
theorem dX4_init_1 : decode cX4_init 1 = .ok (.invokespecial 3, 3) := by decide +kernel
theorem dX4_init_4 : decode cX4_init 4 = .ok (.aload_n 0, 1) := by decide +kernel
theorem dX4_init_5 : decode cX4_init 5 = .ok (.getstatic 9, 3) := by decide +kernel
theorem dX4_init_8 : decode cX4_init 8 = .ok (.invokevirtual 15, 3) := by decide +kernel
theorem dX4_init_11 : decode cX4_init 11 = .ok (.checkcast 16, 3) := by decide +kernel
theorem dX4_init_14 : decode cX4_init 14 = .ok (.putfield 20, 3) := by decide +kernel
theorem dX4_init_17 : decode cX4_init 17 = .ok (.aload_n 0, 1) := by decide +kernel
theorem dX4_init_18 : decode cX4_init 18 = .ok (.iconst 0, 1) := by decide +kernel
theorem dX4_init_19 : decode cX4_init 19 = .ok (.putfield 23, 3) := by decide +kernel
theorem dX4_init_22 : decode cX4_init 22 = .ok (.aload_n 0, 1) := by decide +kernel
theorem dX4_init_23 : decode cX4_init 23 = .ok (.bipush 10, 2) := by decide +kernel
theorem dX4_init_25 : decode cX4_init 25 = .ok (.putfield 27, 3) := by decide +kernel
theorem dX4_init_28 : decode cX4_init 28 = .ok (.aload_n 0, 1) := by decide +kernel
theorem dX4_init_29 : decode cX4_init 29 = .ok (.iconst 0, 1) := by decide +kernel
theorem dX4_init_30 : decode cX4_init 30 = .ok (.putfield 30, 3) := by decide +kernel
theorem dX4_init_33 : decode cX4_init 33 = .ok (.aload_n 0, 1) := by decide +kernel
theorem dX4_init_34 : decode cX4_init 34 = .ok (.iconst 0, 1) := by decide +kernel
theorem dX4_init_35 : decode cX4_init 35 = .ok (.putfield 33, 3) := by decide +kernel
theorem dX4_init_38 : decode cX4_init 38 = .ok (.aload_n 0, 1) := by decide +kernel
theorem dX4_init_39 : decode cX4_init 39 = .ok (.iconst 0, 1) := by decide +kernel
theorem dX4_init_40 : decode cX4_init 40 = .ok (.putfield 36, 3) := by decide +kernel
theorem dX4_init_43 : decode cX4_init 43 = .ok (.aload_n 0, 1) := by decide +kernel
theorem dX4_init_44 : decode cX4_init 44 = .ok (.iconst 0, 1) := by decide +kernel
theorem dX4_init_45 : decode cX4_init 45 = .ok (.putfield 39, 3) := by decide +kernel
theorem dX4_init_48 : decode cX4_init 48 = .ok (.aload_n 0, 1) := by decide +kernel
theorem dX4_init_49 : decode cX4_init 49 = .ok (.iconst 0, 1) := by decide +kernel
theorem dX4_init_50 : decode cX4_init 50 = .ok (.putfield 42, 3) := by decide +kernel
theorem dX4_init_53 : decode cX4_init 53 = .ok (.aload_n 0, 1) := by decide +kernel
theorem dX4_init_54 : decode cX4_init 54 = .ok (.iconst 0, 1) := by decide +kernel
theorem dX4_init_55 : decode cX4_init 55 = .ok (.putfield 45, 3) := by decide +kernel
theorem dX4_init_58 : decode cX4_init 58 = .ok (.aload_n 0, 1) := by decide +kernel
theorem dX4_init_59 : decode cX4_init 59 = .ok (.iconst 0, 1) := by decide +kernel
theorem dX4_init_60 : decode cX4_init 60 = .ok (.putfield 48, 3) := by decide +kernel
theorem dX4_init_63 : decode cX4_init 63 = .ok (.aload_n 0, 1) := by decide +kernel
theorem dX4_init_64 : decode cX4_init 64 = .ok (.iconst 0, 1) := by decide +kernel
theorem dX4_init_65 : decode cX4_init 65 = .ok (.putfield 51, 3) := by decide +kernel
theorem dX4_init_68 : decode cX4_init 68 = .ok (.return_, 1) := by decide +kernel
set_option maxRecDepth 20000 in
theorem ggX4_weightOf_X5_isPose : GoodIn wsX4_weightOf wsX5_isPose := goodIn_r _ [4] (by decide +kernel) (by decide +kernel)
set_option maxRecDepth 20000 in
theorem gX4_weightOf_X5_isPose_n54 : GoodIn wsX4_weightOf (wsX5_isPose) := ggX4_weightOf_X5_isPose
theorem dX4_weightOf_0 : decode cX4_weightOf 0 = .ok (.iload_n 1, 1) := by decide +kernel
theorem dX4_weightOf_1 : decode cX4_weightOf 1 = .ok (.invokestatic 54, 3) := by decide +kernel
theorem dX4_weightOf_4 : decode cX4_weightOf 4 = .ok (.ifCond .eq 12, 3) := by decide +kernel
theorem dX4_weightOf_7 : decode cX4_weightOf 7 = .ok (.aload_n 0, 1) := by decide +kernel
theorem dX4_weightOf_8 : decode cX4_weightOf 8 = .ok (.getfield 20, 3) := by decide +kernel
theorem dX4_weightOf_11 : decode cX4_weightOf 11 = .ok (.iload_n 1, 1) := by decide +kernel
theorem dX4_weightOf_12 : decode cX4_weightOf 12 = .ok (.iaload, 1) := by decide +kernel
theorem dX4_weightOf_13 : decode cX4_weightOf 13 = .ok (.goto 4, 3) := by decide +kernel
theorem dX4_weightOf_16 : decode cX4_weightOf 16 = .ok (.iconst 0, 1) := by decide +kernel
theorem dX4_weightOf_17 : decode cX4_weightOf 17 = .ok (.ireturn, 1) := by decide +kernel
set_option maxRecDepth 20000 in
theorem ggX4_putWeight_X5_isPose : GoodIn wsX4_putWeight wsX5_isPose := goodIn_r _ [4] (by decide +kernel) (by decide +kernel)
set_option maxRecDepth 20000 in
theorem gX4_putWeight_X5_isPose_n54 : GoodIn wsX4_putWeight (wsX5_isPose) := ggX4_putWeight_X5_isPose
theorem dX4_putWeight_0 : decode cX4_putWeight 0 = .ok (.iload_n 1, 1) := by decide +kernel
theorem dX4_putWeight_1 : decode cX4_putWeight 1 = .ok (.invokestatic 54, 3) := by decide +kernel
theorem dX4_putWeight_4 : decode cX4_putWeight 4 = .ok (.ifCond .eq 10, 3) := by decide +kernel
theorem dX4_putWeight_7 : decode cX4_putWeight 7 = .ok (.aload_n 0, 1) := by decide +kernel
theorem dX4_putWeight_8 : decode cX4_putWeight 8 = .ok (.getfield 20, 3) := by decide +kernel
theorem dX4_putWeight_11 : decode cX4_putWeight 11 = .ok (.iload_n 1, 1) := by decide +kernel
theorem dX4_putWeight_12 : decode cX4_putWeight 12 = .ok (.iload_n 2, 1) := by decide +kernel
theorem dX4_putWeight_13 : decode cX4_putWeight 13 = .ok (.iastore, 1) := by decide +kernel
theorem dX4_putWeight_14 : decode cX4_putWeight 14 = .ok (.return_, 1) := by decide +kernel
theorem dX4_tighten_0 : decode cX4_tighten 0 = .ok (.aload_n 0, 1) := by decide +kernel
theorem dX4_tighten_1 : decode cX4_tighten 1 = .ok (.bipush 48, 2) := by decide +kernel
theorem dX4_tighten_3 : decode cX4_tighten 3 = .ok (.aload_n 0, 1) := by decide +kernel
theorem dX4_tighten_4 : decode cX4_tighten 4 = .ok (.getfield 30, 3) := by decide +kernel
theorem dX4_tighten_7 : decode cX4_tighten 7 = .ok (.iload_n 1, 1) := by decide +kernel
theorem dX4_tighten_8 : decode cX4_tighten 8 = .ok (.iadd, 1) := by decide +kernel
theorem dX4_tighten_9 : decode cX4_tighten 9 = .ok (.invokestatic 58, 3) := by decide +kernel
theorem dX4_tighten_12 : decode cX4_tighten 12 = .ok (.putfield 30, 3) := by decide +kernel
theorem dX4_tighten_15 : decode cX4_tighten 15 = .ok (.return_, 1) := by decide +kernel
theorem dX4_swingIn_0 : decode cX4_swingIn 0 = .ok (.sipush 320, 3) := by decide +kernel
theorem dX4_swingIn_3 : decode cX4_swingIn 3 = .ok (.iconst 3, 1) := by decide +kernel
theorem dX4_swingIn_4 : decode cX4_swingIn 4 = .ok (.bipush 48, 2) := by decide +kernel
theorem dX4_swingIn_6 : decode cX4_swingIn 6 = .ok (.aload_n 0, 1) := by decide +kernel
theorem dX4_swingIn_7 : decode cX4_swingIn 7 = .ok (.getfield 30, 3) := by decide +kernel
theorem dX4_swingIn_10 : decode cX4_swingIn 10 = .ok (.isub, 1) := by decide +kernel
theorem dX4_swingIn_11 : decode cX4_swingIn 11 = .ok (.imul, 1) := by decide +kernel
theorem dX4_swingIn_12 : decode cX4_swingIn 12 = .ok (.isub, 1) := by decide +kernel
theorem dX4_swingIn_13 : decode cX4_swingIn 13 = .ok (.aload_n 0, 1) := by decide +kernel
theorem dX4_swingIn_14 : decode cX4_swingIn 14 = .ok (.getfield 36, 3) := by decide +kernel
theorem dX4_swingIn_17 : decode cX4_swingIn 17 = .ok (.isub, 1) := by decide +kernel
theorem dX4_swingIn_18 : decode cX4_swingIn 18 = .ok (.istore_n 2, 1) := by decide +kernel
theorem dX4_swingIn_19 : decode cX4_swingIn 19 = .ok (.iload_n 1, 1) := by decide +kernel
theorem dX4_swingIn_20 : decode cX4_swingIn 20 = .ok (.iconst 2, 1) := by decide +kernel
theorem dX4_swingIn_21 : decode cX4_swingIn 21 = .ok (.if_icmp .lt 6, 3) := by decide +kernel
theorem dX4_swingIn_24 : decode cX4_swingIn 24 = .ok (.iinc 2 (-20), 3) := by decide +kernel
theorem dX4_swingIn_27 : decode cX4_swingIn 27 = .ok (.iconst 0, 1) := by decide +kernel
theorem dX4_swingIn_28 : decode cX4_swingIn 28 = .ok (.iload_n 2, 1) := by decide +kernel
theorem dX4_swingIn_29 : decode cX4_swingIn 29 = .ok (.invokestatic 64, 3) := by decide +kernel
theorem dX4_swingIn_32 : decode cX4_swingIn 32 = .ok (.ireturn, 1) := by decide +kernel
set_option maxRecDepth 20000 in
theorem ggX4_rateIn_X4_swingIn : GoodIn wsX4_rateIn wsX4_swingIn := goodIn_r _ [7, 8, 9, 10, 11, 12, 13, 26, 27, 28, 29, 30, 31, 32, 33, 34, 35, 36] (by decide +kernel) (by decide +kernel)
set_option maxRecDepth 20000 in
theorem gX4_rateIn_X4_swingIn : GoodIn wsX4_rateIn (wsV RX4 67 RX4 yX4_swingIn wsX4_swingIn) := goodIn_app (goodIn_of _ (by decide +kernel)) ggX4_rateIn_X4_swingIn
set_option maxRecDepth 20000 in
theorem ggX4_rateIn_X4_weightOf : GoodIn wsX4_rateIn wsX4_weightOf := goodIn_r _ [17, 18, 19, 20, 21, 26, 27, 28, 29, 30, 31, 32, 33, 34, 35, 36] (by decide +kernel) (by decide +kernel)
set_option maxRecDepth 20000 in
theorem gX4_rateIn_X4_weightOf : GoodIn wsX4_rateIn (wsV RX4 71 RX4 yX4_weightOf wsX4_weightOf) := goodIn_app (goodIn_of _ (by decide +kernel)) ggX4_rateIn_X4_weightOf
set_option maxRecDepth 20000 in
theorem ggX4_rateIn_J9_floorDiv_7cf53 : GoodIn wsX4_rateIn wsJ9_floorDiv_7cf53 := goodIn_r _ [25] (by decide +kernel) (by decide +kernel)
set_option maxRecDepth 20000 in
theorem gX4_rateIn_J9_floorDiv_7cf53 : GoodIn wsX4_rateIn (va_wsS RX4 74 yJ9_floorDiv_7cf53 wsJ9_floorDiv_7cf53) := goodIn_app (goodIn_of _ (by decide +kernel)) ggX4_rateIn_J9_floorDiv_7cf53
theorem dX4_rateIn_0 : decode cX4_rateIn 0 = .ok (.aload_n 0, 1) := by decide +kernel
theorem dX4_rateIn_1 : decode cX4_rateIn 1 = .ok (.iload_n 1, 1) := by decide +kernel
theorem dX4_rateIn_2 : decode cX4_rateIn 2 = .ok (.invokevirtual 67, 3) := by decide +kernel
theorem dX4_rateIn_5 : decode cX4_rateIn 5 = .ok (.istore_n 2, 1) := by decide +kernel
theorem dX4_rateIn_6 : decode cX4_rateIn 6 = .ok (.aload_n 0, 1) := by decide +kernel
theorem dX4_rateIn_7 : decode cX4_rateIn 7 = .ok (.getfield 23, 3) := by decide +kernel
theorem dX4_rateIn_10 : decode cX4_rateIn 10 = .ok (.aload_n 0, 1) := by decide +kernel
theorem dX4_rateIn_11 : decode cX4_rateIn 11 = .ok (.iload_n 1, 1) := by decide +kernel
theorem dX4_rateIn_12 : decode cX4_rateIn 12 = .ok (.invokevirtual 71, 3) := by decide +kernel
theorem dX4_rateIn_15 : decode cX4_rateIn 15 = .ok (.sipush 360, 3) := by decide +kernel
theorem dX4_rateIn_18 : decode cX4_rateIn 18 = .ok (.iload_n 2, 1) := by decide +kernel
theorem dX4_rateIn_19 : decode cX4_rateIn 19 = .ok (.isub, 1) := by decide +kernel
theorem dX4_rateIn_20 : decode cX4_rateIn 20 = .ok (.imul, 1) := by decide +kernel
theorem dX4_rateIn_21 : decode cX4_rateIn 21 = .ok (.bipush 100, 2) := by decide +kernel
theorem dX4_rateIn_23 : decode cX4_rateIn 23 = .ok (.invokestatic 74, 3) := by decide +kernel
theorem dX4_rateIn_26 : decode cX4_rateIn 26 = .ok (.iadd, 1) := by decide +kernel
theorem dX4_rateIn_27 : decode cX4_rateIn 27 = .ok (.iconst 2, 1) := by decide +kernel
theorem dX4_rateIn_28 : decode cX4_rateIn 28 = .ok (.aload_n 0, 1) := by decide +kernel
theorem dX4_rateIn_29 : decode cX4_rateIn 29 = .ok (.getfield 33, 3) := by decide +kernel
theorem dX4_rateIn_32 : decode cX4_rateIn 32 = .ok (.imul, 1) := by decide +kernel
theorem dX4_rateIn_33 : decode cX4_rateIn 33 = .ok (.iadd, 1) := by decide +kernel
theorem dX4_rateIn_34 : decode cX4_rateIn 34 = .ok (.istore_n 3, 1) := by decide +kernel
theorem dX4_rateIn_35 : decode cX4_rateIn 35 = .ok (.aload_n 0, 1) := by decide +kernel
theorem dX4_rateIn_36 : decode cX4_rateIn 36 = .ok (.getfield 33, 3) := by decide +kernel
theorem dX4_rateIn_39 : decode cX4_rateIn 39 = .ok (.bipush 50, 2) := by decide +kernel
theorem dX4_rateIn_41 : decode cX4_rateIn 41 = .ok (.if_icmp .le 9, 3) := by decide +kernel
theorem dX4_rateIn_44 : decode cX4_rateIn 44 = .ok (.iload_n 3, 1) := by decide +kernel
theorem dX4_rateIn_45 : decode cX4_rateIn 45 = .ok (.sipush 300, 3) := by decide +kernel
theorem dX4_rateIn_48 : decode cX4_rateIn 48 = .ok (.iadd, 1) := by decide +kernel
theorem dX4_rateIn_49 : decode cX4_rateIn 49 = .ok (.ireturn, 1) := by decide +kernel
theorem dX4_rateIn_50 : decode cX4_rateIn 50 = .ok (.iload_n 2, 1) := by decide +kernel
theorem dX4_rateIn_51 : decode cX4_rateIn 51 = .ok (.sipush 300, 3) := by decide +kernel
theorem dX4_rateIn_54 : decode cX4_rateIn 54 = .ok (.if_icmp .le 11, 3) := by decide +kernel
theorem dX4_rateIn_57 : decode cX4_rateIn 57 = .ok (.iload_n 3, 1) := by decide +kernel
theorem dX4_rateIn_58 : decode cX4_rateIn 58 = .ok (.sipush 600, 3) := by decide +kernel
theorem dX4_rateIn_61 : decode cX4_rateIn 61 = .ok (.iadd, 1) := by decide +kernel
theorem dX4_rateIn_62 : decode cX4_rateIn 62 = .ok (.goto 4, 3) := by decide +kernel
theorem dX4_rateIn_65 : decode cX4_rateIn 65 = .ok (.iload_n 3, 1) := by decide +kernel
theorem dX4_rateIn_66 : decode cX4_rateIn 66 = .ok (.ireturn, 1) := by decide +kernel
theorem dX4_beatErrorIn_0 : decode cX4_beatErrorIn 0 = .ok (.aload_n 0, 1) := by decide +kernel
theorem dX4_beatErrorIn_1 : decode cX4_beatErrorIn 1 = .ok (.getfield 27, 3) := by decide +kernel
theorem dX4_beatErrorIn_4 : decode cX4_beatErrorIn 4 = .ok (.invokestatic 77, 3) := by decide +kernel
theorem dX4_beatErrorIn_7 : decode cX4_beatErrorIn 7 = .ok (.aload_n 0, 1) := by decide +kernel
theorem dX4_beatErrorIn_8 : decode cX4_beatErrorIn 8 = .ok (.getfield 36, 3) := by decide +kernel
theorem dX4_beatErrorIn_11 : decode cX4_beatErrorIn 11 = .ok (.bipush 10, 2) := by decide +kernel
theorem dX4_beatErrorIn_13 : decode cX4_beatErrorIn 13 = .ok (.idiv, 1) := by decide +kernel
theorem dX4_beatErrorIn_14 : decode cX4_beatErrorIn 14 = .ok (.iadd, 1) := by decide +kernel
theorem dX4_beatErrorIn_15 : decode cX4_beatErrorIn 15 = .ok (.istore_n 2, 1) := by decide +kernel
theorem dX4_beatErrorIn_16 : decode cX4_beatErrorIn 16 = .ok (.iload_n 1, 1) := by decide +kernel
theorem dX4_beatErrorIn_17 : decode cX4_beatErrorIn 17 = .ok (.iconst 2, 1) := by decide +kernel
theorem dX4_beatErrorIn_18 : decode cX4_beatErrorIn 18 = .ok (.if_icmp .lt 9, 3) := by decide +kernel
theorem dX4_beatErrorIn_21 : decode cX4_beatErrorIn 21 = .ok (.iload_n 2, 1) := by decide +kernel
theorem dX4_beatErrorIn_22 : decode cX4_beatErrorIn 22 = .ok (.iconst 2, 1) := by decide +kernel
theorem dX4_beatErrorIn_23 : decode cX4_beatErrorIn 23 = .ok (.iadd, 1) := by decide +kernel
theorem dX4_beatErrorIn_24 : decode cX4_beatErrorIn 24 = .ok (.goto 4, 3) := by decide +kernel
theorem dX4_beatErrorIn_27 : decode cX4_beatErrorIn 27 = .ok (.iload_n 2, 1) := by decide +kernel
theorem dX4_beatErrorIn_28 : decode cX4_beatErrorIn 28 = .ok (.ireturn, 1) := by decide +kernel
set_option maxRecDepth 20000 in
theorem ggX4_goes_X4_swingIn : GoodIn wsX4_goes wsX4_swingIn := goodIn_r _ [7, 1, 8, 9, 10, 11, 12, 13, 14, 15, 16, 17, 18, 19, 20, 21, 22, 23] (by decide +kernel) (by decide +kernel)
set_option maxRecDepth 20000 in
theorem gX4_goes_X4_swingIn : GoodIn wsX4_goes (wsV RX4 67 RX4 yX4_swingIn wsX4_swingIn) := goodIn_app (goodIn_of _ (by decide +kernel)) ggX4_goes_X4_swingIn
theorem dX4_goes_0 : decode cX4_goes 0 = .ok (.aload_n 0, 1) := by decide +kernel
theorem dX4_goes_1 : decode cX4_goes 1 = .ok (.getfield 30, 3) := by decide +kernel
theorem dX4_goes_4 : decode cX4_goes 4 = .ok (.ifCond .le 20, 3) := by decide +kernel
theorem dX4_goes_7 : decode cX4_goes 7 = .ok (.aload_n 0, 1) := by decide +kernel
theorem dX4_goes_8 : decode cX4_goes 8 = .ok (.aload_n 0, 1) := by decide +kernel
theorem dX4_goes_9 : decode cX4_goes 9 = .ok (.getfield 39, 3) := by decide +kernel
theorem dX4_goes_12 : decode cX4_goes 12 = .ok (.invokevirtual 67, 3) := by decide +kernel
theorem dX4_goes_15 : decode cX4_goes 15 = .ok (.bipush 120, 2) := by decide +kernel
theorem dX4_goes_17 : decode cX4_goes 17 = .ok (.if_icmp .lt 7, 3) := by decide +kernel
theorem dX4_goes_20 : decode cX4_goes 20 = .ok (.iconst 1, 1) := by decide +kernel
theorem dX4_goes_21 : decode cX4_goes 21 = .ok (.goto 4, 3) := by decide +kernel
theorem dX4_goes_24 : decode cX4_goes 24 = .ok (.iconst 0, 1) := by decide +kernel
theorem dX4_goes_25 : decode cX4_goes 25 = .ok (.ireturn, 1) := by decide +kernel
set_option maxRecDepth 20000 in
theorem ggX4_run_X4_runHour : GoodIn wsX4_run wsX4_runHour := goodIn_r _ [6, 7, 8, 9, 10, 11, 1, 12, 13, 14, 15, 16, 17, 18, 19, 5, 20, 21, 22, 23, 24, 25, 26, 27, 28, 29, 30, 31, 32, 33, 34, 35, 36, 37, 38, 39, 40, 41, 42, 43, 44, 45, 46, 47, 48, 49, 50, 51, 52, 53, 54, 55, 56] (by decide +kernel) (by decide +kernel)
set_option maxRecDepth 20000 in
theorem gX4_run_X4_runHour : GoodIn wsX4_run (wsV RX4 80 RX4 yX4_runHour wsX4_runHour) := goodIn_app (goodIn_of _ (by decide +kernel)) ggX4_run_X4_runHour
theorem dX4_run_0 : decode cX4_run 0 = .ok (.aload_n 0, 1) := by decide +kernel
theorem dX4_run_1 : decode cX4_run 1 = .ok (.getfield 51, 3) := by decide +kernel
theorem dX4_run_4 : decode cX4_run 4 = .ok (.istore_n 2, 1) := by decide +kernel
theorem dX4_run_5 : decode cX4_run 5 = .ok (.iconst 0, 1) := by decide +kernel
theorem dX4_run_6 : decode cX4_run 6 = .ok (.istore_n 3, 1) := by decide +kernel
theorem dX4_run_7 : decode cX4_run 7 = .ok (.iload_n 3, 1) := by decide +kernel
theorem dX4_run_8 : decode cX4_run 8 = .ok (.iload_n 1, 1) := by decide +kernel
theorem dX4_run_9 : decode cX4_run 9 = .ok (.if_icmp .ge 13, 3) := by decide +kernel
theorem dX4_run_12 : decode cX4_run 12 = .ok (.aload_n 0, 1) := by decide +kernel
theorem dX4_run_13 : decode cX4_run 13 = .ok (.invokevirtual 80, 3) := by decide +kernel
theorem dX4_run_16 : decode cX4_run 16 = .ok (.iinc 3 1, 3) := by decide +kernel
theorem dX4_run_19 : decode cX4_run 19 = .ok (.goto (-12), 3) := by decide +kernel
theorem dX4_run_22 : decode cX4_run 22 = .ok (.aload_n 0, 1) := by decide +kernel
theorem dX4_run_23 : decode cX4_run 23 = .ok (.getfield 51, 3) := by decide +kernel
theorem dX4_run_26 : decode cX4_run 26 = .ok (.iload_n 2, 1) := by decide +kernel
theorem dX4_run_27 : decode cX4_run 27 = .ok (.isub, 1) := by decide +kernel
theorem dX4_run_28 : decode cX4_run 28 = .ok (.ireturn, 1) := by decide +kernel
set_option maxRecDepth 20000 in
theorem ggX4_runHour_X4_goes : GoodIn wsX4_runHour wsX4_goes := goodIn_r _ [16, 5, 4, 17, 18, 19, 15, 20, 7, 21, 22, 10, 23, 42, 43, 44, 45, 46, 47, 48, 49, 50, 51, 52] (by decide +kernel) (by decide +kernel)
set_option maxRecDepth 20000 in
theorem gX4_runHour_X4_goes : GoodIn wsX4_runHour (wsV RX4 83 RX4 yX4_goes wsX4_goes) := goodIn_app (goodIn_of _ (by decide +kernel)) ggX4_runHour_X4_goes
set_option maxRecDepth 20000 in
theorem ggX4_runHour_X4_rateIn : GoodIn wsX4_runHour wsX4_rateIn := goodIn_r _ [27, 28, 29, 17, 18, 19, 15, 20, 5, 7, 21, 22, 10, 23, 30, 31, 32, 33, 34, 35, 36, 37, 38, 39, 40, 41, 42, 43, 44, 45, 46, 47, 48, 49, 50, 51, 52] (by decide +kernel) (by decide +kernel)
set_option maxRecDepth 20000 in
theorem gX4_runHour_X4_rateIn : GoodIn wsX4_runHour (wsV RX4 87 RX4 yX4_rateIn wsX4_rateIn) := goodIn_app (goodIn_of _ (by decide +kernel)) ggX4_runHour_X4_rateIn
set_option maxRecDepth 20000 in
theorem ggX4_runHour_J9_floorDiv_7cf53 : GoodIn wsX4_runHour wsJ9_floorDiv_7cf53 := goodIn_r _ [41] (by decide +kernel) (by decide +kernel)
set_option maxRecDepth 20000 in
theorem gX4_runHour_J9_floorDiv_7cf53 : GoodIn wsX4_runHour (va_wsS RX4 74 yJ9_floorDiv_7cf53 wsJ9_floorDiv_7cf53) := goodIn_app (goodIn_of _ (by decide +kernel)) ggX4_runHour_J9_floorDiv_7cf53
theorem dX4_runHour_0 : decode cX4_runHour 0 = .ok (.aload_n 0, 1) := by decide +kernel
theorem dX4_runHour_1 : decode cX4_runHour 1 = .ok (.dup, 1) := by decide +kernel
theorem dX4_runHour_2 : decode cX4_runHour 2 = .ok (.getfield 42, 3) := by decide +kernel
theorem dX4_runHour_5 : decode cX4_runHour 5 = .ok (.iconst 1, 1) := by decide +kernel
theorem dX4_runHour_6 : decode cX4_runHour 6 = .ok (.iadd, 1) := by decide +kernel
theorem dX4_runHour_7 : decode cX4_runHour 7 = .ok (.putfield 42, 3) := by decide +kernel
theorem dX4_runHour_10 : decode cX4_runHour 10 = .ok (.aload_n 0, 1) := by decide +kernel
theorem dX4_runHour_11 : decode cX4_runHour 11 = .ok (.invokevirtual 83, 3) := by decide +kernel
theorem dX4_runHour_14 : decode cX4_runHour 14 = .ok (.ifCond .ne 14, 3) := by decide +kernel
theorem dX4_runHour_17 : decode cX4_runHour 17 = .ok (.aload_n 0, 1) := by decide +kernel
theorem dX4_runHour_18 : decode cX4_runHour 18 = .ok (.dup, 1) := by decide +kernel
theorem dX4_runHour_19 : decode cX4_runHour 19 = .ok (.getfield 48, 3) := by decide +kernel
theorem dX4_runHour_22 : decode cX4_runHour 22 = .ok (.iconst 1, 1) := by decide +kernel
theorem dX4_runHour_23 : decode cX4_runHour 23 = .ok (.iadd, 1) := by decide +kernel
theorem dX4_runHour_24 : decode cX4_runHour 24 = .ok (.putfield 48, 3) := by decide +kernel
theorem dX4_runHour_27 : decode cX4_runHour 27 = .ok (.return_, 1) := by decide +kernel
theorem dX4_runHour_28 : decode cX4_runHour 28 = .ok (.aload_n 0, 1) := by decide +kernel
theorem dX4_runHour_29 : decode cX4_runHour 29 = .ok (.dup, 1) := by decide +kernel
theorem dX4_runHour_30 : decode cX4_runHour 30 = .ok (.getfield 45, 3) := by decide +kernel
theorem dX4_runHour_33 : decode cX4_runHour 33 = .ok (.aload_n 0, 1) := by decide +kernel
theorem dX4_runHour_34 : decode cX4_runHour 34 = .ok (.aload_n 0, 1) := by decide +kernel
theorem dX4_runHour_35 : decode cX4_runHour 35 = .ok (.getfield 39, 3) := by decide +kernel
theorem dX4_runHour_38 : decode cX4_runHour 38 = .ok (.invokevirtual 87, 3) := by decide +kernel
theorem dX4_runHour_41 : decode cX4_runHour 41 = .ok (.bipush 24, 2) := by decide +kernel
theorem dX4_runHour_43 : decode cX4_runHour 43 = .ok (.invokestatic 74, 3) := by decide +kernel
theorem dX4_runHour_46 : decode cX4_runHour 46 = .ok (.iadd, 1) := by decide +kernel
theorem dX4_runHour_47 : decode cX4_runHour 47 = .ok (.putfield 45, 3) := by decide +kernel
theorem dX4_runHour_50 : decode cX4_runHour 50 = .ok (.aload_n 0, 1) := by decide +kernel
theorem dX4_runHour_51 : decode cX4_runHour 51 = .ok (.dup, 1) := by decide +kernel
theorem dX4_runHour_52 : decode cX4_runHour 52 = .ok (.getfield 30, 3) := by decide +kernel
theorem dX4_runHour_55 : decode cX4_runHour 55 = .ok (.iconst 1, 1) := by decide +kernel
theorem dX4_runHour_56 : decode cX4_runHour 56 = .ok (.isub, 1) := by decide +kernel
theorem dX4_runHour_57 : decode cX4_runHour 57 = .ok (.putfield 30, 3) := by decide +kernel
theorem dX4_runHour_60 : decode cX4_runHour 60 = .ok (.aload_n 0, 1) := by decide +kernel
theorem dX4_runHour_61 : decode cX4_runHour 61 = .ok (.dup, 1) := by decide +kernel
theorem dX4_runHour_62 : decode cX4_runHour 62 = .ok (.getfield 51, 3) := by decide +kernel
theorem dX4_runHour_65 : decode cX4_runHour 65 = .ok (.iconst 1, 1) := by decide +kernel
theorem dX4_runHour_66 : decode cX4_runHour 66 = .ok (.iadd, 1) := by decide +kernel
theorem dX4_runHour_67 : decode cX4_runHour 67 = .ok (.putfield 51, 3) := by decide +kernel
theorem dX4_runHour_70 : decode cX4_runHour 70 = .ok (.aload_n 0, 1) := by decide +kernel
theorem dX4_runHour_71 : decode cX4_runHour 71 = .ok (.getfield 51, 3) := by decide +kernel
theorem dX4_runHour_74 : decode cX4_runHour 74 = .ok (.bipush 24, 2) := by decide +kernel
theorem dX4_runHour_76 : decode cX4_runHour 76 = .ok (.irem, 1) := by decide +kernel
theorem dX4_runHour_77 : decode cX4_runHour 77 = .ok (.ifCond .ne 18, 3) := by decide +kernel
theorem dX4_runHour_80 : decode cX4_runHour 80 = .ok (.aload_n 0, 1) := by decide +kernel
theorem dX4_runHour_81 : decode cX4_runHour 81 = .ok (.bipush 100, 2) := by decide +kernel
theorem dX4_runHour_83 : decode cX4_runHour 83 = .ok (.aload_n 0, 1) := by decide +kernel
theorem dX4_runHour_84 : decode cX4_runHour 84 = .ok (.getfield 36, 3) := by decide +kernel
theorem dX4_runHour_87 : decode cX4_runHour 87 = .ok (.iconst 1, 1) := by decide +kernel
theorem dX4_runHour_88 : decode cX4_runHour 88 = .ok (.iadd, 1) := by decide +kernel
theorem dX4_runHour_89 : decode cX4_runHour 89 = .ok (.invokestatic 58, 3) := by decide +kernel
theorem dX4_runHour_92 : decode cX4_runHour 92 = .ok (.putfield 36, 3) := by decide +kernel
theorem dX4_runHour_95 : decode cX4_runHour 95 = .ok (.return_, 1) := by decide +kernel
theorem dX4_copyFrom_0 : decode cX4_copyFrom 0 = .ok (.aload_n 1, 1) := by decide +kernel
theorem dX4_copyFrom_1 : decode cX4_copyFrom 1 = .ok (.getfield 20, 3) := by decide +kernel
theorem dX4_copyFrom_4 : decode cX4_copyFrom 4 = .ok (.iconst 0, 1) := by decide +kernel
theorem dX4_copyFrom_5 : decode cX4_copyFrom 5 = .ok (.aload_n 0, 1) := by decide +kernel
theorem dX4_copyFrom_6 : decode cX4_copyFrom 6 = .ok (.getfield 20, 3) := by decide +kernel
theorem dX4_copyFrom_9 : decode cX4_copyFrom 9 = .ok (.iconst 0, 1) := by decide +kernel
theorem dX4_copyFrom_10 : decode cX4_copyFrom 10 = .ok (.bipush 6, 2) := by decide +kernel
theorem dX4_copyFrom_12 : decode cX4_copyFrom 12 = .ok (.invokestatic 90, 3) := by decide +kernel
theorem dX4_copyFrom_15 : decode cX4_copyFrom 15 = .ok (.aload_n 0, 1) := by decide +kernel
theorem dX4_copyFrom_16 : decode cX4_copyFrom 16 = .ok (.aload_n 1, 1) := by decide +kernel
theorem dX4_copyFrom_17 : decode cX4_copyFrom 17 = .ok (.getfield 23, 3) := by decide +kernel
theorem dX4_copyFrom_20 : decode cX4_copyFrom 20 = .ok (.putfield 23, 3) := by decide +kernel
theorem dX4_copyFrom_23 : decode cX4_copyFrom 23 = .ok (.aload_n 0, 1) := by decide +kernel
theorem dX4_copyFrom_24 : decode cX4_copyFrom 24 = .ok (.aload_n 1, 1) := by decide +kernel
theorem dX4_copyFrom_25 : decode cX4_copyFrom 25 = .ok (.getfield 27, 3) := by decide +kernel
theorem dX4_copyFrom_28 : decode cX4_copyFrom 28 = .ok (.putfield 27, 3) := by decide +kernel
theorem dX4_copyFrom_31 : decode cX4_copyFrom 31 = .ok (.aload_n 0, 1) := by decide +kernel
theorem dX4_copyFrom_32 : decode cX4_copyFrom 32 = .ok (.aload_n 1, 1) := by decide +kernel
theorem dX4_copyFrom_33 : decode cX4_copyFrom 33 = .ok (.getfield 30, 3) := by decide +kernel
theorem dX4_copyFrom_36 : decode cX4_copyFrom 36 = .ok (.putfield 30, 3) := by decide +kernel
theorem dX4_copyFrom_39 : decode cX4_copyFrom 39 = .ok (.aload_n 0, 1) := by decide +kernel
theorem dX4_copyFrom_40 : decode cX4_copyFrom 40 = .ok (.aload_n 1, 1) := by decide +kernel
theorem dX4_copyFrom_41 : decode cX4_copyFrom 41 = .ok (.getfield 33, 3) := by decide +kernel
theorem dX4_copyFrom_44 : decode cX4_copyFrom 44 = .ok (.putfield 33, 3) := by decide +kernel
theorem dX4_copyFrom_47 : decode cX4_copyFrom 47 = .ok (.aload_n 0, 1) := by decide +kernel
theorem dX4_copyFrom_48 : decode cX4_copyFrom 48 = .ok (.aload_n 1, 1) := by decide +kernel
theorem dX4_copyFrom_49 : decode cX4_copyFrom 49 = .ok (.getfield 36, 3) := by decide +kernel
theorem dX4_copyFrom_52 : decode cX4_copyFrom 52 = .ok (.putfield 36, 3) := by decide +kernel
theorem dX4_copyFrom_55 : decode cX4_copyFrom 55 = .ok (.aload_n 0, 1) := by decide +kernel
theorem dX4_copyFrom_56 : decode cX4_copyFrom 56 = .ok (.aload_n 1, 1) := by decide +kernel
theorem dX4_copyFrom_57 : decode cX4_copyFrom 57 = .ok (.getfield 39, 3) := by decide +kernel
theorem dX4_copyFrom_60 : decode cX4_copyFrom 60 = .ok (.putfield 39, 3) := by decide +kernel
theorem dX4_copyFrom_63 : decode cX4_copyFrom 63 = .ok (.aload_n 0, 1) := by decide +kernel
theorem dX4_copyFrom_64 : decode cX4_copyFrom 64 = .ok (.aload_n 1, 1) := by decide +kernel
theorem dX4_copyFrom_65 : decode cX4_copyFrom 65 = .ok (.getfield 42, 3) := by decide +kernel
theorem dX4_copyFrom_68 : decode cX4_copyFrom 68 = .ok (.putfield 42, 3) := by decide +kernel
theorem dX4_copyFrom_71 : decode cX4_copyFrom 71 = .ok (.aload_n 0, 1) := by decide +kernel
theorem dX4_copyFrom_72 : decode cX4_copyFrom 72 = .ok (.aload_n 1, 1) := by decide +kernel
theorem dX4_copyFrom_73 : decode cX4_copyFrom 73 = .ok (.getfield 45, 3) := by decide +kernel
theorem dX4_copyFrom_76 : decode cX4_copyFrom 76 = .ok (.putfield 45, 3) := by decide +kernel
theorem dX4_copyFrom_79 : decode cX4_copyFrom 79 = .ok (.aload_n 0, 1) := by decide +kernel
theorem dX4_copyFrom_80 : decode cX4_copyFrom 80 = .ok (.aload_n 1, 1) := by decide +kernel
theorem dX4_copyFrom_81 : decode cX4_copyFrom 81 = .ok (.getfield 48, 3) := by decide +kernel
theorem dX4_copyFrom_84 : decode cX4_copyFrom 84 = .ok (.putfield 48, 3) := by decide +kernel
theorem dX4_copyFrom_87 : decode cX4_copyFrom 87 = .ok (.aload_n 0, 1) := by decide +kernel
theorem dX4_copyFrom_88 : decode cX4_copyFrom 88 = .ok (.aload_n 1, 1) := by decide +kernel
theorem dX4_copyFrom_89 : decode cX4_copyFrom 89 = .ok (.getfield 51, 3) := by decide +kernel
theorem dX4_copyFrom_92 : decode cX4_copyFrom 92 = .ok (.putfield 51, 3) := by decide +kernel
theorem dX4_copyFrom_95 : decode cX4_copyFrom 95 = .ok (.return_, 1) := by decide +kernel
set_option maxRecDepth 20000 in
theorem ggX5_init_X3_init : GoodIn wsX5_init wsX3_init := goodIn_r _ [23, 24, 2, 3, 25, 18, 19, 26, 27, 28, 29, 30, 31, 32, 33, 34, 35, 36, 37, 38, 39, 40, 41, 42, 43, 44, 45, 46, 47, 48, 49, 50, 51, 52, 53, 54, 55, 56, 57, 58, 59, 60, 61, 62, 63, 64, 65, 111, 112, 113, 114, 115, 116, 117, 118, 119, 120, 121, 86, 87, 88, 89, 90, 91, 92, 122, 123] (by decide +kernel) (by decide +kernel)
set_option maxRecDepth 20000 in
theorem gX5_init_X3_init_n9 : GoodIn wsX5_init (wsX3_init) := ggX5_init_X3_init
set_option maxRecDepth 20000 in
theorem ggX5_init_X2_init : GoodIn wsX5_init wsX2_init := goodIn_r _ [68, 69, 2, 3, 70, 71, 72, 73, 5, 6, 22, 23, 24, 25, 18, 19, 26, 27, 28, 29, 30, 31, 32, 33, 34, 35, 36, 37, 38, 39, 40, 41, 42, 43, 44, 45, 46, 47, 48, 49, 50, 51, 52, 53, 54, 55, 56, 57, 58, 59, 60, 61, 62, 63, 64, 65, 99, 100, 101, 86, 87, 88, 89, 90, 91, 92, 111, 112, 113, 114, 115, 116, 117, 118, 119, 120, 121, 122, 123] (by decide +kernel) (by decide +kernel)
set_option maxRecDepth 20000 in
theorem gX5_init_X2_init : GoodIn wsX5_init (wsX2_init) := ggX5_init_X2_init
set_option maxRecDepth 20000 in
theorem ggX5_init_X0_init : GoodIn wsX5_init wsX0_init := goodIn_r _ [75, 76, 2, 3, 63, 77, 78, 79, 80, 81, 82, 83, 84, 85, 102, 103, 104, 105, 106, 107, 108, 109, 110] (by decide +kernel) (by decide +kernel)
set_option maxRecDepth 20000 in
theorem gX5_init_X0_init_n28 : GoodIn wsX5_init (wsX0_init) := ggX5_init_X0_init
set_option maxRecDepth 20000 in
theorem ggX5_init_X4_init : GoodIn wsX5_init wsX4_init := goodIn_r _ [44, 45, 2, 3, 46, 47, 33, 34, 35, 36, 48, 49, 50, 51, 52, 53, 54, 55, 56, 57, 58, 59, 111, 112, 113, 114, 115, 116, 117, 118, 119, 120, 121] (by decide +kernel) (by decide +kernel)
set_option maxRecDepth 20000 in
theorem gX5_init_X4_init_n35 : GoodIn wsX5_init (wsX4_init) := ggX5_init_X4_init
theorem dX5_init_0 : decode cX5_init 0 = .ok (.aload_n 0, 1) := by decide +kernel
theorem dX5_init_1 : decode cX5_init 1 = .ok (.invokespecial 1, 3) := by decide +kernel
theorem dX5_init_4 : decode cX5_init 4 = .ok (.aload_n 0, 1) := by decide +kernel
theorem dX5_init_5 : decode cX5_init 5 = .ok (.new 7, 3) := by decide +kernel
theorem dX5_init_8 : decode cX5_init 8 = .ok (.dup, 1) := by decide +kernel
theorem dX5_init_9 : decode cX5_init 9 = .ok (.invokespecial 9, 3) := by decide +kernel
theorem dX5_init_12 : decode cX5_init 12 = .ok (.putfield 10, 3) := by decide +kernel
theorem dX5_init_15 : decode cX5_init 15 = .ok (.aload_n 0, 1) := by decide +kernel
theorem dX5_init_16 : decode cX5_init 16 = .ok (.new 7, 3) := by decide +kernel
theorem dX5_init_19 : decode cX5_init 19 = .ok (.dup, 1) := by decide +kernel
theorem dX5_init_20 : decode cX5_init 20 = .ok (.invokespecial 9, 3) := by decide +kernel
theorem dX5_init_23 : decode cX5_init 23 = .ok (.putfield 16, 3) := by decide +kernel
theorem dX5_init_26 : decode cX5_init 26 = .ok (.aload_n 0, 1) := by decide +kernel
theorem dX5_init_27 : decode cX5_init 27 = .ok (.new 19, 3) := by decide +kernel
theorem dX5_init_30 : decode cX5_init 30 = .ok (.dup, 1) := by decide +kernel
theorem dX5_init_31 : decode cX5_init 31 = .ok (.invokespecial 21, 3) := by decide +kernel
theorem dX5_init_34 : decode cX5_init 34 = .ok (.putfield 22, 3) := by decide +kernel
theorem dX5_init_37 : decode cX5_init 37 = .ok (.aload_n 0, 1) := by decide +kernel
theorem dX5_init_38 : decode cX5_init 38 = .ok (.new 26, 3) := by decide +kernel
theorem dX5_init_41 : decode cX5_init 41 = .ok (.dup, 1) := by decide +kernel
theorem dX5_init_42 : decode cX5_init 42 = .ok (.invokespecial 28, 3) := by decide +kernel
theorem dX5_init_45 : decode cX5_init 45 = .ok (.putfield 29, 3) := by decide +kernel
theorem dX5_init_48 : decode cX5_init 48 = .ok (.aload_n 0, 1) := by decide +kernel
theorem dX5_init_49 : decode cX5_init 49 = .ok (.new 33, 3) := by decide +kernel
theorem dX5_init_52 : decode cX5_init 52 = .ok (.dup, 1) := by decide +kernel
theorem dX5_init_53 : decode cX5_init 53 = .ok (.invokespecial 35, 3) := by decide +kernel
theorem dX5_init_56 : decode cX5_init 56 = .ok (.putfield 36, 3) := by decide +kernel
theorem dX5_init_59 : decode cX5_init 59 = .ok (.aload_n 0, 1) := by decide +kernel
theorem dX5_init_60 : decode cX5_init 60 = .ok (.iconst 0, 1) := by decide +kernel
theorem dX5_init_61 : decode cX5_init 61 = .ok (.putfield 40, 3) := by decide +kernel
theorem dX5_init_64 : decode cX5_init 64 = .ok (.return_, 1) := by decide +kernel
set_option maxRecDepth 20000 in
theorem ggX5_wind_X5_demandRange : GoodIn wsX5_wind wsX5_demandRange := goodIn_ca (goodIn_r _ [8, 9, 10] (by decide +kernel) (by decide +kernel)) (goodIn_sub (fun _ h => List.mem_cons_of_mem _ (List.mem_append_right _ h)) (by decide +kernel))
set_option maxRecDepth 20000 in
theorem gX5_wind_X5_demandRange : GoodIn wsX5_wind (va_wsS RX5 44 yX5_demandRange wsX5_demandRange) := goodIn_app (goodIn_of _ (by decide +kernel)) ggX5_wind_X5_demandRange
set_option maxRecDepth 20000 in
theorem ggX5_wind_X2_push : GoodIn wsX5_wind wsX2_push := goodIn_r _ [15, 16, 17, 18, 19, 20, 21, 22, 23, 24, 25, 26, 27, 28, 29, 30, 31, 32, 33, 34, 35, 36, 37, 38, 39, 40, 41, 42, 43, 44, 45, 46, 47, 48, 49, 50, 51, 52, 53, 54, 55, 56, 57, 58, 59, 60, 61, 62, 63, 93, 94, 95, 75, 76, 77, 78, 79, 80, 81, 82, 83, 84, 85, 86, 87, 88, 89, 90, 91, 92, 96, 97] (by decide +kernel) (by decide +kernel)
set_option maxRecDepth 20000 in
theorem gX5_wind_X2_push : GoodIn wsX5_wind (wsV RX5 48 RX2 yX2_push wsX2_push) := goodIn_app (goodIn_of _ (by decide +kernel)) ggX5_wind_X2_push
set_option maxRecDepth 20000 in
theorem ggX5_wind_X4_tighten : GoodIn wsX5_wind wsX4_tighten := goodIn_r _ [67, 48, 68, 20, 21, 22, 82, 83, 84, 85, 86, 87, 88, 89, 90, 91, 92] (by decide +kernel) (by decide +kernel)
set_option maxRecDepth 20000 in
theorem gX5_wind_X4_tighten : GoodIn wsX5_wind (wsV RX5 55 RX4 yX4_tighten wsX4_tighten) := goodIn_app (goodIn_of _ (by decide +kernel)) ggX5_wind_X4_tighten
theorem dX5_wind_0 : decode cX5_wind 0 = .ok (.iload_n 1, 1) := by decide +kernel
theorem dX5_wind_1 : decode cX5_wind 1 = .ok (.iconst 1, 1) := by decide +kernel
theorem dX5_wind_2 : decode cX5_wind 2 = .ok (.bipush 48, 2) := by decide +kernel
theorem dX5_wind_4 : decode cX5_wind 4 = .ok (.invokestatic 44, 3) := by decide +kernel
theorem dX5_wind_7 : decode cX5_wind 7 = .ok (.aload_n 0, 1) := by decide +kernel
theorem dX5_wind_8 : decode cX5_wind 8 = .ok (.getfield 22, 3) := by decide +kernel
theorem dX5_wind_11 : decode cX5_wind 11 = .ok (.aload_n 0, 1) := by decide +kernel
theorem dX5_wind_12 : decode cX5_wind 12 = .ok (.getfield 10, 3) := by decide +kernel
theorem dX5_wind_15 : decode cX5_wind 15 = .ok (.invokevirtual 48, 3) := by decide +kernel
theorem dX5_wind_18 : decode cX5_wind 18 = .ok (.aload_n 0, 1) := by decide +kernel
theorem dX5_wind_19 : decode cX5_wind 19 = .ok (.getfield 10, 3) := by decide +kernel
theorem dX5_wind_22 : decode cX5_wind 22 = .ok (.getfield 52, 3) := by decide +kernel
theorem dX5_wind_25 : decode cX5_wind 25 = .ok (.iload_n 1, 1) := by decide +kernel
theorem dX5_wind_26 : decode cX5_wind 26 = .ok (.invokevirtual 55, 3) := by decide +kernel
theorem dX5_wind_29 : decode cX5_wind 29 = .ok (.aload_n 0, 1) := by decide +kernel
theorem dX5_wind_30 : decode cX5_wind 30 = .ok (.getfield 10, 3) := by decide +kernel
theorem dX5_wind_33 : decode cX5_wind 33 = .ok (.getfield 52, 3) := by decide +kernel
theorem dX5_wind_36 : decode cX5_wind 36 = .ok (.getfield 59, 3) := by decide +kernel
theorem dX5_wind_39 : decode cX5_wind 39 = .ok (.ireturn, 1) := by decide +kernel
set_option maxRecDepth 20000 in
theorem ggX5_weigh_X5_demandPose : GoodIn wsX5_weigh wsX5_demandPose := goodIn_ca (goodIn_r _ [7, 8, 9, 10, 11, 6, 12] (by decide +kernel) (by decide +kernel)) (goodIn_sub (fun _ h => List.mem_cons_of_mem _ (List.mem_append_left _ (List.mem_append_right _ h))) (by decide +kernel))
set_option maxRecDepth 20000 in
theorem gX5_weigh_X5_demandPose : GoodIn wsX5_weigh (va_wsS RX5 63 yX5_demandPose wsX5_demandPose) := goodIn_app (goodIn_of _ (by decide +kernel)) ggX5_weigh_X5_demandPose
set_option maxRecDepth 20000 in
theorem ggX5_weigh_X5_demandRange : GoodIn wsX5_weigh wsX5_demandRange := goodIn_ca (goodIn_r _ [15, 16, 17] (by decide +kernel) (by decide +kernel)) (goodIn_sub (fun _ h => List.mem_cons_of_mem _ (List.mem_append_right _ h)) (by decide +kernel))
set_option maxRecDepth 20000 in
theorem gX5_weigh_X5_demandRange : GoodIn wsX5_weigh (va_wsS RX5 44 yX5_demandRange wsX5_demandRange) := goodIn_app (goodIn_of _ (by decide +kernel)) ggX5_weigh_X5_demandRange
set_option maxRecDepth 20000 in
theorem ggX5_weigh_X2_push : GoodIn wsX5_weigh wsX2_push := goodIn_r _ [22, 23, 24, 25, 26, 27, 28, 29, 30, 31, 32, 33, 34, 35, 36, 37, 38, 39, 40, 41, 42, 43, 44, 45, 46, 47, 48, 49, 50, 51, 52, 53, 54, 55, 56, 57, 58, 59, 60, 61, 62, 63, 64, 65, 66, 67, 68, 69, 70, 92, 93, 94, 85, 86, 87, 88, 89, 90, 91, 95, 96, 97, 98, 99, 100, 101, 102, 103, 104, 105, 106, 107] (by decide +kernel) (by decide +kernel)
set_option maxRecDepth 20000 in
theorem gX5_weigh_X2_push : GoodIn wsX5_weigh (wsV RX5 48 RX2 yX2_push wsX2_push) := goodIn_app (goodIn_of _ (by decide +kernel)) ggX5_weigh_X2_push
set_option maxRecDepth 20000 in
theorem ggX5_weigh_X4_weightOf : GoodIn wsX5_weigh wsX4_weightOf := goodIn_r _ [74, 51, 11, 6, 12, 95, 96, 97, 98, 99, 100, 101, 102, 103, 104, 105] (by decide +kernel) (by decide +kernel)
set_option maxRecDepth 20000 in
theorem gX5_weigh_X4_weightOf : GoodIn wsX5_weigh (wsV RX5 66 RX4 yX4_weightOf wsX4_weightOf) := goodIn_app (goodIn_of _ (by decide +kernel)) ggX5_weigh_X4_weightOf
set_option maxRecDepth 20000 in
theorem ggX5_weigh_X4_putWeight : GoodIn wsX5_weigh wsX4_putWeight := goodIn_r _ [78, 51, 11, 6, 12, 95, 96, 97, 98, 99, 100, 101, 102, 103, 104, 105] (by decide +kernel) (by decide +kernel)
set_option maxRecDepth 20000 in
theorem gX5_weigh_X4_putWeight : GoodIn wsX5_weigh (wsV RX5 70 RX4 yX4_putWeight wsX4_putWeight) := goodIn_app (goodIn_of _ (by decide +kernel)) ggX5_weigh_X4_putWeight
theorem dX5_weigh_0 : decode cX5_weigh 0 = .ok (.iload_n 1, 1) := by decide +kernel
theorem dX5_weigh_1 : decode cX5_weigh 1 = .ok (.invokestatic 63, 3) := by decide +kernel
theorem dX5_weigh_4 : decode cX5_weigh 4 = .ok (.iload_n 2, 1) := by decide +kernel
theorem dX5_weigh_5 : decode cX5_weigh 5 = .ok (.bipush (-60), 2) := by decide +kernel
theorem dX5_weigh_7 : decode cX5_weigh 7 = .ok (.bipush 60, 2) := by decide +kernel
theorem dX5_weigh_9 : decode cX5_weigh 9 = .ok (.invokestatic 44, 3) := by decide +kernel
theorem dX5_weigh_12 : decode cX5_weigh 12 = .ok (.aload_n 0, 1) := by decide +kernel
theorem dX5_weigh_13 : decode cX5_weigh 13 = .ok (.getfield 22, 3) := by decide +kernel
theorem dX5_weigh_16 : decode cX5_weigh 16 = .ok (.aload_n 0, 1) := by decide +kernel
theorem dX5_weigh_17 : decode cX5_weigh 17 = .ok (.getfield 10, 3) := by decide +kernel
theorem dX5_weigh_20 : decode cX5_weigh 20 = .ok (.invokevirtual 48, 3) := by decide +kernel
theorem dX5_weigh_23 : decode cX5_weigh 23 = .ok (.aload_n 0, 1) := by decide +kernel
theorem dX5_weigh_24 : decode cX5_weigh 24 = .ok (.getfield 10, 3) := by decide +kernel
theorem dX5_weigh_27 : decode cX5_weigh 27 = .ok (.getfield 52, 3) := by decide +kernel
theorem dX5_weigh_30 : decode cX5_weigh 30 = .ok (.iload_n 1, 1) := by decide +kernel
theorem dX5_weigh_31 : decode cX5_weigh 31 = .ok (.invokevirtual 66, 3) := by decide +kernel
theorem dX5_weigh_34 : decode cX5_weigh 34 = .ok (.istore_n 3, 1) := by decide +kernel
theorem dX5_weigh_35 : decode cX5_weigh 35 = .ok (.aload_n 0, 1) := by decide +kernel
theorem dX5_weigh_36 : decode cX5_weigh 36 = .ok (.getfield 10, 3) := by decide +kernel
theorem dX5_weigh_39 : decode cX5_weigh 39 = .ok (.getfield 52, 3) := by decide +kernel
theorem dX5_weigh_42 : decode cX5_weigh 42 = .ok (.iload_n 1, 1) := by decide +kernel
theorem dX5_weigh_43 : decode cX5_weigh 43 = .ok (.iload_n 2, 1) := by decide +kernel
theorem dX5_weigh_44 : decode cX5_weigh 44 = .ok (.invokevirtual 70, 3) := by decide +kernel
theorem dX5_weigh_47 : decode cX5_weigh 47 = .ok (.iload_n 3, 1) := by decide +kernel
theorem dX5_weigh_48 : decode cX5_weigh 48 = .ok (.bipush 100, 2) := by decide +kernel
theorem dX5_weigh_50 : decode cX5_weigh 50 = .ok (.iadd, 1) := by decide +kernel
theorem dX5_weigh_51 : decode cX5_weigh 51 = .ok (.ireturn, 1) := by decide +kernel
set_option maxRecDepth 20000 in
theorem ggX5_adjust_X5_demandRange : GoodIn wsX5_adjust wsX5_demandRange := goodIn_ca (goodIn_r _ [9, 10, 11] (by decide +kernel) (by decide +kernel)) (goodIn_sub (fun _ h => List.mem_cons_of_mem _ (List.mem_append_right _ h)) (by decide +kernel))
set_option maxRecDepth 20000 in
theorem gX5_adjust_X5_demandRange : GoodIn wsX5_adjust (va_wsS RX5 44 yX5_demandRange wsX5_demandRange) := goodIn_app (goodIn_of _ (by decide +kernel)) ggX5_adjust_X5_demandRange
set_option maxRecDepth 20000 in
theorem ggX5_adjust_X2_push : GoodIn wsX5_adjust wsX2_push := goodIn_r _ [16, 17, 18, 19, 20, 21, 22, 23, 24, 25, 26, 27, 28, 29, 30, 31, 32, 33, 34, 35, 36, 37, 38, 39, 40, 41, 42, 43, 44, 45, 46, 47, 48, 49, 50, 51, 52, 53, 54, 55, 56, 57, 58, 59, 60, 61, 62, 63, 64, 89, 90, 91, 71, 72, 73, 74, 75, 76, 77, 78, 79, 80, 81, 82, 83, 84, 85, 86, 87, 88, 92, 93] (by decide +kernel) (by decide +kernel)
set_option maxRecDepth 20000 in
theorem gX5_adjust_X2_push : GoodIn wsX5_adjust (wsV RX5 48 RX2 yX2_push wsX2_push) := goodIn_app (goodIn_of _ (by decide +kernel)) ggX5_adjust_X2_push
theorem dX5_adjust_0 : decode cX5_adjust 0 = .ok (.iload_n 1, 1) := by decide +kernel
theorem dX5_adjust_1 : decode cX5_adjust 1 = .ok (.bipush (-99), 2) := by decide +kernel
theorem dX5_adjust_3 : decode cX5_adjust 3 = .ok (.bipush 99, 2) := by decide +kernel
theorem dX5_adjust_5 : decode cX5_adjust 5 = .ok (.invokestatic 44, 3) := by decide +kernel
theorem dX5_adjust_8 : decode cX5_adjust 8 = .ok (.iload_n 2, 1) := by decide +kernel
theorem dX5_adjust_9 : decode cX5_adjust 9 = .ok (.bipush (-50), 2) := by decide +kernel
theorem dX5_adjust_11 : decode cX5_adjust 11 = .ok (.bipush 50, 2) := by decide +kernel
theorem dX5_adjust_13 : decode cX5_adjust 13 = .ok (.invokestatic 44, 3) := by decide +kernel
theorem dX5_adjust_16 : decode cX5_adjust 16 = .ok (.aload_n 0, 1) := by decide +kernel
theorem dX5_adjust_17 : decode cX5_adjust 17 = .ok (.getfield 22, 3) := by decide +kernel
theorem dX5_adjust_20 : decode cX5_adjust 20 = .ok (.aload_n 0, 1) := by decide +kernel
theorem dX5_adjust_21 : decode cX5_adjust 21 = .ok (.getfield 10, 3) := by decide +kernel
theorem dX5_adjust_24 : decode cX5_adjust 24 = .ok (.invokevirtual 48, 3) := by decide +kernel
theorem dX5_adjust_27 : decode cX5_adjust 27 = .ok (.aload_n 0, 1) := by decide +kernel
theorem dX5_adjust_28 : decode cX5_adjust 28 = .ok (.getfield 10, 3) := by decide +kernel
theorem dX5_adjust_31 : decode cX5_adjust 31 = .ok (.getfield 52, 3) := by decide +kernel
theorem dX5_adjust_34 : decode cX5_adjust 34 = .ok (.getfield 74, 3) := by decide +kernel
theorem dX5_adjust_37 : decode cX5_adjust 37 = .ok (.istore_n 3, 1) := by decide +kernel
theorem dX5_adjust_38 : decode cX5_adjust 38 = .ok (.aload_n 0, 1) := by decide +kernel
theorem dX5_adjust_39 : decode cX5_adjust 39 = .ok (.getfield 10, 3) := by decide +kernel
theorem dX5_adjust_42 : decode cX5_adjust 42 = .ok (.getfield 52, 3) := by decide +kernel
theorem dX5_adjust_45 : decode cX5_adjust 45 = .ok (.iload_n 1, 1) := by decide +kernel
theorem dX5_adjust_46 : decode cX5_adjust 46 = .ok (.putfield 74, 3) := by decide +kernel
theorem dX5_adjust_49 : decode cX5_adjust 49 = .ok (.aload_n 0, 1) := by decide +kernel
theorem dX5_adjust_50 : decode cX5_adjust 50 = .ok (.getfield 10, 3) := by decide +kernel
theorem dX5_adjust_53 : decode cX5_adjust 53 = .ok (.getfield 52, 3) := by decide +kernel
theorem dX5_adjust_56 : decode cX5_adjust 56 = .ok (.iload_n 2, 1) := by decide +kernel
theorem dX5_adjust_57 : decode cX5_adjust 57 = .ok (.putfield 77, 3) := by decide +kernel
theorem dX5_adjust_60 : decode cX5_adjust 60 = .ok (.iload_n 3, 1) := by decide +kernel
theorem dX5_adjust_61 : decode cX5_adjust 61 = .ok (.bipush 100, 2) := by decide +kernel
theorem dX5_adjust_63 : decode cX5_adjust 63 = .ok (.iadd, 1) := by decide +kernel
theorem dX5_adjust_64 : decode cX5_adjust 64 = .ok (.ireturn, 1) := by decide +kernel
set_option maxRecDepth 20000 in
theorem ggX5_magnetise_X5_demandRange : GoodIn wsX5_magnetise wsX5_demandRange := goodIn_ca (goodIn_r _ [12, 13, 14] (by decide +kernel) (by decide +kernel)) (goodIn_sub (fun _ h => List.mem_cons_of_mem _ (List.mem_append_right _ h)) (by decide +kernel))
set_option maxRecDepth 20000 in
theorem gX5_magnetise_X5_demandRange : GoodIn wsX5_magnetise (va_wsS RX5 44 yX5_demandRange wsX5_demandRange) := goodIn_app (goodIn_of _ (by decide +kernel)) ggX5_magnetise_X5_demandRange
set_option maxRecDepth 20000 in
theorem ggX5_magnetise_X2_push : GoodIn wsX5_magnetise wsX2_push := goodIn_r _ [19, 20, 21, 22, 23, 6, 7, 8, 24, 25, 26, 27, 28, 29, 30, 31, 32, 33, 34, 35, 36, 37, 38, 39, 40, 41, 42, 43, 44, 45, 46, 47, 48, 49, 50, 51, 52, 53, 54, 55, 56, 57, 58, 59, 60, 61, 62, 63, 64, 89, 90, 91, 71, 72, 73, 74, 75, 76, 77, 78, 79, 80, 81, 82, 83, 84, 85, 86, 87, 88, 92, 93] (by decide +kernel) (by decide +kernel)
set_option maxRecDepth 20000 in
theorem gX5_magnetise_X2_push : GoodIn wsX5_magnetise (wsV RX5 48 RX2 yX2_push wsX2_push) := goodIn_app (goodIn_of _ (by decide +kernel)) ggX5_magnetise_X2_push
theorem dX5_magnetise_0 : decode cX5_magnetise 0 = .ok (.iload_n 1, 1) := by decide +kernel
theorem dX5_magnetise_1 : decode cX5_magnetise 1 = .ok (.iconst 1, 1) := by decide +kernel
theorem dX5_magnetise_2 : decode cX5_magnetise 2 = .ok (.bipush 100, 2) := by decide +kernel
theorem dX5_magnetise_4 : decode cX5_magnetise 4 = .ok (.invokestatic 44, 3) := by decide +kernel
theorem dX5_magnetise_7 : decode cX5_magnetise 7 = .ok (.aload_n 0, 1) := by decide +kernel
theorem dX5_magnetise_8 : decode cX5_magnetise 8 = .ok (.getfield 22, 3) := by decide +kernel
theorem dX5_magnetise_11 : decode cX5_magnetise 11 = .ok (.aload_n 0, 1) := by decide +kernel
theorem dX5_magnetise_12 : decode cX5_magnetise 12 = .ok (.getfield 10, 3) := by decide +kernel
theorem dX5_magnetise_15 : decode cX5_magnetise 15 = .ok (.invokevirtual 48, 3) := by decide +kernel
theorem dX5_magnetise_18 : decode cX5_magnetise 18 = .ok (.aload_n 0, 1) := by decide +kernel
theorem dX5_magnetise_19 : decode cX5_magnetise 19 = .ok (.getfield 10, 3) := by decide +kernel
theorem dX5_magnetise_22 : decode cX5_magnetise 22 = .ok (.getfield 52, 3) := by decide +kernel
theorem dX5_magnetise_25 : decode cX5_magnetise 25 = .ok (.bipush 100, 2) := by decide +kernel
theorem dX5_magnetise_27 : decode cX5_magnetise 27 = .ok (.aload_n 0, 1) := by decide +kernel
theorem dX5_magnetise_28 : decode cX5_magnetise 28 = .ok (.getfield 10, 3) := by decide +kernel
theorem dX5_magnetise_31 : decode cX5_magnetise 31 = .ok (.getfield 52, 3) := by decide +kernel
theorem dX5_magnetise_34 : decode cX5_magnetise 34 = .ok (.getfield 80, 3) := by decide +kernel
theorem dX5_magnetise_37 : decode cX5_magnetise 37 = .ok (.iload_n 1, 1) := by decide +kernel
theorem dX5_magnetise_38 : decode cX5_magnetise 38 = .ok (.iadd, 1) := by decide +kernel
theorem dX5_magnetise_39 : decode cX5_magnetise 39 = .ok (.invokestatic 83, 3) := by decide +kernel
theorem dX5_magnetise_42 : decode cX5_magnetise 42 = .ok (.putfield 80, 3) := by decide +kernel
theorem dX5_magnetise_45 : decode cX5_magnetise 45 = .ok (.aload_n 0, 1) := by decide +kernel
theorem dX5_magnetise_46 : decode cX5_magnetise 46 = .ok (.getfield 10, 3) := by decide +kernel
theorem dX5_magnetise_49 : decode cX5_magnetise 49 = .ok (.getfield 52, 3) := by decide +kernel
theorem dX5_magnetise_52 : decode cX5_magnetise 52 = .ok (.getfield 80, 3) := by decide +kernel
theorem dX5_magnetise_55 : decode cX5_magnetise 55 = .ok (.ireturn, 1) := by decide +kernel
set_option maxRecDepth 20000 in
theorem ggX5_demagnetise_X2_push : GoodIn wsX5_demagnetise wsX2_push := goodIn_r _ [9, 10, 11, 12, 13, 14, 15, 16, 17, 18, 19, 20, 21, 22, 23, 24, 25, 26, 27, 28, 29, 30, 31, 32, 33, 34, 35, 36, 37, 38, 39, 40, 41, 42, 43, 44, 45, 46, 47, 48, 49, 50, 51, 52, 53, 54, 55, 56, 57, 82, 83, 84, 64, 65, 66, 67, 68, 69, 70, 71, 72, 73, 74, 75, 76, 77, 78, 79, 80, 81, 85, 86] (by decide +kernel) (by decide +kernel)
set_option maxRecDepth 20000 in
theorem gX5_demagnetise_X2_push : GoodIn wsX5_demagnetise (wsV RX5 48 RX2 yX2_push wsX2_push) := goodIn_app (goodIn_of _ (by decide +kernel)) ggX5_demagnetise_X2_push
theorem dX5_demagnetise_0 : decode cX5_demagnetise 0 = .ok (.aload_n 0, 1) := by decide +kernel
theorem dX5_demagnetise_1 : decode cX5_demagnetise 1 = .ok (.getfield 22, 3) := by decide +kernel
theorem dX5_demagnetise_4 : decode cX5_demagnetise 4 = .ok (.aload_n 0, 1) := by decide +kernel
theorem dX5_demagnetise_5 : decode cX5_demagnetise 5 = .ok (.getfield 10, 3) := by decide +kernel
theorem dX5_demagnetise_8 : decode cX5_demagnetise 8 = .ok (.invokevirtual 48, 3) := by decide +kernel
theorem dX5_demagnetise_11 : decode cX5_demagnetise 11 = .ok (.aload_n 0, 1) := by decide +kernel
theorem dX5_demagnetise_12 : decode cX5_demagnetise 12 = .ok (.getfield 10, 3) := by decide +kernel
theorem dX5_demagnetise_15 : decode cX5_demagnetise 15 = .ok (.getfield 52, 3) := by decide +kernel
theorem dX5_demagnetise_18 : decode cX5_demagnetise 18 = .ok (.getfield 80, 3) := by decide +kernel
theorem dX5_demagnetise_21 : decode cX5_demagnetise 21 = .ok (.istore_n 1, 1) := by decide +kernel
theorem dX5_demagnetise_22 : decode cX5_demagnetise 22 = .ok (.aload_n 0, 1) := by decide +kernel
theorem dX5_demagnetise_23 : decode cX5_demagnetise 23 = .ok (.getfield 10, 3) := by decide +kernel
theorem dX5_demagnetise_26 : decode cX5_demagnetise 26 = .ok (.getfield 52, 3) := by decide +kernel
theorem dX5_demagnetise_29 : decode cX5_demagnetise 29 = .ok (.iconst 0, 1) := by decide +kernel
theorem dX5_demagnetise_30 : decode cX5_demagnetise 30 = .ok (.putfield 80, 3) := by decide +kernel
theorem dX5_demagnetise_33 : decode cX5_demagnetise 33 = .ok (.iload_n 1, 1) := by decide +kernel
theorem dX5_demagnetise_34 : decode cX5_demagnetise 34 = .ok (.ireturn, 1) := by decide +kernel
set_option maxRecDepth 20000 in
theorem ggX5_clean_X2_push : GoodIn wsX5_clean wsX2_push := goodIn_r _ [9, 10, 11, 12, 13, 14, 15, 16, 17, 18, 19, 20, 21, 22, 23, 24, 25, 26, 27, 28, 29, 30, 31, 32, 33, 34, 35, 36, 37, 38, 39, 40, 41, 42, 43, 44, 45, 46, 47, 48, 49, 50, 51, 52, 53, 54, 55, 56, 57, 82, 83, 84, 64, 65, 66, 67, 68, 69, 70, 71, 72, 73, 74, 75, 76, 77, 78, 79, 80, 81, 85, 86] (by decide +kernel) (by decide +kernel)
set_option maxRecDepth 20000 in
theorem gX5_clean_X2_push : GoodIn wsX5_clean (wsV RX5 48 RX2 yX2_push wsX2_push) := goodIn_app (goodIn_of _ (by decide +kernel)) ggX5_clean_X2_push
theorem dX5_clean_0 : decode cX5_clean 0 = .ok (.aload_n 0, 1) := by decide +kernel
theorem dX5_clean_1 : decode cX5_clean 1 = .ok (.getfield 22, 3) := by decide +kernel
theorem dX5_clean_4 : decode cX5_clean 4 = .ok (.aload_n 0, 1) := by decide +kernel
theorem dX5_clean_5 : decode cX5_clean 5 = .ok (.getfield 10, 3) := by decide +kernel
theorem dX5_clean_8 : decode cX5_clean 8 = .ok (.invokevirtual 48, 3) := by decide +kernel
theorem dX5_clean_11 : decode cX5_clean 11 = .ok (.aload_n 0, 1) := by decide +kernel
theorem dX5_clean_12 : decode cX5_clean 12 = .ok (.getfield 10, 3) := by decide +kernel
theorem dX5_clean_15 : decode cX5_clean 15 = .ok (.getfield 52, 3) := by decide +kernel
theorem dX5_clean_18 : decode cX5_clean 18 = .ok (.getfield 89, 3) := by decide +kernel
theorem dX5_clean_21 : decode cX5_clean 21 = .ok (.istore_n 1, 1) := by decide +kernel
theorem dX5_clean_22 : decode cX5_clean 22 = .ok (.aload_n 0, 1) := by decide +kernel
theorem dX5_clean_23 : decode cX5_clean 23 = .ok (.getfield 10, 3) := by decide +kernel
theorem dX5_clean_26 : decode cX5_clean 26 = .ok (.getfield 52, 3) := by decide +kernel
theorem dX5_clean_29 : decode cX5_clean 29 = .ok (.iconst 0, 1) := by decide +kernel
theorem dX5_clean_30 : decode cX5_clean 30 = .ok (.putfield 89, 3) := by decide +kernel
theorem dX5_clean_33 : decode cX5_clean 33 = .ok (.iload_n 1, 1) := by decide +kernel
theorem dX5_clean_34 : decode cX5_clean 34 = .ok (.ireturn, 1) := by decide +kernel
set_option maxRecDepth 20000 in
theorem ggX5_lay_X5_demandPose : GoodIn wsX5_lay wsX5_demandPose := goodIn_ca (goodIn_r _ [8, 9, 10, 11, 12, 7, 13] (by decide +kernel) (by decide +kernel)) (goodIn_sub (fun _ h => List.mem_cons_of_mem _ (List.mem_append_right _ h)) (by decide +kernel))
set_option maxRecDepth 20000 in
theorem gX5_lay_X5_demandPose : GoodIn wsX5_lay (va_wsS RX5 63 yX5_demandPose wsX5_demandPose) := goodIn_app (goodIn_of _ (by decide +kernel)) ggX5_lay_X5_demandPose
set_option maxRecDepth 20000 in
theorem ggX5_lay_X2_push : GoodIn wsX5_lay wsX2_push := goodIn_r _ [18, 19, 20, 21, 22, 23, 24, 25, 26, 27, 28, 29, 30, 31, 32, 33, 34, 35, 36, 37, 38, 39, 40, 41, 42, 43, 44, 45, 46, 47, 48, 49, 50, 51, 52, 53, 54, 55, 56, 57, 58, 59, 60, 61, 62, 63, 64, 65, 66, 91, 92, 93, 73, 74, 75, 76, 77, 78, 79, 80, 81, 82, 83, 84, 85, 86, 87, 88, 89, 90, 94, 95] (by decide +kernel) (by decide +kernel)
set_option maxRecDepth 20000 in
theorem gX5_lay_X2_push : GoodIn wsX5_lay (wsV RX5 48 RX2 yX2_push wsX2_push) := goodIn_app (goodIn_of _ (by decide +kernel)) ggX5_lay_X2_push
theorem dX5_lay_0 : decode cX5_lay 0 = .ok (.iload_n 1, 1) := by decide +kernel
theorem dX5_lay_1 : decode cX5_lay 1 = .ok (.invokestatic 63, 3) := by decide +kernel
theorem dX5_lay_4 : decode cX5_lay 4 = .ok (.aload_n 0, 1) := by decide +kernel
theorem dX5_lay_5 : decode cX5_lay 5 = .ok (.getfield 22, 3) := by decide +kernel
theorem dX5_lay_8 : decode cX5_lay 8 = .ok (.aload_n 0, 1) := by decide +kernel
theorem dX5_lay_9 : decode cX5_lay 9 = .ok (.getfield 10, 3) := by decide +kernel
theorem dX5_lay_12 : decode cX5_lay 12 = .ok (.invokevirtual 48, 3) := by decide +kernel
end
section
theorem dX5_lay_15 : decode cX5_lay 15 = .ok (.aload_n 0, 1) := by decide +kernel
theorem dX5_lay_16 : decode cX5_lay 16 = .ok (.getfield 10, 3) := by decide +kernel
theorem dX5_lay_19 : decode cX5_lay 19 = .ok (.getfield 52, 3) := by decide +kernel
theorem dX5_lay_22 : decode cX5_lay 22 = .ok (.getfield 92, 3) := by decide +kernel
theorem dX5_lay_25 : decode cX5_lay 25 = .ok (.istore_n 2, 1) := by decide +kernel
theorem dX5_lay_26 : decode cX5_lay 26 = .ok (.aload_n 0, 1) := by decide +kernel
theorem dX5_lay_27 : decode cX5_lay 27 = .ok (.getfield 10, 3) := by decide +kernel
theorem dX5_lay_30 : decode cX5_lay 30 = .ok (.getfield 52, 3) := by decide +kernel
theorem dX5_lay_33 : decode cX5_lay 33 = .ok (.iload_n 1, 1) := by decide +kernel
theorem dX5_lay_34 : decode cX5_lay 34 = .ok (.putfield 92, 3) := by decide +kernel
theorem dX5_lay_37 : decode cX5_lay 37 = .ok (.iload_n 2, 1) := by decide +kernel
theorem dX5_lay_38 : decode cX5_lay 38 = .ok (.ireturn, 1) := by decide +kernel
set_option maxRecDepth 20000 in
theorem ggX5_pass_X5_demandRange : GoodIn wsX5_pass wsX5_demandRange := goodIn_ca (goodIn_r _ [7, 8, 9] (by decide +kernel) (by decide +kernel)) (goodIn_sub (fun _ h => List.mem_cons_of_mem _ (List.mem_append_right _ h)) (by decide +kernel))
set_option maxRecDepth 20000 in
theorem gX5_pass_X5_demandRange : GoodIn wsX5_pass (va_wsS RX5 44 yX5_demandRange wsX5_demandRange) := goodIn_app (goodIn_of _ (by decide +kernel)) ggX5_pass_X5_demandRange
set_option maxRecDepth 20000 in
theorem ggX5_pass_X2_push : GoodIn wsX5_pass wsX2_push := goodIn_r _ [14, 15, 16, 17, 18, 19, 20, 21, 22, 23, 24, 25, 26, 27, 28, 29, 30, 31, 32, 33, 34, 35, 36, 37, 38, 39, 40, 41, 42, 43, 44, 45, 46, 47, 48, 49, 50, 51, 52, 53, 54, 55, 56, 57, 58, 59, 60, 61, 62, 110, 111, 112, 103, 104, 105, 106, 107, 108, 109, 113, 114, 115, 116, 117, 118, 119, 120, 121, 122, 123, 124, 125] (by decide +kernel) (by decide +kernel)
set_option maxRecDepth 20000 in
theorem gX5_pass_X2_push : GoodIn wsX5_pass (wsV RX5 48 RX2 yX2_push wsX2_push) := goodIn_app (goodIn_of _ (by decide +kernel)) ggX5_pass_X2_push
set_option maxRecDepth 20000 in
theorem ggX5_pass_X4_run : GoodIn wsX5_pass wsX4_run := goodIn_r _ [66, 54, 67, 68, 69, 41, 70, 51, 53, 52, 50, 47, 49, 71, 19, 20, 21, 72, 73, 74, 75, 76, 77, 78, 79, 80, 81, 82, 83, 84, 85, 86, 45, 48, 87, 88, 89, 90, 43, 91, 6, 92, 93, 94, 95, 96, 113, 114, 115, 116, 117, 118, 119, 120, 121, 122, 123] (by decide +kernel) (by decide +kernel)
set_option maxRecDepth 20000 in
theorem gX5_pass_X4_run : GoodIn wsX5_pass (wsV RX5 95 RX4 yX4_run wsX4_run) := goodIn_app (goodIn_of _ (by decide +kernel)) ggX5_pass_X4_run
theorem dX5_pass_0 : decode cX5_pass 0 = .ok (.iload_n 1, 1) := by decide +kernel
theorem dX5_pass_1 : decode cX5_pass 1 = .ok (.iconst 1, 1) := by decide +kernel
theorem dX5_pass_2 : decode cX5_pass 2 = .ok (.bipush 99, 2) := by decide +kernel
theorem dX5_pass_4 : decode cX5_pass 4 = .ok (.invokestatic 44, 3) := by decide +kernel
theorem dX5_pass_7 : decode cX5_pass 7 = .ok (.aload_n 0, 1) := by decide +kernel
theorem dX5_pass_8 : decode cX5_pass 8 = .ok (.getfield 22, 3) := by decide +kernel
theorem dX5_pass_11 : decode cX5_pass 11 = .ok (.aload_n 0, 1) := by decide +kernel
theorem dX5_pass_12 : decode cX5_pass 12 = .ok (.getfield 10, 3) := by decide +kernel
theorem dX5_pass_15 : decode cX5_pass 15 = .ok (.invokevirtual 48, 3) := by decide +kernel
theorem dX5_pass_18 : decode cX5_pass 18 = .ok (.aload_n 0, 1) := by decide +kernel
theorem dX5_pass_19 : decode cX5_pass 19 = .ok (.getfield 10, 3) := by decide +kernel
theorem dX5_pass_22 : decode cX5_pass 22 = .ok (.getfield 52, 3) := by decide +kernel
theorem dX5_pass_25 : decode cX5_pass 25 = .ok (.iload_n 1, 1) := by decide +kernel
theorem dX5_pass_26 : decode cX5_pass 26 = .ok (.invokevirtual 95, 3) := by decide +kernel
theorem dX5_pass_29 : decode cX5_pass 29 = .ok (.ireturn, 1) := by decide +kernel
set_option maxRecDepth 20000 in
theorem ggX5_read_X5_demandPose : GoodIn wsX5_read wsX5_demandPose := goodIn_ca (goodIn_r _ [9, 10, 11, 12, 13, 8, 14] (by decide +kernel) (by decide +kernel)) (goodIn_sub (fun _ h => List.mem_cons_of_mem _ (List.mem_append_right _ h)) (by decide +kernel))
set_option maxRecDepth 20000 in
theorem gX5_read_X5_demandPose : GoodIn wsX5_read (va_wsS RX5 63 yX5_demandPose wsX5_demandPose) := goodIn_app (goodIn_of _ (by decide +kernel)) ggX5_read_X5_demandPose
set_option maxRecDepth 20000 in
theorem ggX5_read_X3_whyNoReading : GoodIn wsX5_read wsX3_whyNoReading := goodIn_r _ [19, 20, 21, 22, 23, 24, 25, 26, 27, 28, 29, 30, 31, 32, 33, 34, 35, 36, 37, 38, 39, 40, 41, 42, 43, 44, 45, 46, 47, 48, 49, 126, 127, 128, 129, 130, 131, 132, 133, 134, 135, 136, 137, 138, 139, 140, 141, 142, 143, 144, 145] (by decide +kernel) (by decide +kernel)
set_option maxRecDepth 20000 in
theorem gX5_read_X3_whyNoReading : GoodIn wsX5_read (wsV RX5 98 RX3 yX3_whyNoReading wsX3_whyNoReading) := goodIn_app (goodIn_of _ (by decide +kernel)) ggX5_read_X3_whyNoReading
set_option maxRecDepth 20000 in
theorem ggX5_read_X2_push : GoodIn wsX5_read wsX2_push := goodIn_r _ [54, 55, 56, 57, 58, 59, 34, 60, 61, 62, 63, 18, 64, 20, 24, 22, 65, 66, 67, 68, 69, 70, 71, 72, 73, 74, 75, 28, 76, 77, 78, 79, 40, 30, 80, 31, 81, 82, 83, 84, 85, 86, 87, 88, 47, 89, 90, 91, 49, 146, 147, 148, 126, 127, 128, 129, 130, 131, 132, 133, 134, 135, 136, 137, 138, 139, 140, 141, 142, 143, 144, 145] (by decide +kernel) (by decide +kernel)
set_option maxRecDepth 20000 in
theorem gX5_read_X2_push : GoodIn wsX5_read (wsV RX5 48 RX2 yX2_push wsX2_push) := goodIn_app (goodIn_of _ (by decide +kernel)) ggX5_read_X2_push
set_option maxRecDepth 20000 in
theorem ggX5_read_X3_makeReading : GoodIn wsX5_read wsX3_makeReading := goodIn_r _ [95, 20, 96, 24, 69, 97, 98, 99, 47, 100, 49, 90, 101, 102, 103, 45, 46, 48, 104, 105, 106, 28, 107, 79, 80, 108, 26, 27, 29, 30, 31, 32, 33, 34, 35, 109, 110, 111, 112, 77, 13, 8, 14, 113, 114, 115, 116, 117, 37, 38, 39, 40, 41, 42, 43, 118, 126, 127, 128, 129, 130, 131, 132, 133, 134, 135, 136, 137, 138, 139, 140, 141, 142, 143, 144, 145] (by decide +kernel) (by decide +kernel)
set_option maxRecDepth 20000 in
theorem gX5_read_X3_makeReading : GoodIn wsX5_read (wsV RX5 108 RX3 yX3_makeReading wsX3_makeReading) := goodIn_app (goodIn_of _ (by decide +kernel)) ggX5_read_X3_makeReading
set_option maxRecDepth 20000 in
theorem ggX5_read_X4_rateIn : GoodIn wsX5_read wsX4_rateIn := goodIn_r _ [107, 79, 80, 108, 26, 27, 28, 29, 30, 31, 32, 33, 34, 35, 109, 110, 111, 112, 77, 13, 8, 14, 113, 114, 115, 116, 133, 134, 135, 136, 137, 138, 139, 140, 141, 142, 143] (by decide +kernel) (by decide +kernel)
set_option maxRecDepth 20000 in
theorem gX5_read_X4_rateIn : GoodIn wsX5_read (wsV RX5 111 RX4 yX4_rateIn wsX4_rateIn) := goodIn_app (goodIn_of _ (by decide +kernel)) ggX5_read_X4_rateIn
theorem dX5_read_0 : decode cX5_read 0 = .ok (.iload_n 1, 1) := by decide +kernel
theorem dX5_read_1 : decode cX5_read 1 = .ok (.invokestatic 63, 3) := by decide +kernel
theorem dX5_read_4 : decode cX5_read 4 = .ok (.aload_n 0, 1) := by decide +kernel
theorem dX5_read_5 : decode cX5_read 5 = .ok (.getfield 10, 3) := by decide +kernel
theorem dX5_read_8 : decode cX5_read 8 = .ok (.iload_n 1, 1) := by decide +kernel
theorem dX5_read_9 : decode cX5_read 9 = .ok (.invokevirtual 98, 3) := by decide +kernel
theorem dX5_read_12 : decode cX5_read 12 = .ok (.ifCond .eq 13, 3) := by decide +kernel
theorem dX5_read_15 : decode cX5_read 15 = .ok (.new 101, 3) := by decide +kernel
theorem dX5_read_18 : decode cX5_read 18 = .ok (.dup, 1) := by decide +kernel
theorem dX5_read_19 : decode cX5_read 19 = .ok (.ldc 103, 2) := by decide +kernel
theorem dX5_read_21 : decode cX5_read 21 = .ok (.invokespecial 105, 3) := by decide +kernel
theorem dX5_read_24 : decode cX5_read 24 = .ok (.athrow, 1) := by decide +kernel
theorem dX5_read_25 : decode cX5_read 25 = .ok (.aload_n 0, 1) := by decide +kernel
theorem dX5_read_26 : decode cX5_read 26 = .ok (.getfield 22, 3) := by decide +kernel
theorem dX5_read_29 : decode cX5_read 29 = .ok (.aload_n 0, 1) := by decide +kernel
theorem dX5_read_30 : decode cX5_read 30 = .ok (.getfield 10, 3) := by decide +kernel
theorem dX5_read_33 : decode cX5_read 33 = .ok (.invokevirtual 48, 3) := by decide +kernel
theorem dX5_read_36 : decode cX5_read 36 = .ok (.aload_n 0, 1) := by decide +kernel
theorem dX5_read_37 : decode cX5_read 37 = .ok (.getfield 10, 3) := by decide +kernel
theorem dX5_read_40 : decode cX5_read 40 = .ok (.iload_n 1, 1) := by decide +kernel
theorem dX5_read_41 : decode cX5_read 41 = .ok (.invokevirtual 108, 3) := by decide +kernel
theorem dX5_read_44 : decode cX5_read 44 = .ok (.aload_n 0, 1) := by decide +kernel
theorem dX5_read_45 : decode cX5_read 45 = .ok (.getfield 10, 3) := by decide +kernel
theorem dX5_read_48 : decode cX5_read 48 = .ok (.getfield 52, 3) := by decide +kernel
theorem dX5_read_51 : decode cX5_read 51 = .ok (.iload_n 1, 1) := by decide +kernel
theorem dX5_read_52 : decode cX5_read 52 = .ok (.invokevirtual 111, 3) := by decide +kernel
theorem dX5_read_55 : decode cX5_read 55 = .ok (.sipush 10000, 3) := by decide +kernel
theorem dX5_read_58 : decode cX5_read 58 = .ok (.iadd, 1) := by decide +kernel
theorem dX5_read_59 : decode cX5_read 59 = .ok (.ireturn, 1) := by decide +kernel
set_option maxRecDepth 20000 in
theorem ggX5_renew_X2_push : GoodIn wsX5_renew wsX2_push := goodIn_r _ [9, 10, 11, 12, 13, 14, 15, 16, 17, 18, 19, 20, 21, 22, 23, 24, 25, 26, 27, 28, 29, 30, 31, 32, 33, 34, 35, 36, 37, 38, 39, 40, 41, 42, 43, 44, 45, 46, 47, 48, 49, 50, 51, 52, 53, 54, 55, 56, 57, 73, 74, 75, 64, 65, 66, 67, 68, 69, 70, 76, 77, 78, 79, 80, 81, 82, 83, 84, 85, 86, 71, 72] (by decide +kernel) (by decide +kernel)
set_option maxRecDepth 20000 in
theorem gX5_renew_X2_push : GoodIn wsX5_renew (wsV RX5 48 RX2 yX2_push wsX2_push) := goodIn_app (goodIn_of _ (by decide +kernel)) ggX5_renew_X2_push
theorem dX5_renew_0 : decode cX5_renew 0 = .ok (.aload_n 0, 1) := by decide +kernel
theorem dX5_renew_1 : decode cX5_renew 1 = .ok (.getfield 22, 3) := by decide +kernel
theorem dX5_renew_4 : decode cX5_renew 4 = .ok (.aload_n 0, 1) := by decide +kernel
theorem dX5_renew_5 : decode cX5_renew 5 = .ok (.getfield 10, 3) := by decide +kernel
theorem dX5_renew_8 : decode cX5_renew 8 = .ok (.invokevirtual 48, 3) := by decide +kernel
theorem dX5_renew_11 : decode cX5_renew 11 = .ok (.aload_n 0, 1) := by decide +kernel
theorem dX5_renew_12 : decode cX5_renew 12 = .ok (.getfield 10, 3) := by decide +kernel
theorem dX5_renew_15 : decode cX5_renew 15 = .ok (.getfield 114, 3) := by decide +kernel
theorem dX5_renew_18 : decode cX5_renew 18 = .ok (.getfield 118, 3) := by decide +kernel
theorem dX5_renew_21 : decode cX5_renew 21 = .ok (.istore_n 1, 1) := by decide +kernel
theorem dX5_renew_22 : decode cX5_renew 22 = .ok (.aload_n 0, 1) := by decide +kernel
theorem dX5_renew_23 : decode cX5_renew 23 = .ok (.getfield 10, 3) := by decide +kernel
theorem dX5_renew_26 : decode cX5_renew 26 = .ok (.getfield 114, 3) := by decide +kernel
theorem dX5_renew_29 : decode cX5_renew 29 = .ok (.iconst 0, 1) := by decide +kernel
theorem dX5_renew_30 : decode cX5_renew 30 = .ok (.putfield 118, 3) := by decide +kernel
theorem dX5_renew_33 : decode cX5_renew 33 = .ok (.iload_n 1, 1) := by decide +kernel
theorem dX5_renew_34 : decode cX5_renew 34 = .ok (.ireturn, 1) := by decide +kernel
set_option maxRecDepth 20000 in
theorem ggX5_set_X5_demandRange : GoodIn wsX5_set wsX5_demandRange := goodIn_ca (goodIn_r _ [11, 12, 13] (by decide +kernel) (by decide +kernel)) (goodIn_sub (fun _ h => List.mem_cons_of_mem _ (List.mem_append_right _ h)) (by decide +kernel))
set_option maxRecDepth 20000 in
theorem gX5_set_X5_demandRange : GoodIn wsX5_set (va_wsS RX5 44 yX5_demandRange wsX5_demandRange) := goodIn_app (goodIn_of _ (by decide +kernel)) ggX5_set_X5_demandRange
set_option maxRecDepth 20000 in
theorem ggX5_set_X2_push : GoodIn wsX5_set wsX2_push := goodIn_r _ [18, 19, 20, 21, 22, 23, 24, 25, 26, 27, 28, 29, 30, 31, 32, 33, 34, 35, 36, 37, 38, 39, 40, 41, 42, 43, 44, 45, 46, 47, 48, 49, 50, 51, 52, 53, 54, 55, 56, 57, 58, 59, 60, 61, 62, 63, 64, 65, 66, 80, 81, 82, 73, 74, 75, 76, 77, 78, 79, 83, 84, 85, 86, 87, 88, 89, 90, 91, 92, 93, 94, 95] (by decide +kernel) (by decide +kernel)
set_option maxRecDepth 20000 in
theorem gX5_set_X2_push : GoodIn wsX5_set (wsV RX5 48 RX2 yX2_push wsX2_push) := goodIn_app (goodIn_of _ (by decide +kernel)) ggX5_set_X2_push
theorem dX5_set_0 : decode cX5_set 0 = .ok (.iload_n 1, 1) := by decide +kernel
theorem dX5_set_1 : decode cX5_set 1 = .ok (.ifCond .lt 8, 3) := by decide +kernel
theorem dX5_set_4 : decode cX5_set 4 = .ok (.iload_n 1, 1) := by decide +kernel
theorem dX5_set_5 : decode cX5_set 5 = .ok (.iconst 4, 1) := by decide +kernel
theorem dX5_set_6 : decode cX5_set 6 = .ok (.if_icmp .lt 13, 3) := by decide +kernel
theorem dX5_set_9 : decode cX5_set 9 = .ok (.new 123, 3) := by decide +kernel
theorem dX5_set_12 : decode cX5_set 12 = .ok (.dup, 1) := by decide +kernel
theorem dX5_set_13 : decode cX5_set 13 = .ok (.ldc 125, 2) := by decide +kernel
theorem dX5_set_15 : decode cX5_set 15 = .ok (.invokespecial 127, 3) := by decide +kernel
theorem dX5_set_18 : decode cX5_set 18 = .ok (.athrow, 1) := by decide +kernel
theorem dX5_set_19 : decode cX5_set 19 = .ok (.iload_n 2, 1) := by decide +kernel
theorem dX5_set_20 : decode cX5_set 20 = .ok (.getstatic 128, 3) := by decide +kernel
theorem dX5_set_23 : decode cX5_set 23 = .ok (.iload_n 1, 1) := by decide +kernel
theorem dX5_set_24 : decode cX5_set 24 = .ok (.iaload, 1) := by decide +kernel
theorem dX5_set_25 : decode cX5_set 25 = .ok (.getstatic 132, 3) := by decide +kernel
theorem dX5_set_28 : decode cX5_set 28 = .ok (.iload_n 1, 1) := by decide +kernel
theorem dX5_set_29 : decode cX5_set 29 = .ok (.iaload, 1) := by decide +kernel
theorem dX5_set_30 : decode cX5_set 30 = .ok (.invokestatic 44, 3) := by decide +kernel
theorem dX5_set_33 : decode cX5_set 33 = .ok (.aload_n 0, 1) := by decide +kernel
theorem dX5_set_34 : decode cX5_set 34 = .ok (.getfield 22, 3) := by decide +kernel
theorem dX5_set_37 : decode cX5_set 37 = .ok (.aload_n 0, 1) := by decide +kernel
theorem dX5_set_38 : decode cX5_set 38 = .ok (.getfield 10, 3) := by decide +kernel
theorem dX5_set_41 : decode cX5_set 41 = .ok (.invokevirtual 48, 3) := by decide +kernel
theorem dX5_set_44 : decode cX5_set 44 = .ok (.aload_n 0, 1) := by decide +kernel
theorem dX5_set_45 : decode cX5_set 45 = .ok (.getfield 10, 3) := by decide +kernel
theorem dX5_set_48 : decode cX5_set 48 = .ok (.getfield 135, 3) := by decide +kernel
theorem dX5_set_51 : decode cX5_set 51 = .ok (.iload_n 1, 1) := by decide +kernel
theorem dX5_set_52 : decode cX5_set 52 = .ok (.iaload, 1) := by decide +kernel
theorem dX5_set_53 : decode cX5_set 53 = .ok (.istore_n 3, 1) := by decide +kernel
theorem dX5_set_54 : decode cX5_set 54 = .ok (.aload_n 0, 1) := by decide +kernel
theorem dX5_set_55 : decode cX5_set 55 = .ok (.getfield 10, 3) := by decide +kernel
theorem dX5_set_58 : decode cX5_set 58 = .ok (.getfield 135, 3) := by decide +kernel
theorem dX5_set_61 : decode cX5_set 61 = .ok (.iload_n 1, 1) := by decide +kernel
theorem dX5_set_62 : decode cX5_set 62 = .ok (.iload_n 2, 1) := by decide +kernel
theorem dX5_set_63 : decode cX5_set 63 = .ok (.iastore, 1) := by decide +kernel
theorem dX5_set_64 : decode cX5_set 64 = .ok (.iload_n 3, 1) := by decide +kernel
theorem dX5_set_65 : decode cX5_set 65 = .ok (.ireturn, 1) := by decide +kernel
set_option maxRecDepth 20000 in
theorem ggX5_undo_X2_popInto : GoodIn wsX5_undo wsX2_popInto := goodIn_r _ [10, 11, 12, 13, 14, 15, 16, 17, 18, 19, 20, 21, 22, 23, 24, 25, 26, 27, 28, 29, 30, 31, 32, 33, 34, 35, 36, 37, 38, 39, 40, 41, 42, 43, 44, 45, 46, 47, 48, 49, 50, 51, 52, 53, 54, 61, 62, 63, 64, 65, 66, 67, 68, 69, 70, 71, 72, 73, 74, 75, 76, 77, 78, 79, 80, 81, 82, 83] (by decide +kernel) (by decide +kernel)
set_option maxRecDepth 20000 in
theorem gX5_undo_X2_popInto : GoodIn wsX5_undo (wsV RX5 175 RX2 yX2_popInto wsX2_popInto) := goodIn_app (goodIn_of _ (by decide +kernel)) ggX5_undo_X2_popInto
theorem dX5_undo_0 : decode cX5_undo 0 = .ok (.aload_n 0, 1) := by decide +kernel
theorem dX5_undo_1 : decode cX5_undo 1 = .ok (.getfield 22, 3) := by decide +kernel
theorem dX5_undo_4 : decode cX5_undo 4 = .ok (.getfield 170, 3) := by decide +kernel
theorem dX5_undo_7 : decode cX5_undo 7 = .ok (.ifCond .ne 13, 3) := by decide +kernel
theorem dX5_undo_10 : decode cX5_undo 10 = .ok (.new 101, 3) := by decide +kernel
theorem dX5_undo_13 : decode cX5_undo 13 = .ok (.dup, 1) := by decide +kernel
theorem dX5_undo_14 : decode cX5_undo 14 = .ok (.ldc 173, 2) := by decide +kernel
theorem dX5_undo_16 : decode cX5_undo 16 = .ok (.invokespecial 105, 3) := by decide +kernel
theorem dX5_undo_19 : decode cX5_undo 19 = .ok (.athrow, 1) := by decide +kernel
theorem dX5_undo_20 : decode cX5_undo 20 = .ok (.aload_n 0, 1) := by decide +kernel
theorem dX5_undo_21 : decode cX5_undo 21 = .ok (.getfield 22, 3) := by decide +kernel
theorem dX5_undo_24 : decode cX5_undo 24 = .ok (.aload_n 0, 1) := by decide +kernel
theorem dX5_undo_25 : decode cX5_undo 25 = .ok (.getfield 10, 3) := by decide +kernel
theorem dX5_undo_28 : decode cX5_undo 28 = .ok (.invokevirtual 175, 3) := by decide +kernel
theorem dX5_undo_31 : decode cX5_undo 31 = .ok (.aload_n 0, 1) := by decide +kernel
theorem dX5_undo_32 : decode cX5_undo 32 = .ok (.getfield 22, 3) := by decide +kernel
theorem dX5_undo_35 : decode cX5_undo 35 = .ok (.getfield 170, 3) := by decide +kernel
theorem dX5_undo_38 : decode cX5_undo 38 = .ok (.ireturn, 1) := by decide +kernel
set_option maxRecDepth 20000 in
theorem ggX5_restore_X2_push : GoodIn wsX5_restore wsX2_push := goodIn_r _ [13, 14, 15, 16, 17, 18, 19, 20, 21, 22, 23, 24, 25, 26, 27, 28, 29, 30, 31, 32, 33, 34, 35, 36, 37, 38, 39, 40, 41, 42, 43, 44, 45, 46, 47, 48, 49, 50, 51, 52, 53, 54, 55, 56, 57, 58, 59, 60, 61, 87, 88, 89, 69, 70, 71, 72, 73, 74, 75, 76, 77, 78, 79, 80, 81, 82, 83, 84, 85, 86, 90, 91] (by decide +kernel) (by decide +kernel)
set_option maxRecDepth 20000 in
theorem gX5_restore_X2_push : GoodIn wsX5_restore (wsV RX5 48 RX2 yX2_push wsX2_push) := goodIn_app (goodIn_of _ (by decide +kernel)) ggX5_restore_X2_push
set_option maxRecDepth 20000 in
theorem ggX5_restore_X3_copyFrom : GoodIn wsX5_restore wsX3_copyFrom := goodIn_r _ [25, 26, 27, 28, 29, 30, 31, 32, 33, 34, 35, 36, 37, 38, 39, 40, 41, 42, 43, 44, 45, 46, 47, 48, 49, 50, 51, 52, 53, 54, 55, 56, 57, 58, 59, 60, 61, 69, 70, 71, 72, 73, 74, 75, 76, 77, 78, 79, 80, 81, 82, 83, 84, 85, 86, 90, 91] (by decide +kernel) (by decide +kernel)
set_option maxRecDepth 20000 in
theorem gX5_restore_X3_copyFrom : GoodIn wsX5_restore (wsV RX5 178 RX3 yX3_copyFrom wsX3_copyFrom) := goodIn_app (goodIn_of _ (by decide +kernel)) ggX5_restore_X3_copyFrom
theorem dX5_restore_0 : decode cX5_restore 0 = .ok (.aload_n 0, 1) := by decide +kernel
theorem dX5_restore_1 : decode cX5_restore 1 = .ok (.getfield 40, 3) := by decide +kernel
theorem dX5_restore_4 : decode cX5_restore 4 = .ok (.ifCond .ne 13, 3) := by decide +kernel
theorem dX5_restore_7 : decode cX5_restore 7 = .ok (.new 101, 3) := by decide +kernel
theorem dX5_restore_10 : decode cX5_restore 10 = .ok (.dup, 1) := by decide +kernel
theorem dX5_restore_11 : decode cX5_restore 11 = .ok (.ldc 184, 2) := by decide +kernel
theorem dX5_restore_13 : decode cX5_restore 13 = .ok (.invokespecial 105, 3) := by decide +kernel
theorem dX5_restore_16 : decode cX5_restore 16 = .ok (.athrow, 1) := by decide +kernel
theorem dX5_restore_17 : decode cX5_restore 17 = .ok (.aload_n 0, 1) := by decide +kernel
theorem dX5_restore_18 : decode cX5_restore 18 = .ok (.getfield 22, 3) := by decide +kernel
theorem dX5_restore_21 : decode cX5_restore 21 = .ok (.aload_n 0, 1) := by decide +kernel
theorem dX5_restore_22 : decode cX5_restore 22 = .ok (.getfield 10, 3) := by decide +kernel
theorem dX5_restore_25 : decode cX5_restore 25 = .ok (.invokevirtual 48, 3) := by decide +kernel
theorem dX5_restore_28 : decode cX5_restore 28 = .ok (.aload_n 0, 1) := by decide +kernel
theorem dX5_restore_29 : decode cX5_restore 29 = .ok (.getfield 10, 3) := by decide +kernel
theorem dX5_restore_32 : decode cX5_restore 32 = .ok (.aload_n 0, 1) := by decide +kernel
theorem dX5_restore_33 : decode cX5_restore 33 = .ok (.getfield 16, 3) := by decide +kernel
theorem dX5_restore_36 : decode cX5_restore 36 = .ok (.invokevirtual 178, 3) := by decide +kernel
theorem dX5_restore_39 : decode cX5_restore 39 = .ok (.aload_n 0, 1) := by decide +kernel
theorem dX5_restore_40 : decode cX5_restore 40 = .ok (.getfield 10, 3) := by decide +kernel
theorem dX5_restore_43 : decode cX5_restore 43 = .ok (.getfield 52, 3) := by decide +kernel
theorem dX5_restore_46 : decode cX5_restore 46 = .ok (.getfield 181, 3) := by decide +kernel
theorem dX5_restore_49 : decode cX5_restore 49 = .ok (.ireturn, 1) := by decide +kernel
set_option maxRecDepth 20000 in
theorem ggX5_pose_X5_demandPose : GoodIn wsX5_pose wsX5_demandPose := goodIn_ca (goodIn_r _ [4, 5, 6, 7, 8, 3, 9] (by decide +kernel) (by decide +kernel)) (goodIn_sub (fun _ h => List.mem_cons_of_mem _ (List.mem_append_left _ (List.mem_append_right _ h))) (by decide +kernel))
set_option maxRecDepth 20000 in
theorem gX5_pose_X5_demandPose : GoodIn wsX5_pose (va_wsS RX5 63 yX5_demandPose wsX5_demandPose) := goodIn_app (goodIn_of _ (by decide +kernel)) ggX5_pose_X5_demandPose
set_option maxRecDepth 20000 in
theorem ggX5_pose_X5_demandRange : GoodIn wsX5_pose wsX5_demandRange := goodIn_ca (goodIn_r _ [12, 13, 14] (by decide +kernel) (by decide +kernel)) (goodIn_sub (fun _ h => List.mem_cons_of_mem _ (List.mem_append_right _ h)) (by decide +kernel))
set_option maxRecDepth 20000 in
theorem gX5_pose_X5_demandRange : GoodIn wsX5_pose (va_wsS RX5 44 yX5_demandRange wsX5_demandRange) := goodIn_app (goodIn_of _ (by decide +kernel)) ggX5_pose_X5_demandRange
set_option maxRecDepth 20000 in
theorem ggX5_pose_X5_poseNumber : GoodIn wsX5_pose wsX5_poseNumber := goodIn_r _ [18, 19, 20, 21, 22, 23, 24, 25, 26, 27, 28, 29, 30, 31, 32, 33, 34, 35, 36, 37, 38, 8, 3, 9, 39, 40, 41, 42, 43, 44, 45, 46, 47, 48, 49, 50, 51, 52, 53, 54, 55, 56, 57, 58, 59, 60, 61, 62, 63, 64, 65, 66, 67, 68, 69, 70, 71, 72, 73, 74, 75, 76, 77, 78, 79, 80, 81, 82, 83, 84, 85, 86, 87, 88, 89, 90, 91, 92, 93, 94, 95, 96, 97, 98, 99, 100, 101, 102, 103, 104, 105, 106, 107, 108, 109, 110, 111, 112, 113, 114, 115] (by decide +kernel) (by decide +kernel)
set_option maxRecDepth 20000 in
theorem gX5_pose_X5_poseNumber : GoodIn wsX5_pose (wsV RX5 186 RX5 yX5_poseNumber wsX5_poseNumber) := goodIn_app (goodIn_of _ (by decide +kernel)) ggX5_pose_X5_poseNumber
theorem dX5_pose_0 : decode cX5_pose 0 = .ok (.iload_n 1, 1) := by decide +kernel
theorem dX5_pose_1 : decode cX5_pose 1 = .ok (.invokestatic 63, 3) := by decide +kernel
theorem dX5_pose_4 : decode cX5_pose 4 = .ok (.iload_n 2, 1) := by decide +kernel
theorem dX5_pose_5 : decode cX5_pose 5 = .ok (.iconst 0, 1) := by decide +kernel
theorem dX5_pose_6 : decode cX5_pose 6 = .ok (.bipush 7, 2) := by decide +kernel
theorem dX5_pose_8 : decode cX5_pose 8 = .ok (.invokestatic 44, 3) := by decide +kernel
theorem dX5_pose_11 : decode cX5_pose 11 = .ok (.aload_n 0, 1) := by decide +kernel
theorem dX5_pose_12 : decode cX5_pose 12 = .ok (.iload_n 1, 1) := by decide +kernel
theorem dX5_pose_13 : decode cX5_pose 13 = .ok (.iload_n 2, 1) := by decide +kernel
theorem dX5_pose_14 : decode cX5_pose 14 = .ok (.invokevirtual 186, 3) := by decide +kernel
theorem dX5_pose_17 : decode cX5_pose 17 = .ok (.ireturn, 1) := by decide +kernel
set_option maxRecDepth 20000 in
theorem ggX5_reading_X5_demandRange : GoodIn wsX5_reading wsX5_demandRange := goodIn_ca (goodIn_r _ [6, 1, 2] (by decide +kernel) (by decide +kernel)) (goodIn_sub (fun _ h => List.mem_cons_of_mem _ (List.mem_append_right _ h)) (by decide +kernel))
set_option maxRecDepth 20000 in
theorem gX5_reading_X5_demandRange : GoodIn wsX5_reading (va_wsS RX5 44 yX5_demandRange wsX5_demandRange) := goodIn_app (goodIn_of _ (by decide +kernel)) ggX5_reading_X5_demandRange
set_option maxRecDepth 20000 in
theorem ggX5_reading_X5_readingNumber : GoodIn wsX5_reading wsX5_readingNumber := goodIn_r _ [10, 11, 12, 13, 14, 15, 16, 17, 18, 19, 20, 21, 22, 23, 24, 25, 26, 27, 28, 29, 30, 31, 32, 33, 34, 35] (by decide +kernel) (by decide +kernel)
set_option maxRecDepth 20000 in
theorem gX5_reading_X5_readingNumber : GoodIn wsX5_reading (wsV RX5 191 RX5 yX5_readingNumber wsX5_readingNumber) := goodIn_app (goodIn_of _ (by decide +kernel)) ggX5_reading_X5_readingNumber
theorem dX5_reading_0 : decode cX5_reading 0 = .ok (.iload_n 1, 1) := by decide +kernel
theorem dX5_reading_1 : decode cX5_reading 1 = .ok (.ifCond .ge 13, 3) := by decide +kernel
theorem dX5_reading_4 : decode cX5_reading 4 = .ok (.new 152, 3) := by decide +kernel
theorem dX5_reading_7 : decode cX5_reading 7 = .ok (.dup, 1) := by decide +kernel
theorem dX5_reading_8 : decode cX5_reading 8 = .ok (.ldc 189, 2) := by decide +kernel
theorem dX5_reading_10 : decode cX5_reading 10 = .ok (.invokespecial 156, 3) := by decide +kernel
theorem dX5_reading_13 : decode cX5_reading 13 = .ok (.athrow, 1) := by decide +kernel
theorem dX5_reading_14 : decode cX5_reading 14 = .ok (.iload_n 2, 1) := by decide +kernel
theorem dX5_reading_15 : decode cX5_reading 15 = .ok (.iconst 0, 1) := by decide +kernel
theorem dX5_reading_16 : decode cX5_reading 16 = .ok (.iconst 4, 1) := by decide +kernel
theorem dX5_reading_17 : decode cX5_reading 17 = .ok (.invokestatic 44, 3) := by decide +kernel
theorem dX5_reading_20 : decode cX5_reading 20 = .ok (.aload_n 0, 1) := by decide +kernel
theorem dX5_reading_21 : decode cX5_reading 21 = .ok (.iload_n 1, 1) := by decide +kernel
theorem dX5_reading_22 : decode cX5_reading 22 = .ok (.iload_n 2, 1) := by decide +kernel
theorem dX5_reading_23 : decode cX5_reading 23 = .ok (.invokevirtual 191, 3) := by decide +kernel
theorem dX5_reading_26 : decode cX5_reading 26 = .ok (.ireturn, 1) := by decide +kernel
set_option maxRecDepth 20000 in
theorem ggX5_count_X5_demandRange : GoodIn wsX5_count wsX5_demandRange := goodIn_ca (goodIn_r _ [4, 5, 6] (by decide +kernel) (by decide +kernel)) (goodIn_sub (fun _ h => List.mem_cons_of_mem _ (List.mem_append_right _ h)) (by decide +kernel))
set_option maxRecDepth 20000 in
theorem gX5_count_X5_demandRange : GoodIn wsX5_count (va_wsS RX5 44 yX5_demandRange wsX5_demandRange) := goodIn_app (goodIn_of _ (by decide +kernel)) ggX5_count_X5_demandRange
set_option maxRecDepth 20000 in
theorem ggX5_count_X5_countNumber : GoodIn wsX5_count wsX5_countNumber := goodIn_r _ [10, 11, 12, 13, 14, 15, 16, 17, 18, 19, 20, 21, 22, 23, 24, 25, 26, 27, 28, 29, 30, 31, 32, 33, 34, 35, 36, 37, 38, 39, 40, 41, 42, 43, 44, 45, 46, 47, 48, 49, 50, 51, 52, 53, 54, 55, 56, 57, 58, 59, 60, 61, 62, 63, 64, 65, 66, 67, 68, 69, 70, 71, 72, 73, 74, 75, 76, 77, 78, 79, 80, 81, 82, 83, 84, 85, 86, 87, 88, 89, 90, 91, 92, 93, 94, 95, 96, 97, 98, 99, 100, 101, 102, 103, 104, 105, 106, 107, 108, 109, 110, 111, 112, 113, 114, 115] (by decide +kernel) (by decide +kernel)
set_option maxRecDepth 20000 in
theorem gX5_count_X5_countNumber : GoodIn wsX5_count (wsV RX5 194 RX5 yX5_countNumber wsX5_countNumber) := goodIn_app (goodIn_of _ (by decide +kernel)) ggX5_count_X5_countNumber
theorem dX5_count_0 : decode cX5_count 0 = .ok (.iload_n 1, 1) := by decide +kernel
theorem dX5_count_1 : decode cX5_count 1 = .ok (.iconst 0, 1) := by decide +kernel
theorem dX5_count_2 : decode cX5_count 2 = .ok (.bipush 20, 2) := by decide +kernel
theorem dX5_count_4 : decode cX5_count 4 = .ok (.invokestatic 44, 3) := by decide +kernel
theorem dX5_count_7 : decode cX5_count 7 = .ok (.aload_n 0, 1) := by decide +kernel
theorem dX5_count_8 : decode cX5_count 8 = .ok (.iload_n 1, 1) := by decide +kernel
theorem dX5_count_9 : decode cX5_count 9 = .ok (.invokevirtual 194, 3) := by decide +kernel
theorem dX5_count_12 : decode cX5_count 12 = .ok (.ireturn, 1) := by decide +kernel
set_option maxRecDepth 20000 in
theorem ggX5_ifWorn_X5_demandPose : GoodIn wsX5_ifWorn wsX5_demandPose := goodIn_ca (goodIn_r _ [4, 5, 6, 7, 8, 3, 9] (by decide +kernel) (by decide +kernel)) (goodIn_sub (fun _ h => List.mem_cons_of_mem _ (List.mem_append_left _ (List.mem_append_right _ h))) (by decide +kernel))
set_option maxRecDepth 20000 in
theorem gX5_ifWorn_X5_demandPose : GoodIn wsX5_ifWorn (va_wsS RX5 63 yX5_demandPose wsX5_demandPose) := goodIn_app (goodIn_of _ (by decide +kernel)) ggX5_ifWorn_X5_demandPose
set_option maxRecDepth 20000 in
theorem ggX5_ifWorn_X5_demandRange : GoodIn wsX5_ifWorn wsX5_demandRange := goodIn_ca (goodIn_r _ [12, 13, 14] (by decide +kernel) (by decide +kernel)) (goodIn_sub (fun _ h => List.mem_cons_of_mem _ (List.mem_append_right _ h)) (by decide +kernel))
set_option maxRecDepth 20000 in
theorem gX5_ifWorn_X5_demandRange : GoodIn wsX5_ifWorn (va_wsS RX5 44 yX5_demandRange wsX5_demandRange) := goodIn_app (goodIn_of _ (by decide +kernel)) ggX5_ifWorn_X5_demandRange
set_option maxRecDepth 20000 in
theorem ggX5_ifWorn_X5_wornNumber : GoodIn wsX5_ifWorn wsX5_wornNumber := goodIn_r _ [18, 19, 20, 21, 22, 23, 24, 25, 26, 27, 28, 29, 30, 31, 32, 33, 34, 35, 36, 37, 38, 39, 40, 41, 42, 43, 44, 45, 46, 47, 48, 49, 50, 51, 52, 53, 54, 55, 56, 57, 58, 59, 60, 61, 62, 63, 64, 65, 66, 67, 68, 69, 70, 71, 72, 73, 74, 75, 8, 3, 9, 76, 77, 78, 79, 80, 81, 82, 83, 84, 85, 86, 87, 88, 89, 90, 91, 92, 93, 94, 95, 96, 97, 98, 99, 100, 101, 102, 103] (by decide +kernel) (by decide +kernel)
set_option maxRecDepth 20000 in
theorem gX5_ifWorn_X5_wornNumber : GoodIn wsX5_ifWorn (wsV RX5 197 RX5 yX5_wornNumber wsX5_wornNumber) := goodIn_app (goodIn_of _ (by decide +kernel)) ggX5_ifWorn_X5_wornNumber
theorem dX5_ifWorn_0 : decode cX5_ifWorn 0 = .ok (.iload_n 1, 1) := by decide +kernel
theorem dX5_ifWorn_1 : decode cX5_ifWorn 1 = .ok (.invokestatic 63, 3) := by decide +kernel
theorem dX5_ifWorn_4 : decode cX5_ifWorn 4 = .ok (.iload_n 2, 1) := by decide +kernel
theorem dX5_ifWorn_5 : decode cX5_ifWorn 5 = .ok (.invokestatic 63, 3) := by decide +kernel
theorem dX5_ifWorn_8 : decode cX5_ifWorn 8 = .ok (.iload_n 3, 1) := by decide +kernel
theorem dX5_ifWorn_9 : decode cX5_ifWorn 9 = .ok (.invokestatic 63, 3) := by decide +kernel
theorem dX5_ifWorn_12 : decode cX5_ifWorn 12 = .ok (.iload 4, 2) := by decide +kernel
theorem dX5_ifWorn_14 : decode cX5_ifWorn 14 = .ok (.iconst 0, 1) := by decide +kernel
theorem dX5_ifWorn_15 : decode cX5_ifWorn 15 = .ok (.iconst 1, 1) := by decide +kernel
theorem dX5_ifWorn_16 : decode cX5_ifWorn 16 = .ok (.invokestatic 44, 3) := by decide +kernel
theorem dX5_ifWorn_19 : decode cX5_ifWorn 19 = .ok (.aload_n 0, 1) := by decide +kernel
theorem dX5_ifWorn_20 : decode cX5_ifWorn 20 = .ok (.iload_n 1, 1) := by decide +kernel
theorem dX5_ifWorn_21 : decode cX5_ifWorn 21 = .ok (.iload_n 2, 1) := by decide +kernel
theorem dX5_ifWorn_22 : decode cX5_ifWorn 22 = .ok (.iload_n 3, 1) := by decide +kernel
theorem dX5_ifWorn_23 : decode cX5_ifWorn 23 = .ok (.iload 4, 2) := by decide +kernel
theorem dX5_ifWorn_25 : decode cX5_ifWorn 25 = .ok (.invokevirtual 197, 3) := by decide +kernel
theorem dX5_ifWorn_28 : decode cX5_ifWorn 28 = .ok (.ireturn, 1) := by decide +kernel
set_option maxRecDepth 20000 in
theorem ggX5_bestRegulator_X4_rateIn : GoodIn wsX5_bestRegulator wsX4_rateIn := goodIn_r _ [12, 13, 14, 15, 16, 17, 11, 18, 19, 20, 21, 22, 6, 23, 24, 25, 26, 27, 28, 29, 30, 31, 32, 33, 34, 35, 49, 50, 51, 52, 53, 54, 55, 56, 57, 58, 59] (by decide +kernel) (by decide +kernel)
set_option maxRecDepth 20000 in
theorem gX5_bestRegulator_X4_rateIn : GoodIn wsX5_bestRegulator (wsV RX5 111 RX4 yX4_rateIn wsX4_rateIn) := goodIn_app (goodIn_of _ (by decide +kernel)) ggX5_bestRegulator_X4_rateIn
theorem dX5_bestRegulator_0 : decode cX5_bestRegulator 0 = .ok (.iconst 0, 1) := by decide +kernel
theorem dX5_bestRegulator_1 : decode cX5_bestRegulator 1 = .ok (.istore_n 1, 1) := by decide +kernel
theorem dX5_bestRegulator_2 : decode cX5_bestRegulator 2 = .ok (.iconst 0, 1) := by decide +kernel
theorem dX5_bestRegulator_3 : decode cX5_bestRegulator 3 = .ok (.istore_n 2, 1) := by decide +kernel
theorem dX5_bestRegulator_4 : decode cX5_bestRegulator 4 = .ok (.iload_n 2, 1) := by decide +kernel
theorem dX5_bestRegulator_5 : decode cX5_bestRegulator 5 = .ok (.bipush 6, 2) := by decide +kernel
theorem dX5_bestRegulator_7 : decode cX5_bestRegulator 7 = .ok (.if_icmp .ge 34, 3) := by decide +kernel
theorem dX5_bestRegulator_10 : decode cX5_bestRegulator 10 = .ok (.iload_n 1, 1) := by decide +kernel
theorem dX5_bestRegulator_11 : decode cX5_bestRegulator 11 = .ok (.aload_n 0, 1) := by decide +kernel
theorem dX5_bestRegulator_12 : decode cX5_bestRegulator 12 = .ok (.getfield 10, 3) := by decide +kernel
theorem dX5_bestRegulator_15 : decode cX5_bestRegulator 15 = .ok (.getfield 52, 3) := by decide +kernel
theorem dX5_bestRegulator_18 : decode cX5_bestRegulator 18 = .ok (.iload_n 2, 1) := by decide +kernel
theorem dX5_bestRegulator_19 : decode cX5_bestRegulator 19 = .ok (.invokevirtual 111, 3) := by decide +kernel
theorem dX5_bestRegulator_22 : decode cX5_bestRegulator 22 = .ok (.aload_n 0, 1) := by decide +kernel
theorem dX5_bestRegulator_23 : decode cX5_bestRegulator 23 = .ok (.getfield 10, 3) := by decide +kernel
theorem dX5_bestRegulator_26 : decode cX5_bestRegulator 26 = .ok (.getfield 52, 3) := by decide +kernel
theorem dX5_bestRegulator_29 : decode cX5_bestRegulator 29 = .ok (.getfield 74, 3) := by decide +kernel
theorem dX5_bestRegulator_32 : decode cX5_bestRegulator 32 = .ok (.isub, 1) := by decide +kernel
theorem dX5_bestRegulator_33 : decode cX5_bestRegulator 33 = .ok (.iadd, 1) := by decide +kernel
theorem dX5_bestRegulator_34 : decode cX5_bestRegulator 34 = .ok (.istore_n 1, 1) := by decide +kernel
theorem dX5_bestRegulator_35 : decode cX5_bestRegulator 35 = .ok (.iinc 2 1, 3) := by decide +kernel
theorem dX5_bestRegulator_38 : decode cX5_bestRegulator 38 = .ok (.goto (-34), 3) := by decide +kernel
theorem dX5_bestRegulator_41 : decode cX5_bestRegulator 41 = .ok (.bipush (-99), 2) := by decide +kernel
theorem dX5_bestRegulator_43 : decode cX5_bestRegulator 43 = .ok (.istore_n 2, 1) := by decide +kernel
theorem dX5_bestRegulator_44 : decode cX5_bestRegulator 44 = .ok (.bipush (-99), 2) := by decide +kernel
theorem dX5_bestRegulator_46 : decode cX5_bestRegulator 46 = .ok (.istore_n 3, 1) := by decide +kernel
theorem dX5_bestRegulator_47 : decode cX5_bestRegulator 47 = .ok (.iload_n 3, 1) := by decide +kernel
theorem dX5_bestRegulator_48 : decode cX5_bestRegulator 48 = .ok (.bipush 99, 2) := by decide +kernel
theorem dX5_bestRegulator_50 : decode cX5_bestRegulator 50 = .ok (.if_icmp .gt 32, 3) := by decide +kernel
theorem dX5_bestRegulator_53 : decode cX5_bestRegulator 53 = .ok (.iload_n 1, 1) := by decide +kernel
theorem dX5_bestRegulator_54 : decode cX5_bestRegulator 54 = .ok (.bipush 6, 2) := by decide +kernel
theorem dX5_bestRegulator_56 : decode cX5_bestRegulator 56 = .ok (.iload_n 3, 1) := by decide +kernel
theorem dX5_bestRegulator_57 : decode cX5_bestRegulator 57 = .ok (.imul, 1) := by decide +kernel
theorem dX5_bestRegulator_58 : decode cX5_bestRegulator 58 = .ok (.iadd, 1) := by decide +kernel
theorem dX5_bestRegulator_59 : decode cX5_bestRegulator 59 = .ok (.invokestatic 201, 3) := by decide +kernel
theorem dX5_bestRegulator_62 : decode cX5_bestRegulator 62 = .ok (.iload_n 1, 1) := by decide +kernel
theorem dX5_bestRegulator_63 : decode cX5_bestRegulator 63 = .ok (.bipush 6, 2) := by decide +kernel
theorem dX5_bestRegulator_65 : decode cX5_bestRegulator 65 = .ok (.iload_n 2, 1) := by decide +kernel
theorem dX5_bestRegulator_66 : decode cX5_bestRegulator 66 = .ok (.imul, 1) := by decide +kernel
theorem dX5_bestRegulator_67 : decode cX5_bestRegulator 67 = .ok (.iadd, 1) := by decide +kernel
theorem dX5_bestRegulator_68 : decode cX5_bestRegulator 68 = .ok (.invokestatic 201, 3) := by decide +kernel
theorem dX5_bestRegulator_71 : decode cX5_bestRegulator 71 = .ok (.if_icmp .ge 5, 3) := by decide +kernel
theorem dX5_bestRegulator_74 : decode cX5_bestRegulator 74 = .ok (.iload_n 3, 1) := by decide +kernel
theorem dX5_bestRegulator_75 : decode cX5_bestRegulator 75 = .ok (.istore_n 2, 1) := by decide +kernel
theorem dX5_bestRegulator_76 : decode cX5_bestRegulator 76 = .ok (.iinc 3 1, 3) := by decide +kernel
theorem dX5_bestRegulator_79 : decode cX5_bestRegulator 79 = .ok (.goto (-32), 3) := by decide +kernel
theorem dX5_bestRegulator_82 : decode cX5_bestRegulator 82 = .ok (.iload_n 2, 1) := by decide +kernel
theorem dX5_bestRegulator_83 : decode cX5_bestRegulator 83 = .ok (.bipush 100, 2) := by decide +kernel
theorem dX5_bestRegulator_85 : decode cX5_bestRegulator 85 = .ok (.iadd, 1) := by decide +kernel
theorem dX5_bestRegulator_86 : decode cX5_bestRegulator 86 = .ok (.ireturn, 1) := by decide +kernel
set_option maxRecDepth 20000 in
theorem ggX5_stopsIn_X5_demandPose : GoodIn wsX5_stopsIn wsX5_demandPose := goodIn_ca (goodIn_r _ [4, 5, 6, 7, 8, 3, 9] (by decide +kernel) (by decide +kernel)) (goodIn_sub (fun _ h => List.mem_cons_of_mem _ (List.mem_append_right _ h)) (by decide +kernel))
set_option maxRecDepth 20000 in
theorem gX5_stopsIn_X5_demandPose : GoodIn wsX5_stopsIn (va_wsS RX5 63 yX5_demandPose wsX5_demandPose) := goodIn_app (goodIn_of _ (by decide +kernel)) ggX5_stopsIn_X5_demandPose
set_option maxRecDepth 20000 in
theorem ggX5_stopsIn_X5_hoursUntilStop : GoodIn wsX5_stopsIn wsX5_hoursUntilStop := goodIn_r _ [13, 14, 15, 16, 17, 18, 19, 20, 21, 22, 23, 24, 25, 26, 27, 28, 29, 30, 31, 32, 33, 34, 35, 36, 37, 38, 39, 40, 41, 42, 43, 44, 45, 46, 47, 48, 49, 50, 51, 52, 53, 54, 55, 56, 57, 58, 59, 60, 61, 62, 63, 64, 65, 66, 67, 68, 8, 3, 9, 69, 70, 71, 72, 73, 74, 75, 76, 77, 78, 79, 80, 81, 82, 83, 84, 85, 86, 87, 88, 89, 90, 91, 92, 93, 94, 95, 96] (by decide +kernel) (by decide +kernel)
set_option maxRecDepth 20000 in
theorem gX5_stopsIn_X5_hoursUntilStop : GoodIn wsX5_stopsIn (wsV RX5 204 RX5 yX5_hoursUntilStop wsX5_hoursUntilStop) := goodIn_app (goodIn_of _ (by decide +kernel)) ggX5_stopsIn_X5_hoursUntilStop
theorem dX5_stopsIn_0 : decode cX5_stopsIn 0 = .ok (.iload_n 1, 1) := by decide +kernel
theorem dX5_stopsIn_1 : decode cX5_stopsIn 1 = .ok (.invokestatic 63, 3) := by decide +kernel
theorem dX5_stopsIn_4 : decode cX5_stopsIn 4 = .ok (.aload_n 0, 1) := by decide +kernel
theorem dX5_stopsIn_5 : decode cX5_stopsIn 5 = .ok (.iload_n 1, 1) := by decide +kernel
theorem dX5_stopsIn_6 : decode cX5_stopsIn 6 = .ok (.invokevirtual 204, 3) := by decide +kernel
theorem dX5_stopsIn_9 : decode cX5_stopsIn 9 = .ok (.ireturn, 1) := by decide +kernel
set_option maxRecDepth 20000 in
theorem ggX5_nightPose_X4_copyFrom : GoodIn wsX5_nightPose wsX4_copyFrom := goodIn_r _ [15, 16, 17, 18, 19, 20, 21, 22, 23, 24, 25, 26, 27, 28, 29, 30, 81, 82, 83, 84, 85, 86, 87, 88, 89, 90, 91] (by decide +kernel) (by decide +kernel)
set_option maxRecDepth 20000 in
theorem gX5_nightPose_X4_copyFrom : GoodIn wsX5_nightPose (wsV RX5 208 RX4 yX4_copyFrom wsX4_copyFrom) := goodIn_app (goodIn_of _ (by decide +kernel)) ggX5_nightPose_X4_copyFrom
set_option maxRecDepth 20000 in
theorem ggX5_nightPose_X4_run : GoodIn wsX5_nightPose wsX4_run := goodIn_r _ [34, 30, 35, 36, 37, 14, 38, 27, 29, 28, 26, 23, 25, 39, 40, 9, 41, 42, 43, 44, 45, 46, 47, 48, 49, 50, 51, 52, 53, 54, 55, 56, 21, 24, 57, 58, 59, 60, 16, 61, 62, 63, 64, 65, 66, 67, 81, 82, 83, 84, 85, 86, 87, 88, 89, 90, 91] (by decide +kernel) (by decide +kernel)
set_option maxRecDepth 20000 in
theorem gX5_nightPose_X4_run : GoodIn wsX5_nightPose (wsV RX5 95 RX4 yX4_run wsX4_run) := goodIn_app (goodIn_of _ (by decide +kernel)) ggX5_nightPose_X4_run
theorem dX5_nightPose_0 : decode cX5_nightPose 0 = .ok (.iconst 0, 1) := by decide +kernel
theorem dX5_nightPose_1 : decode cX5_nightPose 1 = .ok (.istore_n 1, 1) := by decide +kernel
theorem dX5_nightPose_2 : decode cX5_nightPose 2 = .ok (.ldc 207, 2) := by decide +kernel
theorem dX5_nightPose_4 : decode cX5_nightPose 4 = .ok (.istore_n 2, 1) := by decide +kernel
theorem dX5_nightPose_5 : decode cX5_nightPose 5 = .ok (.iconst 0, 1) := by decide +kernel
theorem dX5_nightPose_6 : decode cX5_nightPose 6 = .ok (.istore_n 3, 1) := by decide +kernel
theorem dX5_nightPose_7 : decode cX5_nightPose 7 = .ok (.iload_n 3, 1) := by decide +kernel
theorem dX5_nightPose_8 : decode cX5_nightPose 8 = .ok (.bipush 6, 2) := by decide +kernel
theorem dX5_nightPose_10 : decode cX5_nightPose 10 = .ok (.if_icmp .ge 68, 3) := by decide +kernel
theorem dX5_nightPose_13 : decode cX5_nightPose 13 = .ok (.aload_n 0, 1) := by decide +kernel
theorem dX5_nightPose_14 : decode cX5_nightPose 14 = .ok (.getfield 36, 3) := by decide +kernel
theorem dX5_nightPose_17 : decode cX5_nightPose 17 = .ok (.aload_n 0, 1) := by decide +kernel
theorem dX5_nightPose_18 : decode cX5_nightPose 18 = .ok (.getfield 10, 3) := by decide +kernel
theorem dX5_nightPose_21 : decode cX5_nightPose 21 = .ok (.getfield 52, 3) := by decide +kernel
theorem dX5_nightPose_24 : decode cX5_nightPose 24 = .ok (.invokevirtual 208, 3) := by decide +kernel
theorem dX5_nightPose_27 : decode cX5_nightPose 27 = .ok (.aload_n 0, 1) := by decide +kernel
theorem dX5_nightPose_28 : decode cX5_nightPose 28 = .ok (.getfield 36, 3) := by decide +kernel
theorem dX5_nightPose_31 : decode cX5_nightPose 31 = .ok (.iload_n 3, 1) := by decide +kernel
theorem dX5_nightPose_32 : decode cX5_nightPose 32 = .ok (.putfield 92, 3) := by decide +kernel
theorem dX5_nightPose_35 : decode cX5_nightPose 35 = .ok (.aload_n 0, 1) := by decide +kernel
theorem dX5_nightPose_36 : decode cX5_nightPose 36 = .ok (.getfield 36, 3) := by decide +kernel
theorem dX5_nightPose_39 : decode cX5_nightPose 39 = .ok (.bipush 8, 2) := by decide +kernel
theorem dX5_nightPose_41 : decode cX5_nightPose 41 = .ok (.invokevirtual 95, 3) := by decide +kernel
theorem dX5_nightPose_44 : decode cX5_nightPose 44 = .ok (.pop, 1) := by decide +kernel
theorem dX5_nightPose_45 : decode cX5_nightPose 45 = .ok (.aload_n 0, 1) := by decide +kernel
theorem dX5_nightPose_46 : decode cX5_nightPose 46 = .ok (.getfield 36, 3) := by decide +kernel
theorem dX5_nightPose_49 : decode cX5_nightPose 49 = .ok (.getfield 211, 3) := by decide +kernel
theorem dX5_nightPose_52 : decode cX5_nightPose 52 = .ok (.invokestatic 201, 3) := by decide +kernel
theorem dX5_nightPose_55 : decode cX5_nightPose 55 = .ok (.iload_n 2, 1) := by decide +kernel
theorem dX5_nightPose_56 : decode cX5_nightPose 56 = .ok (.if_icmp .ge 16, 3) := by decide +kernel
theorem dX5_nightPose_59 : decode cX5_nightPose 59 = .ok (.aload_n 0, 1) := by decide +kernel
theorem dX5_nightPose_60 : decode cX5_nightPose 60 = .ok (.getfield 36, 3) := by decide +kernel
theorem dX5_nightPose_63 : decode cX5_nightPose 63 = .ok (.getfield 211, 3) := by decide +kernel
theorem dX5_nightPose_66 : decode cX5_nightPose 66 = .ok (.invokestatic 201, 3) := by decide +kernel
theorem dX5_nightPose_69 : decode cX5_nightPose 69 = .ok (.istore_n 2, 1) := by decide +kernel
theorem dX5_nightPose_70 : decode cX5_nightPose 70 = .ok (.iload_n 3, 1) := by decide +kernel
theorem dX5_nightPose_71 : decode cX5_nightPose 71 = .ok (.istore_n 1, 1) := by decide +kernel
theorem dX5_nightPose_72 : decode cX5_nightPose 72 = .ok (.iinc 3 1, 3) := by decide +kernel
theorem dX5_nightPose_75 : decode cX5_nightPose 75 = .ok (.goto (-68), 3) := by decide +kernel
theorem dX5_nightPose_78 : decode cX5_nightPose 78 = .ok (.iload_n 1, 1) := by decide +kernel
theorem dX5_nightPose_79 : decode cX5_nightPose 79 = .ok (.ireturn, 1) := by decide +kernel
theorem dX5_going_0 : decode cX5_going 0 = .ok (.aload_n 0, 1) := by decide +kernel
theorem dX5_going_1 : decode cX5_going 1 = .ok (.getfield 10, 3) := by decide +kernel
theorem dX5_going_4 : decode cX5_going 4 = .ok (.getfield 52, 3) := by decide +kernel
theorem dX5_going_7 : decode cX5_going 7 = .ok (.getfield 181, 3) := by decide +kernel
theorem dX5_going_10 : decode cX5_going 10 = .ok (.istore_n 1, 1) := by decide +kernel
theorem dX5_going_11 : decode cX5_going 11 = .ok (.iload_n 1, 1) := by decide +kernel
theorem dX5_going_12 : decode cX5_going 12 = .ok (.ifCond .le 20, 3) := by decide +kernel
theorem dX5_going_15 : decode cX5_going 15 = .ok (.aload_n 0, 1) := by decide +kernel
theorem dX5_going_16 : decode cX5_going 16 = .ok (.getfield 10, 3) := by decide +kernel
theorem dX5_going_19 : decode cX5_going 19 = .ok (.getfield 52, 3) := by decide +kernel
theorem dX5_going_22 : decode cX5_going 22 = .ok (.getfield 214, 3) := by decide +kernel
theorem dX5_going_25 : decode cX5_going 25 = .ok (.i2d, 1) := by decide +kernel
theorem dX5_going_26 : decode cX5_going 26 = .ok (.iload_n 1, 1) := by decide +kernel
theorem dX5_going_27 : decode cX5_going 27 = .ok (.i2d, 1) := by decide +kernel
theorem dX5_going_28 : decode cX5_going 28 = .ok (.ddiv, 1) := by decide +kernel
theorem dX5_going_29 : decode cX5_going 29 = .ok (.goto 4, 3) := by decide +kernel
theorem dX5_going_32 : decode cX5_going 32 = .ok (.dconst 1, 1) := by decide +kernel
theorem dX5_going_33 : decode cX5_going 33 = .ok (.dreturn, 1) := by decide +kernel
theorem dX5_isPose_0 : decode cX5_isPose 0 = .ok (.iload_n 0, 1) := by decide +kernel
theorem dX5_isPose_1 : decode cX5_isPose 1 = .ok (.ifCond .lt 13, 3) := by decide +kernel
theorem dX5_isPose_4 : decode cX5_isPose 4 = .ok (.iload_n 0, 1) := by decide +kernel
theorem dX5_isPose_5 : decode cX5_isPose 5 = .ok (.bipush 6, 2) := by decide +kernel
theorem dX5_isPose_7 : decode cX5_isPose 7 = .ok (.if_icmp .ge 7, 3) := by decide +kernel
theorem dX5_isPose_10 : decode cX5_isPose 10 = .ok (.iconst 1, 1) := by decide +kernel
theorem dX5_isPose_11 : decode cX5_isPose 11 = .ok (.goto 4, 3) := by decide +kernel
theorem dX5_isPose_14 : decode cX5_isPose 14 = .ok (.iconst 0, 1) := by decide +kernel
theorem dX5_isPose_15 : decode cX5_isPose 15 = .ok (.ireturn, 1) := by decide +kernel
set_option maxRecDepth 20000 in
theorem ggX5_demandPose_X5_isPose : GoodIn wsX5_demandPose wsX5_isPose := goodIn_r _ [6] (by decide +kernel) (by decide +kernel)
set_option maxRecDepth 20000 in
theorem gX5_demandPose_X5_isPose : GoodIn wsX5_demandPose (va_wsS RX5 244 yX5_isPose wsX5_isPose) := goodIn_app (goodIn_of _ (by decide +kernel)) ggX5_demandPose_X5_isPose
theorem dX5_demandPose_0 : decode cX5_demandPose 0 = .ok (.iload_n 0, 1) := by decide +kernel
theorem dX5_demandPose_1 : decode cX5_demandPose 1 = .ok (.invokestatic 244, 3) := by decide +kernel
theorem dX5_demandPose_4 : decode cX5_demandPose 4 = .ok (.ifCond .ne 13, 3) := by decide +kernel
theorem dX5_demandPose_7 : decode cX5_demandPose 7 = .ok (.new 123, 3) := by decide +kernel
theorem dX5_demandPose_10 : decode cX5_demandPose 10 = .ok (.dup, 1) := by decide +kernel
theorem dX5_demandPose_11 : decode cX5_demandPose 11 = .ok (.ldc 247, 2) := by decide +kernel
theorem dX5_demandPose_13 : decode cX5_demandPose 13 = .ok (.invokespecial 127, 3) := by decide +kernel
theorem dX5_demandPose_16 : decode cX5_demandPose 16 = .ok (.athrow, 1) := by decide +kernel
theorem dX5_demandPose_17 : decode cX5_demandPose 17 = .ok (.return_, 1) := by decide +kernel
theorem dX5_demandRange_0 : decode cX5_demandRange 0 = .ok (.iload_n 0, 1) := by decide +kernel
theorem dX5_demandRange_1 : decode cX5_demandRange 1 = .ok (.iload_n 1, 1) := by decide +kernel
theorem dX5_demandRange_2 : decode cX5_demandRange 2 = .ok (.if_icmp .lt 8, 3) := by decide +kernel
theorem dX5_demandRange_5 : decode cX5_demandRange 5 = .ok (.iload_n 0, 1) := by decide +kernel
theorem dX5_demandRange_6 : decode cX5_demandRange 6 = .ok (.iload_n 2, 1) := by decide +kernel
theorem dX5_demandRange_7 : decode cX5_demandRange 7 = .ok (.if_icmp .le 13, 3) := by decide +kernel
theorem dX5_demandRange_10 : decode cX5_demandRange 10 = .ok (.new 152, 3) := by decide +kernel
theorem dX5_demandRange_13 : decode cX5_demandRange 13 = .ok (.dup, 1) := by decide +kernel
theorem dX5_demandRange_14 : decode cX5_demandRange 14 = .ok (.ldc 249, 2) := by decide +kernel
theorem dX5_demandRange_16 : decode cX5_demandRange 16 = .ok (.invokespecial 156, 3) := by decide +kernel
theorem dX5_demandRange_19 : decode cX5_demandRange 19 = .ok (.athrow, 1) := by decide +kernel
theorem dX5_demandRange_20 : decode cX5_demandRange 20 = .ok (.return_, 1) := by decide +kernel
set_option maxRecDepth 20000 in
theorem ggX5_poseNumber_X1_latestIn : GoodIn wsX5_poseNumber wsX1_latestIn := goodIn_r _ [8, 9, 10, 11, 12, 7, 13, 14, 88, 89] (by decide +kernel) (by decide +kernel)
set_option maxRecDepth 20000 in
theorem gX5_poseNumber_X1_latestIn : GoodIn wsX5_poseNumber (wsV RX5 264 RX1 yX1_latestIn wsX1_latestIn) := goodIn_app (goodIn_of _ (by decide +kernel)) ggX5_poseNumber_X1_latestIn
set_option maxRecDepth 20000 in
theorem ggX5_poseNumber_X4_weightOf : GoodIn wsX5_poseNumber wsX4_weightOf := goodIn_r _ [19, 20, 21, 22, 23, 90, 91, 92, 93, 94, 95, 96, 97, 98, 99, 100] (by decide +kernel) (by decide +kernel)
set_option maxRecDepth 20000 in
theorem gX5_poseNumber_X4_weightOf : GoodIn wsX5_poseNumber (wsV RX5 66 RX4 yX4_weightOf wsX4_weightOf) := goodIn_app (goodIn_of _ (by decide +kernel)) ggX5_poseNumber_X4_weightOf
set_option maxRecDepth 20000 in
theorem ggX5_poseNumber_X4_swingIn : GoodIn wsX5_poseNumber wsX4_swingIn := goodIn_r _ [27, 28, 29, 30, 31, 32, 33, 90, 91, 92, 93, 94, 95, 96, 97, 98, 99, 100] (by decide +kernel) (by decide +kernel)
set_option maxRecDepth 20000 in
theorem gX5_poseNumber_X4_swingIn : GoodIn wsX5_poseNumber (wsV RX5 267 RX4 yX4_swingIn wsX4_swingIn) := goodIn_app (goodIn_of _ (by decide +kernel)) ggX5_poseNumber_X4_swingIn
set_option maxRecDepth 20000 in
theorem ggX5_poseNumber_X4_rateIn : GoodIn wsX5_poseNumber wsX4_rateIn := goodIn_r _ [37, 38, 39, 40, 25, 26, 18, 27, 28, 29, 30, 31, 32, 33, 41, 16, 17, 19, 20, 21, 22, 23, 42, 43, 44, 45, 90, 91, 92, 93, 94, 95, 96, 97, 98, 99, 100] (by decide +kernel) (by decide +kernel)
set_option maxRecDepth 20000 in
theorem gX5_poseNumber_X4_rateIn : GoodIn wsX5_poseNumber (wsV RX5 111 RX4 yX4_rateIn wsX4_rateIn) := goodIn_app (goodIn_of _ (by decide +kernel)) ggX5_poseNumber_X4_rateIn
set_option maxRecDepth 20000 in
theorem ggX5_poseNumber_X4_beatErrorIn : GoodIn wsX5_poseNumber wsX4_beatErrorIn := goodIn_r _ [49, 50, 51, 52, 32, 53, 29, 90, 91, 92, 93, 94, 95, 96, 97, 98, 99, 100] (by decide +kernel) (by decide +kernel)
set_option maxRecDepth 20000 in
theorem gX5_poseNumber_X4_beatErrorIn : GoodIn wsX5_poseNumber (wsV RX5 270 RX4 yX4_beatErrorIn wsX4_beatErrorIn) := goodIn_app (goodIn_of _ (by decide +kernel)) ggX5_poseNumber_X4_beatErrorIn
set_option maxRecDepth 20000 in
theorem ggX5_poseNumber_X3_whyNoReading : GoodIn wsX5_poseNumber wsX3_whyNoReading := goodIn_r _ [58, 59, 60, 61, 62, 63, 64, 25, 26, 18, 27, 28, 29, 30, 31, 32, 33, 65, 47, 48, 49, 50, 51, 52, 53, 66, 67, 68, 7, 69, 9, 81, 82, 83, 84, 85, 86, 87, 90, 91, 92, 93, 94, 95, 96, 97, 98, 99, 100, 88, 89] (by decide +kernel) (by decide +kernel)
set_option maxRecDepth 20000 in
theorem gX5_poseNumber_X3_whyNoReading : GoodIn wsX5_poseNumber (wsV RX5 98 RX3 yX3_whyNoReading wsX3_whyNoReading) := goodIn_app (goodIn_of _ (by decide +kernel)) ggX5_poseNumber_X3_whyNoReading
set_option maxRecDepth 20000 in
theorem ggX5_poseNumber_X1_number : GoodIn wsX5_poseNumber wsX1_number := goodIn_r _ [13, 9, 14, 88, 89] (by decide +kernel) (by decide +kernel)
set_option maxRecDepth 20000 in
theorem gX5_poseNumber_X1_number : GoodIn wsX5_poseNumber (wsV RX5 273 RX1 yX1_number wsX1_number) := goodIn_app (goodIn_of _ (by decide +kernel)) ggX5_poseNumber_X1_number
set_option maxRecDepth 20000 in
theorem ggX5_poseNumber_X1_readingsIn : GoodIn wsX5_poseNumber wsX1_readingsIn := goodIn_r _ [74, 9, 10, 11, 12, 7, 13, 14, 88, 89] (by decide +kernel) (by decide +kernel)
set_option maxRecDepth 20000 in
theorem gX5_poseNumber_X1_readingsIn : GoodIn wsX5_poseNumber (wsV RX5 276 RX1 yX1_readingsIn wsX1_readingsIn) := goodIn_app (goodIn_of _ (by decide +kernel)) ggX5_poseNumber_X1_readingsIn
theorem dX5_poseNumber_0 : decode cX5_poseNumber 0 = .ok (.aload_n 0, 1) := by decide +kernel
theorem dX5_poseNumber_1 : decode cX5_poseNumber 1 = .ok (.getfield 10, 3) := by decide +kernel
theorem dX5_poseNumber_4 : decode cX5_poseNumber 4 = .ok (.getfield 114, 3) := by decide +kernel
theorem dX5_poseNumber_7 : decode cX5_poseNumber 7 = .ok (.iload_n 1, 1) := by decide +kernel
theorem dX5_poseNumber_8 : decode cX5_poseNumber 8 = .ok (.invokevirtual 264, 3) := by decide +kernel
theorem dX5_poseNumber_11 : decode cX5_poseNumber 11 = .ok (.istore_n 3, 1) := by decide +kernel
theorem dX5_poseNumber_12 : decode cX5_poseNumber 12 = .ok (.iload_n 2, 1) := by decide +kernel
theorem dX5_poseNumber_13 : decode cX5_poseNumber 13 = .ok (.tableswitch 155 0 6 #[43, 58, 70, 86, 98, 107, 129], 43) := by decide +kernel
theorem dX5_poseNumber_56 : decode cX5_poseNumber 56 = .ok (.aload_n 0, 1) := by decide +kernel
theorem dX5_poseNumber_57 : decode cX5_poseNumber 57 = .ok (.getfield 10, 3) := by decide +kernel
theorem dX5_poseNumber_60 : decode cX5_poseNumber 60 = .ok (.getfield 52, 3) := by decide +kernel
theorem dX5_poseNumber_63 : decode cX5_poseNumber 63 = .ok (.iload_n 1, 1) := by decide +kernel
theorem dX5_poseNumber_64 : decode cX5_poseNumber 64 = .ok (.invokevirtual 66, 3) := by decide +kernel
theorem dX5_poseNumber_67 : decode cX5_poseNumber 67 = .ok (.bipush 100, 2) := by decide +kernel
theorem dX5_poseNumber_69 : decode cX5_poseNumber 69 = .ok (.iadd, 1) := by decide +kernel
theorem dX5_poseNumber_70 : decode cX5_poseNumber 70 = .ok (.ireturn, 1) := by decide +kernel
theorem dX5_poseNumber_71 : decode cX5_poseNumber 71 = .ok (.aload_n 0, 1) := by decide +kernel
theorem dX5_poseNumber_72 : decode cX5_poseNumber 72 = .ok (.getfield 10, 3) := by decide +kernel
theorem dX5_poseNumber_75 : decode cX5_poseNumber 75 = .ok (.getfield 52, 3) := by decide +kernel
theorem dX5_poseNumber_78 : decode cX5_poseNumber 78 = .ok (.iload_n 1, 1) := by decide +kernel
theorem dX5_poseNumber_79 : decode cX5_poseNumber 79 = .ok (.invokevirtual 267, 3) := by decide +kernel
theorem dX5_poseNumber_82 : decode cX5_poseNumber 82 = .ok (.ireturn, 1) := by decide +kernel
theorem dX5_poseNumber_83 : decode cX5_poseNumber 83 = .ok (.aload_n 0, 1) := by decide +kernel
theorem dX5_poseNumber_84 : decode cX5_poseNumber 84 = .ok (.getfield 10, 3) := by decide +kernel
theorem dX5_poseNumber_87 : decode cX5_poseNumber 87 = .ok (.getfield 52, 3) := by decide +kernel
theorem dX5_poseNumber_90 : decode cX5_poseNumber 90 = .ok (.iload_n 1, 1) := by decide +kernel
theorem dX5_poseNumber_91 : decode cX5_poseNumber 91 = .ok (.invokevirtual 111, 3) := by decide +kernel
theorem dX5_poseNumber_94 : decode cX5_poseNumber 94 = .ok (.sipush 10000, 3) := by decide +kernel
theorem dX5_poseNumber_97 : decode cX5_poseNumber 97 = .ok (.iadd, 1) := by decide +kernel
theorem dX5_poseNumber_98 : decode cX5_poseNumber 98 = .ok (.ireturn, 1) := by decide +kernel
theorem dX5_poseNumber_99 : decode cX5_poseNumber 99 = .ok (.aload_n 0, 1) := by decide +kernel
theorem dX5_poseNumber_100 : decode cX5_poseNumber 100 = .ok (.getfield 10, 3) := by decide +kernel
theorem dX5_poseNumber_103 : decode cX5_poseNumber 103 = .ok (.getfield 52, 3) := by decide +kernel
theorem dX5_poseNumber_106 : decode cX5_poseNumber 106 = .ok (.iload_n 1, 1) := by decide +kernel
theorem dX5_poseNumber_107 : decode cX5_poseNumber 107 = .ok (.invokevirtual 270, 3) := by decide +kernel
theorem dX5_poseNumber_110 : decode cX5_poseNumber 110 = .ok (.ireturn, 1) := by decide +kernel
theorem dX5_poseNumber_111 : decode cX5_poseNumber 111 = .ok (.aload_n 0, 1) := by decide +kernel
theorem dX5_poseNumber_112 : decode cX5_poseNumber 112 = .ok (.getfield 10, 3) := by decide +kernel
theorem dX5_poseNumber_115 : decode cX5_poseNumber 115 = .ok (.iload_n 1, 1) := by decide +kernel
theorem dX5_poseNumber_116 : decode cX5_poseNumber 116 = .ok (.invokevirtual 98, 3) := by decide +kernel
theorem dX5_poseNumber_119 : decode cX5_poseNumber 119 = .ok (.ireturn, 1) := by decide +kernel
theorem dX5_poseNumber_120 : decode cX5_poseNumber 120 = .ok (.iload_n 3, 1) := by decide +kernel
theorem dX5_poseNumber_121 : decode cX5_poseNumber 121 = .ok (.iconst (-1), 1) := by decide +kernel
theorem dX5_poseNumber_122 : decode cX5_poseNumber 122 = .ok (.if_icmp .ne 7, 3) := by decide +kernel
theorem dX5_poseNumber_125 : decode cX5_poseNumber 125 = .ok (.iconst (-1), 1) := by decide +kernel
theorem dX5_poseNumber_126 : decode cX5_poseNumber 126 = .ok (.goto 15, 3) := by decide +kernel
theorem dX5_poseNumber_129 : decode cX5_poseNumber 129 = .ok (.aload_n 0, 1) := by decide +kernel
theorem dX5_poseNumber_130 : decode cX5_poseNumber 130 = .ok (.getfield 10, 3) := by decide +kernel
theorem dX5_poseNumber_133 : decode cX5_poseNumber 133 = .ok (.getfield 114, 3) := by decide +kernel
theorem dX5_poseNumber_136 : decode cX5_poseNumber 136 = .ok (.iload_n 3, 1) := by decide +kernel
theorem dX5_poseNumber_137 : decode cX5_poseNumber 137 = .ok (.iconst 0, 1) := by decide +kernel
theorem dX5_poseNumber_138 : decode cX5_poseNumber 138 = .ok (.invokevirtual 273, 3) := by decide +kernel
theorem dX5_poseNumber_141 : decode cX5_poseNumber 141 = .ok (.ireturn, 1) := by decide +kernel
theorem dX5_poseNumber_142 : decode cX5_poseNumber 142 = .ok (.iload_n 3, 1) := by decide +kernel
theorem dX5_poseNumber_143 : decode cX5_poseNumber 143 = .ok (.iconst (-1), 1) := by decide +kernel
theorem dX5_poseNumber_144 : decode cX5_poseNumber 144 = .ok (.if_icmp .ne 7, 3) := by decide +kernel
theorem dX5_poseNumber_147 : decode cX5_poseNumber 147 = .ok (.iconst (-1), 1) := by decide +kernel
theorem dX5_poseNumber_148 : decode cX5_poseNumber 148 = .ok (.goto 19, 3) := by decide +kernel
theorem dX5_poseNumber_151 : decode cX5_poseNumber 151 = .ok (.aload_n 0, 1) := by decide +kernel
theorem dX5_poseNumber_152 : decode cX5_poseNumber 152 = .ok (.getfield 10, 3) := by decide +kernel
theorem dX5_poseNumber_155 : decode cX5_poseNumber 155 = .ok (.getfield 114, 3) := by decide +kernel
theorem dX5_poseNumber_158 : decode cX5_poseNumber 158 = .ok (.iload_n 3, 1) := by decide +kernel
theorem dX5_poseNumber_159 : decode cX5_poseNumber 159 = .ok (.iconst 2, 1) := by decide +kernel
theorem dX5_poseNumber_160 : decode cX5_poseNumber 160 = .ok (.invokevirtual 273, 3) := by decide +kernel
theorem dX5_poseNumber_163 : decode cX5_poseNumber 163 = .ok (.sipush 10000, 3) := by decide +kernel
theorem dX5_poseNumber_166 : decode cX5_poseNumber 166 = .ok (.iadd, 1) := by decide +kernel
theorem dX5_poseNumber_167 : decode cX5_poseNumber 167 = .ok (.ireturn, 1) := by decide +kernel
theorem dX5_poseNumber_168 : decode cX5_poseNumber 168 = .ok (.aload_n 0, 1) := by decide +kernel
theorem dX5_poseNumber_169 : decode cX5_poseNumber 169 = .ok (.getfield 10, 3) := by decide +kernel
theorem dX5_poseNumber_172 : decode cX5_poseNumber 172 = .ok (.getfield 114, 3) := by decide +kernel
theorem dX5_poseNumber_175 : decode cX5_poseNumber 175 = .ok (.iload_n 1, 1) := by decide +kernel
theorem dX5_poseNumber_176 : decode cX5_poseNumber 176 = .ok (.invokevirtual 276, 3) := by decide +kernel
theorem dX5_poseNumber_179 : decode cX5_poseNumber 179 = .ok (.ireturn, 1) := by decide +kernel
set_option maxRecDepth 20000 in
theorem ggX5_readingNumber_X1_number : GoodIn wsX5_readingNumber wsX1_number := goodIn_r _ [8, 9, 10, 24, 25] (by decide +kernel) (by decide +kernel)
set_option maxRecDepth 20000 in
theorem gX5_readingNumber_X1_number : GoodIn wsX5_readingNumber (wsV RX5 273 RX1 yX1_number wsX1_number) := goodIn_app (goodIn_of _ (by decide +kernel)) ggX5_readingNumber_X1_number
theorem dX5_readingNumber_0 : decode cX5_readingNumber 0 = .ok (.iload_n 1, 1) := by decide +kernel
theorem dX5_readingNumber_1 : decode cX5_readingNumber 1 = .ok (.aload_n 0, 1) := by decide +kernel
theorem dX5_readingNumber_2 : decode cX5_readingNumber 2 = .ok (.getfield 10, 3) := by decide +kernel
theorem dX5_readingNumber_5 : decode cX5_readingNumber 5 = .ok (.getfield 114, 3) := by decide +kernel
theorem dX5_readingNumber_8 : decode cX5_readingNumber 8 = .ok (.getfield 118, 3) := by decide +kernel
theorem dX5_readingNumber_11 : decode cX5_readingNumber 11 = .ok (.if_icmp .lt 5, 3) := by decide +kernel
theorem dX5_readingNumber_14 : decode cX5_readingNumber 14 = .ok (.iconst (-1), 1) := by decide +kernel
theorem dX5_readingNumber_15 : decode cX5_readingNumber 15 = .ok (.ireturn, 1) := by decide +kernel
theorem dX5_readingNumber_16 : decode cX5_readingNumber 16 = .ok (.aload_n 0, 1) := by decide +kernel
theorem dX5_readingNumber_17 : decode cX5_readingNumber 17 = .ok (.getfield 10, 3) := by decide +kernel
theorem dX5_readingNumber_20 : decode cX5_readingNumber 20 = .ok (.getfield 114, 3) := by decide +kernel
theorem dX5_readingNumber_23 : decode cX5_readingNumber 23 = .ok (.iload_n 1, 1) := by decide +kernel
theorem dX5_readingNumber_24 : decode cX5_readingNumber 24 = .ok (.iload_n 2, 1) := by decide +kernel
theorem dX5_readingNumber_25 : decode cX5_readingNumber 25 = .ok (.invokevirtual 273, 3) := by decide +kernel
theorem dX5_readingNumber_28 : decode cX5_readingNumber 28 = .ok (.istore_n 3, 1) := by decide +kernel
theorem dX5_readingNumber_29 : decode cX5_readingNumber 29 = .ok (.iload_n 2, 1) := by decide +kernel
theorem dX5_readingNumber_30 : decode cX5_readingNumber 30 = .ok (.iconst 2, 1) := by decide +kernel
theorem dX5_readingNumber_31 : decode cX5_readingNumber 31 = .ok (.if_icmp .ne 11, 3) := by decide +kernel
theorem dX5_readingNumber_34 : decode cX5_readingNumber 34 = .ok (.iload_n 3, 1) := by decide +kernel
theorem dX5_readingNumber_35 : decode cX5_readingNumber 35 = .ok (.sipush 10000, 3) := by decide +kernel
theorem dX5_readingNumber_38 : decode cX5_readingNumber 38 = .ok (.iadd, 1) := by decide +kernel
theorem dX5_readingNumber_39 : decode cX5_readingNumber 39 = .ok (.goto 4, 3) := by decide +kernel
theorem dX5_readingNumber_42 : decode cX5_readingNumber 42 = .ok (.iload_n 3, 1) := by decide +kernel
theorem dX5_readingNumber_43 : decode cX5_readingNumber 43 = .ok (.ireturn, 1) := by decide +kernel
set_option maxRecDepth 20000 in
theorem ggX5_countNumber_X4_goes : GoodIn wsX5_countNumber wsX4_goes := goodIn_r _ [24, 25, 26, 27, 28, 29, 23, 30, 31, 32, 33, 34, 35, 90, 91, 92, 93, 94, 95, 96, 97, 98, 99, 100] (by decide +kernel) (by decide +kernel)
set_option maxRecDepth 20000 in
theorem gX5_countNumber_X4_goes : GoodIn wsX5_countNumber (wsV RX5 279 RX4 yX4_goes wsX4_goes) := goodIn_app (goodIn_of _ (by decide +kernel)) ggX5_countNumber_X4_goes
set_option maxRecDepth 20000 in
theorem ggX5_countNumber_X3_dayRateByPoses : GoodIn wsX5_countNumber wsX3_dayRateByPoses := goodIn_r _ [40, 41, 42, 43, 44, 39, 45, 46, 47, 48, 49, 34, 50, 51, 33, 35, 52, 53, 54, 55, 56, 57, 58, 59, 60, 61, 62, 63, 64, 65, 66, 67, 68, 69, 70, 83, 84, 85, 86, 87, 88, 89, 90, 91, 92, 93, 94, 95, 96, 97, 98, 99, 100, 101, 102] (by decide +kernel) (by decide +kernel)
set_option maxRecDepth 20000 in
theorem gX5_countNumber_X3_dayRateByPoses : GoodIn wsX5_countNumber (wsV RX5 289 RX3 yX3_dayRateByPoses wsX3_dayRateByPoses) := goodIn_app (goodIn_of _ (by decide +kernel)) ggX5_countNumber_X3_dayRateByPoses
set_option maxRecDepth 20000 in
theorem ggX5_countNumber_X3_dayRateByPaper : GoodIn wsX5_countNumber wsX3_dayRateByPaper := goodIn_r _ [74, 46, 47, 41, 75, 52, 53, 54, 48, 49, 34, 50, 51, 33, 35, 66, 62, 63, 58, 64, 60, 65, 67, 68, 69, 70, 83, 84, 85, 86, 87, 88, 89, 101, 102, 90, 91, 92, 93, 94, 95, 96, 97, 98, 99, 100] (by decide +kernel) (by decide +kernel)
set_option maxRecDepth 20000 in
theorem gX5_countNumber_X3_dayRateByPaper : GoodIn wsX5_countNumber (wsV RX5 292 RX3 yX3_dayRateByPaper wsX3_dayRateByPaper) := goodIn_app (goodIn_of _ (by decide +kernel)) ggX5_countNumber_X3_dayRateByPaper
set_option maxRecDepth 20000 in
theorem ggX5_countNumber_X3_whyNoDayRate : GoodIn wsX5_countNumber wsX3_whyNoDayRate := goodIn_r _ [45, 46, 47, 41, 48, 49, 34, 50, 51, 33, 35, 52, 53, 54, 55, 56, 57, 58, 59, 60, 61, 62, 63, 64, 65, 66, 83, 84, 85, 86, 87, 88, 89, 90, 91, 92, 93, 94, 95, 96, 97, 98, 99, 100, 101, 102] (by decide +kernel) (by decide +kernel)
set_option maxRecDepth 20000 in
theorem gX5_countNumber_X3_whyNoDayRate : GoodIn wsX5_countNumber (wsV RX5 295 RX3 yX3_whyNoDayRate wsX3_whyNoDayRate) := goodIn_app (goodIn_of _ (by decide +kernel)) ggX5_countNumber_X3_whyNoDayRate
theorem dX5_countNumber_0 : decode cX5_countNumber 0 = .ok (.aload_n 0, 1) := by decide +kernel
theorem dX5_countNumber_1 : decode cX5_countNumber 1 = .ok (.getfield 10, 3) := by decide +kernel
theorem dX5_countNumber_4 : decode cX5_countNumber 4 = .ok (.getfield 52, 3) := by decide +kernel
theorem dX5_countNumber_7 : decode cX5_countNumber 7 = .ok (.astore_n 2, 1) := by decide +kernel
theorem dX5_countNumber_8 : decode cX5_countNumber 8 = .ok (.iload_n 1, 1) := by decide +kernel
theorem dX5_countNumber_9 : decode cX5_countNumber 9 = .ok (.tableswitch 251 0 19 #[95, 100, 105, 113, 121, 126, 131, 136, 149, 158, 163, 174, 182, 190, 198, 206, 211, 221, 231, 241], 95) := by decide +kernel
theorem dX5_countNumber_104 : decode cX5_countNumber 104 = .ok (.aload_n 2, 1) := by decide +kernel
theorem dX5_countNumber_105 : decode cX5_countNumber 105 = .ok (.getfield 181, 3) := by decide +kernel
theorem dX5_countNumber_108 : decode cX5_countNumber 108 = .ok (.ireturn, 1) := by decide +kernel
theorem dX5_countNumber_109 : decode cX5_countNumber 109 = .ok (.aload_n 2, 1) := by decide +kernel
theorem dX5_countNumber_110 : decode cX5_countNumber 110 = .ok (.getfield 59, 3) := by decide +kernel
theorem dX5_countNumber_113 : decode cX5_countNumber 113 = .ok (.ireturn, 1) := by decide +kernel
theorem dX5_countNumber_114 : decode cX5_countNumber 114 = .ok (.aload_n 2, 1) := by decide +kernel
theorem dX5_countNumber_115 : decode cX5_countNumber 115 = .ok (.getfield 74, 3) := by decide +kernel
theorem dX5_countNumber_118 : decode cX5_countNumber 118 = .ok (.bipush 100, 2) := by decide +kernel
theorem dX5_countNumber_120 : decode cX5_countNumber 120 = .ok (.iadd, 1) := by decide +kernel
theorem dX5_countNumber_121 : decode cX5_countNumber 121 = .ok (.ireturn, 1) := by decide +kernel
theorem dX5_countNumber_122 : decode cX5_countNumber 122 = .ok (.aload_n 2, 1) := by decide +kernel
theorem dX5_countNumber_123 : decode cX5_countNumber 123 = .ok (.getfield 77, 3) := by decide +kernel
theorem dX5_countNumber_126 : decode cX5_countNumber 126 = .ok (.bipush 100, 2) := by decide +kernel
theorem dX5_countNumber_128 : decode cX5_countNumber 128 = .ok (.iadd, 1) := by decide +kernel
theorem dX5_countNumber_129 : decode cX5_countNumber 129 = .ok (.ireturn, 1) := by decide +kernel
theorem dX5_countNumber_130 : decode cX5_countNumber 130 = .ok (.aload_n 2, 1) := by decide +kernel
end
section
theorem dX5_countNumber_131 : decode cX5_countNumber 131 = .ok (.getfield 80, 3) := by decide +kernel
theorem dX5_countNumber_134 : decode cX5_countNumber 134 = .ok (.ireturn, 1) := by decide +kernel
theorem dX5_countNumber_135 : decode cX5_countNumber 135 = .ok (.aload_n 2, 1) := by decide +kernel
theorem dX5_countNumber_136 : decode cX5_countNumber 136 = .ok (.getfield 89, 3) := by decide +kernel
theorem dX5_countNumber_139 : decode cX5_countNumber 139 = .ok (.ireturn, 1) := by decide +kernel
theorem dX5_countNumber_140 : decode cX5_countNumber 140 = .ok (.aload_n 2, 1) := by decide +kernel
theorem dX5_countNumber_141 : decode cX5_countNumber 141 = .ok (.getfield 92, 3) := by decide +kernel
theorem dX5_countNumber_144 : decode cX5_countNumber 144 = .ok (.ireturn, 1) := by decide +kernel
theorem dX5_countNumber_145 : decode cX5_countNumber 145 = .ok (.aload_n 2, 1) := by decide +kernel
theorem dX5_countNumber_146 : decode cX5_countNumber 146 = .ok (.invokevirtual 279, 3) := by decide +kernel
theorem dX5_countNumber_149 : decode cX5_countNumber 149 = .ok (.ifCond .eq 7, 3) := by decide +kernel
theorem dX5_countNumber_152 : decode cX5_countNumber 152 = .ok (.iconst 1, 1) := by decide +kernel
theorem dX5_countNumber_153 : decode cX5_countNumber 153 = .ok (.goto 4, 3) := by decide +kernel
theorem dX5_countNumber_156 : decode cX5_countNumber 156 = .ok (.iconst 0, 1) := by decide +kernel
theorem dX5_countNumber_157 : decode cX5_countNumber 157 = .ok (.ireturn, 1) := by decide +kernel
theorem dX5_countNumber_158 : decode cX5_countNumber 158 = .ok (.aload_n 2, 1) := by decide +kernel
theorem dX5_countNumber_159 : decode cX5_countNumber 159 = .ok (.getfield 211, 3) := by decide +kernel
theorem dX5_countNumber_162 : decode cX5_countNumber 162 = .ok (.ldc_w 282, 3) := by decide +kernel
theorem dX5_countNumber_165 : decode cX5_countNumber 165 = .ok (.iadd, 1) := by decide +kernel
theorem dX5_countNumber_166 : decode cX5_countNumber 166 = .ok (.ireturn, 1) := by decide +kernel
theorem dX5_countNumber_167 : decode cX5_countNumber 167 = .ok (.aload_n 2, 1) := by decide +kernel
theorem dX5_countNumber_168 : decode cX5_countNumber 168 = .ok (.getfield 283, 3) := by decide +kernel
theorem dX5_countNumber_171 : decode cX5_countNumber 171 = .ok (.ireturn, 1) := by decide +kernel
theorem dX5_countNumber_172 : decode cX5_countNumber 172 = .ok (.aload_n 0, 1) := by decide +kernel
theorem dX5_countNumber_173 : decode cX5_countNumber 173 = .ok (.getfield 10, 3) := by decide +kernel
theorem dX5_countNumber_176 : decode cX5_countNumber 176 = .ok (.getfield 114, 3) := by decide +kernel
theorem dX5_countNumber_179 : decode cX5_countNumber 179 = .ok (.getfield 118, 3) := by decide +kernel
theorem dX5_countNumber_182 : decode cX5_countNumber 182 = .ok (.ireturn, 1) := by decide +kernel
theorem dX5_countNumber_183 : decode cX5_countNumber 183 = .ok (.aload_n 0, 1) := by decide +kernel
theorem dX5_countNumber_184 : decode cX5_countNumber 184 = .ok (.getfield 10, 3) := by decide +kernel
theorem dX5_countNumber_187 : decode cX5_countNumber 187 = .ok (.getfield 286, 3) := by decide +kernel
theorem dX5_countNumber_190 : decode cX5_countNumber 190 = .ok (.ireturn, 1) := by decide +kernel
theorem dX5_countNumber_191 : decode cX5_countNumber 191 = .ok (.aload_n 0, 1) := by decide +kernel
theorem dX5_countNumber_192 : decode cX5_countNumber 192 = .ok (.getfield 10, 3) := by decide +kernel
theorem dX5_countNumber_195 : decode cX5_countNumber 195 = .ok (.invokevirtual 289, 3) := by decide +kernel
theorem dX5_countNumber_198 : decode cX5_countNumber 198 = .ok (.ireturn, 1) := by decide +kernel
theorem dX5_countNumber_199 : decode cX5_countNumber 199 = .ok (.aload_n 0, 1) := by decide +kernel
theorem dX5_countNumber_200 : decode cX5_countNumber 200 = .ok (.getfield 10, 3) := by decide +kernel
theorem dX5_countNumber_203 : decode cX5_countNumber 203 = .ok (.invokevirtual 292, 3) := by decide +kernel
theorem dX5_countNumber_206 : decode cX5_countNumber 206 = .ok (.ireturn, 1) := by decide +kernel
theorem dX5_countNumber_207 : decode cX5_countNumber 207 = .ok (.aload_n 0, 1) := by decide +kernel
theorem dX5_countNumber_208 : decode cX5_countNumber 208 = .ok (.getfield 10, 3) := by decide +kernel
theorem dX5_countNumber_211 : decode cX5_countNumber 211 = .ok (.invokevirtual 295, 3) := by decide +kernel
theorem dX5_countNumber_214 : decode cX5_countNumber 214 = .ok (.ireturn, 1) := by decide +kernel
theorem dX5_countNumber_215 : decode cX5_countNumber 215 = .ok (.aload_n 2, 1) := by decide +kernel
theorem dX5_countNumber_216 : decode cX5_countNumber 216 = .ok (.getfield 214, 3) := by decide +kernel
theorem dX5_countNumber_219 : decode cX5_countNumber 219 = .ok (.ireturn, 1) := by decide +kernel
theorem dX5_countNumber_220 : decode cX5_countNumber 220 = .ok (.aload_n 0, 1) := by decide +kernel
theorem dX5_countNumber_221 : decode cX5_countNumber 221 = .ok (.getfield 10, 3) := by decide +kernel
theorem dX5_countNumber_224 : decode cX5_countNumber 224 = .ok (.getfield 135, 3) := by decide +kernel
theorem dX5_countNumber_227 : decode cX5_countNumber 227 = .ok (.iconst 0, 1) := by decide +kernel
theorem dX5_countNumber_228 : decode cX5_countNumber 228 = .ok (.iaload, 1) := by decide +kernel
theorem dX5_countNumber_229 : decode cX5_countNumber 229 = .ok (.ireturn, 1) := by decide +kernel
theorem dX5_countNumber_230 : decode cX5_countNumber 230 = .ok (.aload_n 0, 1) := by decide +kernel
theorem dX5_countNumber_231 : decode cX5_countNumber 231 = .ok (.getfield 10, 3) := by decide +kernel
theorem dX5_countNumber_234 : decode cX5_countNumber 234 = .ok (.getfield 135, 3) := by decide +kernel
theorem dX5_countNumber_237 : decode cX5_countNumber 237 = .ok (.iconst 1, 1) := by decide +kernel
theorem dX5_countNumber_238 : decode cX5_countNumber 238 = .ok (.iaload, 1) := by decide +kernel
theorem dX5_countNumber_239 : decode cX5_countNumber 239 = .ok (.ireturn, 1) := by decide +kernel
theorem dX5_countNumber_240 : decode cX5_countNumber 240 = .ok (.aload_n 0, 1) := by decide +kernel
theorem dX5_countNumber_241 : decode cX5_countNumber 241 = .ok (.getfield 10, 3) := by decide +kernel
theorem dX5_countNumber_244 : decode cX5_countNumber 244 = .ok (.getfield 135, 3) := by decide +kernel
theorem dX5_countNumber_247 : decode cX5_countNumber 247 = .ok (.iconst 2, 1) := by decide +kernel
theorem dX5_countNumber_248 : decode cX5_countNumber 248 = .ok (.iaload, 1) := by decide +kernel
theorem dX5_countNumber_249 : decode cX5_countNumber 249 = .ok (.ireturn, 1) := by decide +kernel
theorem dX5_countNumber_250 : decode cX5_countNumber 250 = .ok (.aload_n 0, 1) := by decide +kernel
theorem dX5_countNumber_251 : decode cX5_countNumber 251 = .ok (.getfield 10, 3) := by decide +kernel
theorem dX5_countNumber_254 : decode cX5_countNumber 254 = .ok (.getfield 135, 3) := by decide +kernel
theorem dX5_countNumber_257 : decode cX5_countNumber 257 = .ok (.iconst 3, 1) := by decide +kernel
theorem dX5_countNumber_258 : decode cX5_countNumber 258 = .ok (.iaload, 1) := by decide +kernel
theorem dX5_countNumber_259 : decode cX5_countNumber 259 = .ok (.ireturn, 1) := by decide +kernel
theorem dX5_countNumber_260 : decode cX5_countNumber 260 = .ok (.aload_n 0, 1) := by decide +kernel
theorem dX5_countNumber_261 : decode cX5_countNumber 261 = .ok (.getfield 22, 3) := by decide +kernel
theorem dX5_countNumber_264 : decode cX5_countNumber 264 = .ok (.getfield 170, 3) := by decide +kernel
theorem dX5_countNumber_267 : decode cX5_countNumber 267 = .ok (.ireturn, 1) := by decide +kernel
set_option maxRecDepth 20000 in
theorem ggX5_wornNumber_X4_copyFrom : GoodIn wsX5_wornNumber wsX4_copyFrom := goodIn_r _ [11, 12, 13, 14, 15, 16, 17, 18, 19, 20, 21, 22, 23, 24, 25, 26, 78, 79, 80, 81, 82, 83, 84, 85, 86, 87, 88] (by decide +kernel) (by decide +kernel)
set_option maxRecDepth 20000 in
theorem gX5_wornNumber_X4_copyFrom : GoodIn wsX5_wornNumber (wsV RX5 208 RX4 yX4_copyFrom wsX4_copyFrom) := goodIn_app (goodIn_of _ (by decide +kernel)) ggX5_wornNumber_X4_copyFrom
set_option maxRecDepth 20000 in
theorem ggX5_wornNumber_X4_run : GoodIn wsX5_wornNumber wsX4_run := goodIn_r _ [30, 26, 31, 32, 33, 10, 34, 23, 25, 24, 22, 19, 21, 35, 36, 37, 38, 39, 40, 41, 42, 43, 44, 45, 46, 47, 48, 49, 50, 51, 52, 53, 17, 20, 54, 55, 56, 57, 12, 58, 59, 60, 61, 62, 63, 64, 78, 79, 80, 81, 82, 83, 84, 85, 86, 87, 88] (by decide +kernel) (by decide +kernel)
set_option maxRecDepth 20000 in
theorem gX5_wornNumber_X4_run : GoodIn wsX5_wornNumber (wsV RX5 95 RX4 yX4_run wsX4_run) := goodIn_app (goodIn_of _ (by decide +kernel)) ggX5_wornNumber_X4_run
theorem dX5_wornNumber_0 : decode cX5_wornNumber 0 = .ok (.aload_n 0, 1) := by decide +kernel
theorem dX5_wornNumber_1 : decode cX5_wornNumber 1 = .ok (.getfield 36, 3) := by decide +kernel
theorem dX5_wornNumber_4 : decode cX5_wornNumber 4 = .ok (.aload_n 0, 1) := by decide +kernel
theorem dX5_wornNumber_5 : decode cX5_wornNumber 5 = .ok (.getfield 10, 3) := by decide +kernel
theorem dX5_wornNumber_8 : decode cX5_wornNumber 8 = .ok (.getfield 52, 3) := by decide +kernel
theorem dX5_wornNumber_11 : decode cX5_wornNumber 11 = .ok (.invokevirtual 208, 3) := by decide +kernel
theorem dX5_wornNumber_14 : decode cX5_wornNumber 14 = .ok (.aload_n 0, 1) := by decide +kernel
theorem dX5_wornNumber_15 : decode cX5_wornNumber 15 = .ok (.getfield 36, 3) := by decide +kernel
theorem dX5_wornNumber_18 : decode cX5_wornNumber 18 = .ok (.iload_n 1, 1) := by decide +kernel
theorem dX5_wornNumber_19 : decode cX5_wornNumber 19 = .ok (.putfield 92, 3) := by decide +kernel
theorem dX5_wornNumber_22 : decode cX5_wornNumber 22 = .ok (.aload_n 0, 1) := by decide +kernel
theorem dX5_wornNumber_23 : decode cX5_wornNumber 23 = .ok (.getfield 36, 3) := by decide +kernel
theorem dX5_wornNumber_26 : decode cX5_wornNumber 26 = .ok (.bipush 8, 2) := by decide +kernel
theorem dX5_wornNumber_28 : decode cX5_wornNumber 28 = .ok (.invokevirtual 95, 3) := by decide +kernel
theorem dX5_wornNumber_31 : decode cX5_wornNumber 31 = .ok (.istore 5, 2) := by decide +kernel
theorem dX5_wornNumber_33 : decode cX5_wornNumber 33 = .ok (.aload_n 0, 1) := by decide +kernel
theorem dX5_wornNumber_34 : decode cX5_wornNumber 34 = .ok (.getfield 36, 3) := by decide +kernel
theorem dX5_wornNumber_37 : decode cX5_wornNumber 37 = .ok (.iload_n 2, 1) := by decide +kernel
theorem dX5_wornNumber_38 : decode cX5_wornNumber 38 = .ok (.putfield 92, 3) := by decide +kernel
theorem dX5_wornNumber_41 : decode cX5_wornNumber 41 = .ok (.iload 5, 2) := by decide +kernel
theorem dX5_wornNumber_43 : decode cX5_wornNumber 43 = .ok (.aload_n 0, 1) := by decide +kernel
theorem dX5_wornNumber_44 : decode cX5_wornNumber 44 = .ok (.getfield 36, 3) := by decide +kernel
theorem dX5_wornNumber_47 : decode cX5_wornNumber 47 = .ok (.bipush 8, 2) := by decide +kernel
theorem dX5_wornNumber_49 : decode cX5_wornNumber 49 = .ok (.invokevirtual 95, 3) := by decide +kernel
theorem dX5_wornNumber_52 : decode cX5_wornNumber 52 = .ok (.iadd, 1) := by decide +kernel
theorem dX5_wornNumber_53 : decode cX5_wornNumber 53 = .ok (.istore 5, 2) := by decide +kernel
theorem dX5_wornNumber_55 : decode cX5_wornNumber 55 = .ok (.aload_n 0, 1) := by decide +kernel
theorem dX5_wornNumber_56 : decode cX5_wornNumber 56 = .ok (.getfield 36, 3) := by decide +kernel
theorem dX5_wornNumber_59 : decode cX5_wornNumber 59 = .ok (.iload_n 3, 1) := by decide +kernel
theorem dX5_wornNumber_60 : decode cX5_wornNumber 60 = .ok (.putfield 92, 3) := by decide +kernel
theorem dX5_wornNumber_63 : decode cX5_wornNumber 63 = .ok (.iload 5, 2) := by decide +kernel
theorem dX5_wornNumber_65 : decode cX5_wornNumber 65 = .ok (.aload_n 0, 1) := by decide +kernel
theorem dX5_wornNumber_66 : decode cX5_wornNumber 66 = .ok (.getfield 36, 3) := by decide +kernel
theorem dX5_wornNumber_69 : decode cX5_wornNumber 69 = .ok (.bipush 8, 2) := by decide +kernel
theorem dX5_wornNumber_71 : decode cX5_wornNumber 71 = .ok (.invokevirtual 95, 3) := by decide +kernel
theorem dX5_wornNumber_74 : decode cX5_wornNumber 74 = .ok (.iadd, 1) := by decide +kernel
theorem dX5_wornNumber_75 : decode cX5_wornNumber 75 = .ok (.istore 5, 2) := by decide +kernel
theorem dX5_wornNumber_77 : decode cX5_wornNumber 77 = .ok (.iload 4, 2) := by decide +kernel
theorem dX5_wornNumber_79 : decode cX5_wornNumber 79 = .ok (.ifCond .ne 28, 3) := by decide +kernel
theorem dX5_wornNumber_82 : decode cX5_wornNumber 82 = .ok (.aload_n 0, 1) := by decide +kernel
theorem dX5_wornNumber_83 : decode cX5_wornNumber 83 = .ok (.getfield 36, 3) := by decide +kernel
theorem dX5_wornNumber_86 : decode cX5_wornNumber 86 = .ok (.getfield 211, 3) := by decide +kernel
theorem dX5_wornNumber_89 : decode cX5_wornNumber 89 = .ok (.aload_n 0, 1) := by decide +kernel
theorem dX5_wornNumber_90 : decode cX5_wornNumber 90 = .ok (.getfield 10, 3) := by decide +kernel
theorem dX5_wornNumber_93 : decode cX5_wornNumber 93 = .ok (.getfield 52, 3) := by decide +kernel
theorem dX5_wornNumber_96 : decode cX5_wornNumber 96 = .ok (.getfield 211, 3) := by decide +kernel
theorem dX5_wornNumber_99 : decode cX5_wornNumber 99 = .ok (.isub, 1) := by decide +kernel
theorem dX5_wornNumber_100 : decode cX5_wornNumber 100 = .ok (.ldc_w 298, 3) := by decide +kernel
theorem dX5_wornNumber_103 : decode cX5_wornNumber 103 = .ok (.iadd, 1) := by decide +kernel
theorem dX5_wornNumber_104 : decode cX5_wornNumber 104 = .ok (.goto 5, 3) := by decide +kernel
theorem dX5_wornNumber_107 : decode cX5_wornNumber 107 = .ok (.iload 5, 2) := by decide +kernel
theorem dX5_wornNumber_109 : decode cX5_wornNumber 109 = .ok (.ireturn, 1) := by decide +kernel
set_option maxRecDepth 20000 in
theorem ggX5_hoursUntilStop_X4_copyFrom : GoodIn wsX5_hoursUntilStop wsX4_copyFrom := goodIn_r _ [9, 10, 11, 12, 13, 14, 15, 16, 17, 18, 19, 20, 21, 22, 23, 24, 76, 77, 78, 79, 80, 81, 82, 83, 84, 85, 86] (by decide +kernel) (by decide +kernel)
set_option maxRecDepth 20000 in
theorem gX5_hoursUntilStop_X4_copyFrom : GoodIn wsX5_hoursUntilStop (wsV RX5 208 RX4 yX4_copyFrom wsX4_copyFrom) := goodIn_app (goodIn_of _ (by decide +kernel)) ggX5_hoursUntilStop_X4_copyFrom
set_option maxRecDepth 20000 in
theorem ggX5_hoursUntilStop_X4_run : GoodIn wsX5_hoursUntilStop wsX4_run := goodIn_r _ [28, 24, 29, 30, 31, 8, 32, 21, 23, 22, 20, 17, 19, 33, 34, 35, 36, 37, 38, 39, 40, 41, 42, 43, 44, 45, 46, 47, 48, 49, 50, 51, 15, 18, 52, 53, 54, 55, 10, 56, 57, 58, 59, 60, 61, 62, 76, 77, 78, 79, 80, 81, 82, 83, 84, 85, 86] (by decide +kernel) (by decide +kernel)
set_option maxRecDepth 20000 in
theorem gX5_hoursUntilStop_X4_run : GoodIn wsX5_hoursUntilStop (wsV RX5 95 RX4 yX4_run wsX4_run) := goodIn_app (goodIn_of _ (by decide +kernel)) ggX5_hoursUntilStop_X4_run
theorem dX5_hoursUntilStop_0 : decode cX5_hoursUntilStop 0 = .ok (.aload_n 0, 1) := by decide +kernel
theorem dX5_hoursUntilStop_1 : decode cX5_hoursUntilStop 1 = .ok (.getfield 36, 3) := by decide +kernel
theorem dX5_hoursUntilStop_4 : decode cX5_hoursUntilStop 4 = .ok (.aload_n 0, 1) := by decide +kernel
theorem dX5_hoursUntilStop_5 : decode cX5_hoursUntilStop 5 = .ok (.getfield 10, 3) := by decide +kernel
theorem dX5_hoursUntilStop_8 : decode cX5_hoursUntilStop 8 = .ok (.getfield 52, 3) := by decide +kernel
theorem dX5_hoursUntilStop_11 : decode cX5_hoursUntilStop 11 = .ok (.invokevirtual 208, 3) := by decide +kernel
theorem dX5_hoursUntilStop_14 : decode cX5_hoursUntilStop 14 = .ok (.aload_n 0, 1) := by decide +kernel
theorem dX5_hoursUntilStop_15 : decode cX5_hoursUntilStop 15 = .ok (.getfield 36, 3) := by decide +kernel
theorem dX5_hoursUntilStop_18 : decode cX5_hoursUntilStop 18 = .ok (.iload_n 1, 1) := by decide +kernel
theorem dX5_hoursUntilStop_19 : decode cX5_hoursUntilStop 19 = .ok (.putfield 92, 3) := by decide +kernel
theorem dX5_hoursUntilStop_22 : decode cX5_hoursUntilStop 22 = .ok (.aload_n 0, 1) := by decide +kernel
theorem dX5_hoursUntilStop_23 : decode cX5_hoursUntilStop 23 = .ok (.getfield 36, 3) := by decide +kernel
theorem dX5_hoursUntilStop_26 : decode cX5_hoursUntilStop 26 = .ok (.bipush 48, 2) := by decide +kernel
theorem dX5_hoursUntilStop_28 : decode cX5_hoursUntilStop 28 = .ok (.invokevirtual 95, 3) := by decide +kernel
theorem dX5_hoursUntilStop_31 : decode cX5_hoursUntilStop 31 = .ok (.ireturn, 1) := by decide +kernel
theorem dJ9_floorDiv_7cf53_0 : decode cJ9_floorDiv_7cf53 0 = .ok (.iload_n 0, 1) := by decide +kernel
theorem dJ9_floorDiv_7cf53_1 : decode cJ9_floorDiv_7cf53 1 = .ok (.iload_n 1, 1) := by decide +kernel
theorem dJ9_floorDiv_7cf53_2 : decode cJ9_floorDiv_7cf53 2 = .ok (.idiv, 1) := by decide +kernel
theorem dJ9_floorDiv_7cf53_3 : decode cJ9_floorDiv_7cf53 3 = .ok (.istore_n 2, 1) := by decide +kernel
theorem dJ9_floorDiv_7cf53_4 : decode cJ9_floorDiv_7cf53 4 = .ok (.iload_n 0, 1) := by decide +kernel
theorem dJ9_floorDiv_7cf53_5 : decode cJ9_floorDiv_7cf53 5 = .ok (.iload_n 1, 1) := by decide +kernel
theorem dJ9_floorDiv_7cf53_6 : decode cJ9_floorDiv_7cf53 6 = .ok (.ixor, 1) := by decide +kernel
theorem dJ9_floorDiv_7cf53_7 : decode cJ9_floorDiv_7cf53 7 = .ok (.ifCond .ge 14, 3) := by decide +kernel
theorem dJ9_floorDiv_7cf53_10 : decode cJ9_floorDiv_7cf53 10 = .ok (.iload_n 2, 1) := by decide +kernel
theorem dJ9_floorDiv_7cf53_11 : decode cJ9_floorDiv_7cf53 11 = .ok (.iload_n 1, 1) := by decide +kernel
theorem dJ9_floorDiv_7cf53_12 : decode cJ9_floorDiv_7cf53 12 = .ok (.imul, 1) := by decide +kernel
theorem dJ9_floorDiv_7cf53_13 : decode cJ9_floorDiv_7cf53 13 = .ok (.iload_n 0, 1) := by decide +kernel
theorem dJ9_floorDiv_7cf53_14 : decode cJ9_floorDiv_7cf53 14 = .ok (.if_icmp .eq 7, 3) := by decide +kernel
theorem dJ9_floorDiv_7cf53_17 : decode cJ9_floorDiv_7cf53 17 = .ok (.iload_n 2, 1) := by decide +kernel
theorem dJ9_floorDiv_7cf53_18 : decode cJ9_floorDiv_7cf53 18 = .ok (.iconst 1, 1) := by decide +kernel
theorem dJ9_floorDiv_7cf53_19 : decode cJ9_floorDiv_7cf53 19 = .ok (.isub, 1) := by decide +kernel
theorem dJ9_floorDiv_7cf53_20 : decode cJ9_floorDiv_7cf53 20 = .ok (.ireturn, 1) := by decide +kernel
theorem dJ9_floorDiv_7cf53_21 : decode cJ9_floorDiv_7cf53 21 = .ok (.iload_n 2, 1) := by decide +kernel
theorem dJ9_floorDiv_7cf53_22 : decode cJ9_floorDiv_7cf53 22 = .ok (.ireturn, 1) := by decide +kernel
theorem dJ9_abs_0f7a4_0 : decode cJ9_abs_0f7a4 0 = .ok (.iload_n 0, 1) := by decide +kernel
theorem dJ9_abs_0f7a4_1 : decode cJ9_abs_0f7a4 1 = .ok (.ifCond .ge 8, 3) := by decide +kernel
theorem dJ9_abs_0f7a4_4 : decode cJ9_abs_0f7a4 4 = .ok (.iload_n 0, 1) := by decide +kernel
theorem dJ9_abs_0f7a4_5 : decode cJ9_abs_0f7a4 5 = .ok (.ineg, 1) := by decide +kernel
theorem dJ9_abs_0f7a4_6 : decode cJ9_abs_0f7a4 6 = .ok (.goto 4, 3) := by decide +kernel
theorem dJ9_abs_0f7a4_9 : decode cJ9_abs_0f7a4 9 = .ok (.iload_n 0, 1) := by decide +kernel
theorem dJ9_abs_0f7a4_10 : decode cJ9_abs_0f7a4 10 = .ok (.ireturn, 1) := by decide +kernel
theorem dJ9_max_7cf53_0 : decode cJ9_max_7cf53 0 = .ok (.iload_n 0, 1) := by decide +kernel
theorem dJ9_max_7cf53_1 : decode cJ9_max_7cf53 1 = .ok (.iload_n 1, 1) := by decide +kernel
theorem dJ9_max_7cf53_2 : decode cJ9_max_7cf53 2 = .ok (.if_icmp .lt 7, 3) := by decide +kernel
theorem dJ9_max_7cf53_5 : decode cJ9_max_7cf53 5 = .ok (.iload_n 0, 1) := by decide +kernel
theorem dJ9_max_7cf53_6 : decode cJ9_max_7cf53 6 = .ok (.goto 4, 3) := by decide +kernel
theorem dJ9_max_7cf53_9 : decode cJ9_max_7cf53 9 = .ok (.iload_n 1, 1) := by decide +kernel
theorem dJ9_max_7cf53_10 : decode cJ9_max_7cf53 10 = .ok (.ireturn, 1) := by decide +kernel
theorem dJ9_min_7cf53_0 : decode cJ9_min_7cf53 0 = .ok (.iload_n 0, 1) := by decide +kernel
theorem dJ9_min_7cf53_1 : decode cJ9_min_7cf53 1 = .ok (.iload_n 1, 1) := by decide +kernel
theorem dJ9_min_7cf53_2 : decode cJ9_min_7cf53 2 = .ok (.if_icmp .gt 7, 3) := by decide +kernel
theorem dJ9_min_7cf53_5 : decode cJ9_min_7cf53 5 = .ok (.iload_n 0, 1) := by decide +kernel
theorem dJ9_min_7cf53_6 : decode cJ9_min_7cf53 6 = .ok (.goto 4, 3) := by decide +kernel
theorem dJ9_min_7cf53_9 : decode cJ9_min_7cf53 9 = .ok (.iload_n 1, 1) := by decide +kernel
theorem dJ9_min_7cf53_10 : decode cJ9_min_7cf53 10 = .ok (.ireturn, 1) := by decide +kernel
theorem dL_cell_0 : decode cL_cell 0 = .ok (.iload_n 1, 1) := by decide +kernel
theorem dL_cell_1 : decode cL_cell 1 = .ok (.aload_n 0, 1) := by decide +kernel
theorem dL_cell_2 : decode cL_cell 2 = .ok (.arraylength, 1) := by decide +kernel
theorem dL_cell_3 : decode cL_cell 3 = .ok (.if_icmp .ge 9, 3) := by decide +kernel
theorem dL_cell_6 : decode cL_cell 6 = .ok (.aload_n 0, 1) := by decide +kernel
theorem dL_cell_7 : decode cL_cell 7 = .ok (.iload_n 1, 1) := by decide +kernel
theorem dL_cell_8 : decode cL_cell 8 = .ok (.iaload, 1) := by decide +kernel
theorem dL_cell_9 : decode cL_cell 9 = .ok (.goto 9, 3) := by decide +kernel
theorem dL_cell_12 : decode cL_cell 12 = .ok (.ldc 7, 2) := by decide +kernel
theorem dL_cell_14 : decode cL_cell 14 = .ok (.iload_n 1, 1) := by decide +kernel
theorem dL_cell_15 : decode cL_cell 15 = .ok (.iconst 1, 1) := by decide +kernel
theorem dL_cell_16 : decode cL_cell 16 = .ok (.iadd, 1) := by decide +kernel
theorem dL_cell_17 : decode cL_cell 17 = .ok (.imul, 1) := by decide +kernel
theorem dL_cell_18 : decode cL_cell 18 = .ok (.ireturn, 1) := by decide +kernel
theorem dL_low_0 : decode cL_low 0 = .ok (.iload_n 0, 1) := by decide +kernel
theorem dL_low_1 : decode cL_low 1 = .ok (.ldc 8, 2) := by decide +kernel
theorem dL_low_3 : decode cL_low 3 = .ok (.iand, 1) := by decide +kernel
theorem dL_low_4 : decode cL_low 4 = .ok (.iload_n 1, 1) := by decide +kernel
theorem dL_low_5 : decode cL_low 5 = .ok (.irem, 1) := by decide +kernel
theorem dL_low_6 : decode cL_low 6 = .ok (.ireturn, 1) := by decide +kernel
set_option maxRecDepth 20000 in
theorem ggL_wind_X5_wind : GoodIn wsL_wind wsX5_wind := goodIn_ca (goodIn_r _ [6, 7, 8, 9, 10, 11, 12, 5, 13, 14, 15, 16, 17, 18, 19, 20, 21, 22, 23, 24, 25, 26, 27, 28, 29, 30, 31, 32, 33, 34, 35, 36, 37, 38, 39, 40, 41, 42, 43, 44, 45, 46, 47, 48, 49, 50, 51, 52, 53, 54, 55, 56, 57, 58, 59, 60, 61, 62, 63, 64, 65, 66, 67, 68, 69, 70, 71, 72, 73, 74, 75, 76, 77, 78, 79, 80, 81, 82, 83, 84, 85, 86, 87, 88, 89, 90, 91, 92, 93, 94, 95, 96, 97, 98, 99, 100, 101, 102] (by decide +kernel) (by decide +kernel)) (goodIn_sub (fun _ h => List.mem_cons_of_mem _ (List.mem_append_right _ h)) (by decide +kernel))
set_option maxRecDepth 20000 in
theorem gL_wind_X5_wind : GoodIn wsL_wind (wsV RL 9 RX5 yX5_wind wsX5_wind) := goodIn_app (goodIn_of _ (by decide +kernel)) ggL_wind_X5_wind
theorem dL_wind_0 : decode cL_wind 0 = .ok (.aload_n 0, 1) := by decide +kernel
theorem dL_wind_1 : decode cL_wind 1 = .ok (.iload_n 1, 1) := by decide +kernel
theorem dL_wind_2 : decode cL_wind 2 = .ok (.invokevirtual 9, 3) := by decide +kernel
theorem dL_wind_5 : decode cL_wind 5 = .ok (.istore_n 2, 1) := by decide +kernel
theorem dL_wind_6 : decode cL_wind 6 = .ok (.goto 7, 3) := by decide +kernel
theorem dL_wind_9 : decode cL_wind 9 = .ok (.astore_n 3, 1) := by decide +kernel
theorem dL_wind_10 : decode cL_wind 10 = .ok (.bipush (-32), 2) := by decide +kernel
theorem dL_wind_12 : decode cL_wind 12 = .ok (.ireturn, 1) := by decide +kernel
theorem dL_wind_13 : decode cL_wind 13 = .ok (.iload_n 2, 1) := by decide +kernel
theorem dL_wind_14 : decode cL_wind 14 = .ok (.ireturn, 1) := by decide +kernel
set_option maxRecDepth 20000 in
theorem ggL_weigh_X5_weigh : GoodIn wsL_weigh wsX5_weigh := goodIn_ca (goodIn_ca (goodIn_r _ [7, 8, 9, 10, 11, 12, 6, 13, 14, 15, 16, 17, 18, 19, 20, 21, 22, 23, 24, 25, 26, 27, 28, 29, 30, 31, 32, 33, 34, 35, 36, 37, 38, 39, 40, 41, 42, 43, 44, 45, 46, 47, 48, 49, 50, 51, 52, 53, 54, 55, 56, 57, 58, 59, 60, 61, 62, 63, 64, 65, 66, 67, 68, 69, 70, 71, 72, 73, 74, 75, 76, 77, 78, 79, 80, 81, 82, 83, 84, 85, 86, 87, 88, 89, 90, 91, 92, 93, 94, 95, 96, 97, 98, 99, 100, 101, 102, 103, 104, 105, 106, 107, 108, 109, 110, 111, 112, 113] (by decide +kernel) (by decide +kernel)) (goodIn_sub (fun _ h => List.mem_cons_of_mem _ (List.mem_append_left _ (List.mem_append_right _ h))) (by decide +kernel))) (goodIn_sub (fun _ h => List.mem_cons_of_mem _ (List.mem_append_right _ h)) (by decide +kernel))
set_option maxRecDepth 20000 in
theorem gL_weigh_X5_weigh : GoodIn wsL_weigh (wsV RL 17 RX5 yX5_weigh wsX5_weigh) := goodIn_app (goodIn_of _ (by decide +kernel)) ggL_weigh_X5_weigh
theorem dL_weigh_0 : decode cL_weigh 0 = .ok (.aload_n 0, 1) := by decide +kernel
theorem dL_weigh_1 : decode cL_weigh 1 = .ok (.iload_n 1, 1) := by decide +kernel
theorem dL_weigh_2 : decode cL_weigh 2 = .ok (.iload_n 2, 1) := by decide +kernel
theorem dL_weigh_3 : decode cL_weigh 3 = .ok (.invokevirtual 17, 3) := by decide +kernel
theorem dL_weigh_6 : decode cL_weigh 6 = .ok (.istore_n 3, 1) := by decide +kernel
theorem dL_weigh_7 : decode cL_weigh 7 = .ok (.goto 13, 3) := by decide +kernel
theorem dL_weigh_10 : decode cL_weigh 10 = .ok (.astore 4, 2) := by decide +kernel
theorem dL_weigh_12 : decode cL_weigh 12 = .ok (.bipush (-31), 2) := by decide +kernel
theorem dL_weigh_14 : decode cL_weigh 14 = .ok (.ireturn, 1) := by decide +kernel
theorem dL_weigh_15 : decode cL_weigh 15 = .ok (.astore 4, 2) := by decide +kernel
theorem dL_weigh_17 : decode cL_weigh 17 = .ok (.bipush (-32), 2) := by decide +kernel
theorem dL_weigh_19 : decode cL_weigh 19 = .ok (.ireturn, 1) := by decide +kernel
theorem dL_weigh_20 : decode cL_weigh 20 = .ok (.iload_n 3, 1) := by decide +kernel
theorem dL_weigh_21 : decode cL_weigh 21 = .ok (.ireturn, 1) := by decide +kernel
set_option maxRecDepth 20000 in
theorem ggL_adjust_X5_adjust : GoodIn wsL_adjust wsX5_adjust := goodIn_ca (goodIn_r _ [6, 7, 8, 9, 10, 11, 12, 13, 5, 14, 15, 16, 17, 18, 19, 20, 21, 22, 23, 24, 25, 26, 27, 28, 29, 30, 31, 32, 33, 34, 35, 36, 37, 38, 39, 40, 41, 42, 43, 44, 45, 46, 47, 48, 49, 50, 51, 52, 53, 54, 55, 56, 57, 58, 59, 60, 61, 62, 63, 64, 65, 66, 67, 68, 69, 70, 71, 72, 73, 74, 75, 76, 77, 78, 79, 80, 81, 82, 83, 84, 85, 86, 87, 88, 89, 90, 91, 92, 93, 94, 95, 96, 97, 98] (by decide +kernel) (by decide +kernel)) (goodIn_sub (fun _ h => List.mem_cons_of_mem _ (List.mem_append_right _ h)) (by decide +kernel))
set_option maxRecDepth 20000 in
theorem gL_adjust_X5_adjust : GoodIn wsL_adjust (wsV RL 23 RX5 yX5_adjust wsX5_adjust) := goodIn_app (goodIn_of _ (by decide +kernel)) ggL_adjust_X5_adjust
theorem dL_adjust_0 : decode cL_adjust 0 = .ok (.aload_n 0, 1) := by decide +kernel
theorem dL_adjust_1 : decode cL_adjust 1 = .ok (.iload_n 1, 1) := by decide +kernel
theorem dL_adjust_2 : decode cL_adjust 2 = .ok (.iload_n 2, 1) := by decide +kernel
theorem dL_adjust_3 : decode cL_adjust 3 = .ok (.invokevirtual 23, 3) := by decide +kernel
theorem dL_adjust_6 : decode cL_adjust 6 = .ok (.istore_n 3, 1) := by decide +kernel
theorem dL_adjust_7 : decode cL_adjust 7 = .ok (.goto 8, 3) := by decide +kernel
theorem dL_adjust_10 : decode cL_adjust 10 = .ok (.astore 4, 2) := by decide +kernel
theorem dL_adjust_12 : decode cL_adjust 12 = .ok (.bipush (-32), 2) := by decide +kernel
theorem dL_adjust_14 : decode cL_adjust 14 = .ok (.ireturn, 1) := by decide +kernel
theorem dL_adjust_15 : decode cL_adjust 15 = .ok (.iload_n 3, 1) := by decide +kernel
theorem dL_adjust_16 : decode cL_adjust 16 = .ok (.ireturn, 1) := by decide +kernel
set_option maxRecDepth 20000 in
theorem ggL_magnetise_X5_magnetise : GoodIn wsL_magnetise wsX5_magnetise := goodIn_ca (goodIn_r _ [6, 7, 8, 9, 10, 11, 12, 13, 14, 15, 16, 5, 17, 18, 19, 20, 21, 22, 23, 24, 25, 26, 27, 28, 29, 30, 31, 32, 33, 34, 35, 36, 37, 38, 39, 40, 41, 42, 43, 44, 45, 46, 47, 48, 49, 50, 51, 52, 53, 54, 55, 56, 57, 58, 59, 60, 61, 62, 63, 64, 65, 66, 67, 68, 69, 70, 71, 72, 73, 74, 75, 76, 77, 78, 79, 80, 81, 82, 83, 84, 85, 86, 87, 88, 89, 90, 91, 92, 93, 94, 95, 96, 97, 98] (by decide +kernel) (by decide +kernel)) (goodIn_sub (fun _ h => List.mem_cons_of_mem _ (List.mem_append_right _ h)) (by decide +kernel))
set_option maxRecDepth 20000 in
theorem gL_magnetise_X5_magnetise : GoodIn wsL_magnetise (wsV RL 26 RX5 yX5_magnetise wsX5_magnetise) := goodIn_app (goodIn_of _ (by decide +kernel)) ggL_magnetise_X5_magnetise
theorem dL_magnetise_0 : decode cL_magnetise 0 = .ok (.aload_n 0, 1) := by decide +kernel
theorem dL_magnetise_1 : decode cL_magnetise 1 = .ok (.iload_n 1, 1) := by decide +kernel
theorem dL_magnetise_2 : decode cL_magnetise 2 = .ok (.invokevirtual 26, 3) := by decide +kernel
theorem dL_magnetise_5 : decode cL_magnetise 5 = .ok (.istore_n 2, 1) := by decide +kernel
theorem dL_magnetise_6 : decode cL_magnetise 6 = .ok (.goto 7, 3) := by decide +kernel
theorem dL_magnetise_9 : decode cL_magnetise 9 = .ok (.astore_n 3, 1) := by decide +kernel
theorem dL_magnetise_10 : decode cL_magnetise 10 = .ok (.bipush (-32), 2) := by decide +kernel
theorem dL_magnetise_12 : decode cL_magnetise 12 = .ok (.ireturn, 1) := by decide +kernel
theorem dL_magnetise_13 : decode cL_magnetise 13 = .ok (.iload_n 2, 1) := by decide +kernel
theorem dL_magnetise_14 : decode cL_magnetise 14 = .ok (.ireturn, 1) := by decide +kernel
set_option maxRecDepth 20000 in
theorem ggL_lay_X5_lay : GoodIn wsL_lay wsX5_lay := goodIn_ca (goodIn_r _ [6, 7, 8, 9, 10, 11, 12, 5, 13, 14, 15, 16, 17, 18, 19, 20, 21, 22, 23, 24, 25, 26, 27, 28, 29, 30, 31, 32, 33, 34, 35, 36, 37, 38, 39, 40, 41, 42, 43, 44, 45, 46, 47, 48, 49, 50, 51, 52, 53, 54, 55, 56, 57, 58, 59, 60, 61, 62, 63, 64, 65, 66, 67, 68, 69, 70, 71, 72, 73, 74, 75, 76, 77, 78, 79, 80, 81, 82, 83, 84, 85, 86, 87, 88, 89, 90, 91, 92, 93, 94, 95, 96, 97, 98, 99, 100] (by decide +kernel) (by decide +kernel)) (goodIn_sub (fun _ h => List.mem_cons_of_mem _ (List.mem_append_right _ h)) (by decide +kernel))
set_option maxRecDepth 20000 in
theorem gL_lay_X5_lay : GoodIn wsL_lay (wsV RL 29 RX5 yX5_lay wsX5_lay) := goodIn_app (goodIn_of _ (by decide +kernel)) ggL_lay_X5_lay
theorem dL_lay_0 : decode cL_lay 0 = .ok (.aload_n 0, 1) := by decide +kernel
theorem dL_lay_1 : decode cL_lay 1 = .ok (.iload_n 1, 1) := by decide +kernel
theorem dL_lay_2 : decode cL_lay 2 = .ok (.invokevirtual 29, 3) := by decide +kernel
theorem dL_lay_5 : decode cL_lay 5 = .ok (.istore_n 2, 1) := by decide +kernel
theorem dL_lay_6 : decode cL_lay 6 = .ok (.goto 7, 3) := by decide +kernel
theorem dL_lay_9 : decode cL_lay 9 = .ok (.astore_n 3, 1) := by decide +kernel
theorem dL_lay_10 : decode cL_lay 10 = .ok (.bipush (-31), 2) := by decide +kernel
theorem dL_lay_12 : decode cL_lay 12 = .ok (.ireturn, 1) := by decide +kernel
theorem dL_lay_13 : decode cL_lay 13 = .ok (.iload_n 2, 1) := by decide +kernel
theorem dL_lay_14 : decode cL_lay 14 = .ok (.ireturn, 1) := by decide +kernel
set_option maxRecDepth 20000 in
theorem ggL_pass_X5_pass : GoodIn wsL_pass wsX5_pass := goodIn_ca (goodIn_r _ [6, 7, 8, 9, 10, 11, 5, 12, 13, 14, 15, 16, 17, 18, 19, 20, 21, 22, 23, 24, 25, 26, 27, 28, 29, 30, 31, 32, 33, 34, 35, 36, 37, 38, 39, 40, 41, 42, 43, 44, 45, 46, 47, 48, 49, 50, 51, 52, 53, 54, 55, 56, 57, 58, 59, 60, 61, 62, 63, 64, 65, 66, 67, 68, 69, 70, 71, 72, 73, 74, 75, 76, 77, 78, 79, 80, 81, 82, 83, 84, 85, 86, 87, 88, 89, 90, 91, 92, 93, 94, 95, 96, 97, 98, 99, 100, 101, 102, 103, 104, 105, 106, 107, 108, 109, 110, 111, 112, 113, 114, 115, 116, 117, 118, 119, 120, 121, 122, 123, 124, 125, 126, 127, 128, 129, 130] (by decide +kernel) (by decide +kernel)) (goodIn_sub (fun _ h => List.mem_cons_of_mem _ (List.mem_append_right _ h)) (by decide +kernel))
set_option maxRecDepth 20000 in
theorem gL_pass_X5_pass : GoodIn wsL_pass (wsV RL 32 RX5 yX5_pass wsX5_pass) := goodIn_app (goodIn_of _ (by decide +kernel)) ggL_pass_X5_pass
theorem dL_pass_0 : decode cL_pass 0 = .ok (.aload_n 0, 1) := by decide +kernel
theorem dL_pass_1 : decode cL_pass 1 = .ok (.iload_n 1, 1) := by decide +kernel
theorem dL_pass_2 : decode cL_pass 2 = .ok (.invokevirtual 32, 3) := by decide +kernel
theorem dL_pass_5 : decode cL_pass 5 = .ok (.istore_n 2, 1) := by decide +kernel
theorem dL_pass_6 : decode cL_pass 6 = .ok (.goto 7, 3) := by decide +kernel
theorem dL_pass_9 : decode cL_pass 9 = .ok (.astore_n 3, 1) := by decide +kernel
theorem dL_pass_10 : decode cL_pass 10 = .ok (.bipush (-32), 2) := by decide +kernel
theorem dL_pass_12 : decode cL_pass 12 = .ok (.ireturn, 1) := by decide +kernel
theorem dL_pass_13 : decode cL_pass 13 = .ok (.iload_n 2, 1) := by decide +kernel
theorem dL_pass_14 : decode cL_pass 14 = .ok (.ireturn, 1) := by decide +kernel
set_option maxRecDepth 20000 in
theorem ggL_read_X5_read : GoodIn wsL_read wsX5_read := goodIn_ca (goodIn_ca (goodIn_r _ [7, 8, 9, 10, 11, 12, 13, 14, 6, 15, 16, 17, 18, 19, 20, 21, 22, 23, 24, 25, 26, 27, 28, 29, 30, 31, 32, 33, 34, 35, 36, 37, 38, 39, 40, 41, 42, 43, 44, 45, 46, 47, 48, 49, 50, 51, 52, 53, 54, 55, 56, 57, 58, 59, 60, 61, 62, 63, 64, 65, 66, 67, 68, 69, 70, 71, 72, 73, 74, 75, 76, 77, 78, 79, 80, 81, 82, 83, 84, 85, 86, 87, 88, 89, 90, 91, 92, 93, 94, 95, 96, 97, 98, 99, 100, 101, 102, 103, 104, 105, 106, 107, 108, 109, 110, 111, 112, 113, 114, 115, 116, 117, 118, 119, 120, 121, 122, 123, 124, 125, 126, 127, 128, 129, 130, 131, 132, 133, 134, 135, 136, 137, 138, 139, 140, 141, 142, 143, 144, 145, 146, 147, 148, 149, 150, 151, 152, 153, 154] (by decide +kernel) (by decide +kernel)) (goodIn_sub (fun _ h => List.mem_cons_of_mem _ (List.mem_append_left _ (List.mem_append_right _ h))) (by decide +kernel))) (goodIn_sub (fun _ h => List.mem_cons_of_mem _ (List.mem_append_right _ h)) (by decide +kernel))
set_option maxRecDepth 20000 in
theorem gL_read_X5_read : GoodIn wsL_read (wsV RL 35 RX5 yX5_read wsX5_read) := goodIn_app (goodIn_of _ (by decide +kernel)) ggL_read_X5_read
theorem dL_read_0 : decode cL_read 0 = .ok (.aload_n 0, 1) := by decide +kernel
theorem dL_read_1 : decode cL_read 1 = .ok (.iload_n 1, 1) := by decide +kernel
theorem dL_read_2 : decode cL_read 2 = .ok (.invokevirtual 35, 3) := by decide +kernel
theorem dL_read_5 : decode cL_read 5 = .ok (.istore_n 2, 1) := by decide +kernel
theorem dL_read_6 : decode cL_read 6 = .ok (.goto 11, 3) := by decide +kernel
theorem dL_read_9 : decode cL_read 9 = .ok (.astore_n 3, 1) := by decide +kernel
theorem dL_read_10 : decode cL_read 10 = .ok (.bipush (-31), 2) := by decide +kernel
theorem dL_read_12 : decode cL_read 12 = .ok (.ireturn, 1) := by decide +kernel
theorem dL_read_13 : decode cL_read 13 = .ok (.astore_n 3, 1) := by decide +kernel
theorem dL_read_14 : decode cL_read 14 = .ok (.bipush (-33), 2) := by decide +kernel
theorem dL_read_16 : decode cL_read 16 = .ok (.ireturn, 1) := by decide +kernel
theorem dL_read_17 : decode cL_read 17 = .ok (.iload_n 2, 1) := by decide +kernel
theorem dL_read_18 : decode cL_read 18 = .ok (.ireturn, 1) := by decide +kernel
set_option maxRecDepth 20000 in
theorem ggL_set_X5_set : GoodIn wsL_set wsX5_set := goodIn_ca (goodIn_ca (goodIn_r _ [7, 8, 9, 10, 11, 12, 13, 14, 15, 16, 6, 17, 18, 19, 20, 21, 22, 23, 24, 25, 26, 27, 28, 29, 30, 31, 32, 33, 34, 35, 36, 37, 38, 39, 40, 41, 42, 43, 44, 45, 46, 47, 48, 49, 50, 51, 52, 53, 54, 55, 56, 57, 58, 59, 60, 61, 62, 63, 64, 65, 66, 67, 68, 69, 70, 71, 72, 73, 74, 75, 76, 77, 78, 79, 80, 81, 82, 83, 84, 85, 86, 87, 88, 89, 90, 91, 92, 93, 94, 95, 96, 97, 98, 99, 100, 101] (by decide +kernel) (by decide +kernel)) (goodIn_sub (fun _ h => List.mem_cons_of_mem _ (List.mem_append_left _ (List.mem_append_right _ h))) (by decide +kernel))) (goodIn_sub (fun _ h => List.mem_cons_of_mem _ (List.mem_append_right _ h)) (by decide +kernel))
set_option maxRecDepth 20000 in
theorem gL_set_X5_set : GoodIn wsL_set (wsV RL 40 RX5 yX5_set wsX5_set) := goodIn_app (goodIn_of _ (by decide +kernel)) ggL_set_X5_set
theorem dL_set_0 : decode cL_set 0 = .ok (.aload_n 0, 1) := by decide +kernel
theorem dL_set_1 : decode cL_set 1 = .ok (.iload_n 1, 1) := by decide +kernel
theorem dL_set_2 : decode cL_set 2 = .ok (.iload_n 2, 1) := by decide +kernel
theorem dL_set_3 : decode cL_set 3 = .ok (.invokevirtual 40, 3) := by decide +kernel
theorem dL_set_6 : decode cL_set 6 = .ok (.istore_n 3, 1) := by decide +kernel
theorem dL_set_7 : decode cL_set 7 = .ok (.goto 13, 3) := by decide +kernel
theorem dL_set_10 : decode cL_set 10 = .ok (.astore 4, 2) := by decide +kernel
theorem dL_set_12 : decode cL_set 12 = .ok (.bipush (-31), 2) := by decide +kernel
theorem dL_set_14 : decode cL_set 14 = .ok (.ireturn, 1) := by decide +kernel
theorem dL_set_15 : decode cL_set 15 = .ok (.astore 4, 2) := by decide +kernel
theorem dL_set_17 : decode cL_set 17 = .ok (.bipush (-32), 2) := by decide +kernel
theorem dL_set_19 : decode cL_set 19 = .ok (.ireturn, 1) := by decide +kernel
theorem dL_set_20 : decode cL_set 20 = .ok (.iload_n 3, 1) := by decide +kernel
theorem dL_set_21 : decode cL_set 21 = .ok (.ireturn, 1) := by decide +kernel
set_option maxRecDepth 20000 in
theorem ggL_undo_X5_undo : GoodIn wsL_undo wsX5_undo := goodIn_ca (goodIn_r _ [6, 7, 8, 9, 10, 11, 12, 13, 14, 15, 16, 17, 18, 19, 20, 21, 22, 23, 24, 25, 26, 27, 28, 29, 30, 31, 32, 33, 34, 35, 36, 37, 38, 39, 40, 41, 42, 43, 44, 45, 46, 47, 48, 49, 50, 51, 52, 53, 54, 55, 56, 57, 58, 59, 60, 61, 62, 63, 64, 65, 66, 67, 68, 69, 70, 71, 72, 73, 74, 75, 76, 77, 78, 79, 80, 81, 82, 83, 84, 85, 86, 87, 88, 89] (by decide +kernel) (by decide +kernel)) (goodIn_sub (fun _ h => List.mem_cons_of_mem _ (List.mem_append_right _ h)) (by decide +kernel))
set_option maxRecDepth 20000 in
theorem gL_undo_X5_undo : GoodIn wsL_undo (wsV RL 43 RX5 yX5_undo wsX5_undo) := goodIn_app (goodIn_of _ (by decide +kernel)) ggL_undo_X5_undo
theorem dL_undo_0 : decode cL_undo 0 = .ok (.aload_n 0, 1) := by decide +kernel
theorem dL_undo_1 : decode cL_undo 1 = .ok (.invokevirtual 43, 3) := by decide +kernel
theorem dL_undo_4 : decode cL_undo 4 = .ok (.istore_n 1, 1) := by decide +kernel
theorem dL_undo_5 : decode cL_undo 5 = .ok (.goto 7, 3) := by decide +kernel
theorem dL_undo_8 : decode cL_undo 8 = .ok (.astore_n 2, 1) := by decide +kernel
theorem dL_undo_9 : decode cL_undo 9 = .ok (.bipush (-33), 2) := by decide +kernel
theorem dL_undo_11 : decode cL_undo 11 = .ok (.ireturn, 1) := by decide +kernel
theorem dL_undo_12 : decode cL_undo 12 = .ok (.iload_n 1, 1) := by decide +kernel
theorem dL_undo_13 : decode cL_undo 13 = .ok (.ireturn, 1) := by decide +kernel
set_option maxRecDepth 20000 in
theorem ggL_restore_X5_restore : GoodIn wsL_restore wsX5_restore := goodIn_ca (goodIn_r _ [6, 7, 8, 9, 10, 11, 12, 13, 14, 15, 16, 17, 18, 19, 20, 21, 22, 23, 24, 25, 26, 27, 28, 29, 30, 31, 32, 33, 34, 35, 36, 37, 38, 39, 40, 41, 42, 43, 44, 45, 46, 47, 48, 49, 50, 51, 52, 53, 54, 55, 56, 57, 58, 59, 60, 61, 62, 63, 64, 65, 66, 67, 68, 69, 70, 71, 72, 73, 74, 75, 76, 77, 78, 79, 80, 81, 82, 83, 84, 85, 86, 87, 88, 89, 90, 91, 92, 93, 94, 95, 96, 97] (by decide +kernel) (by decide +kernel)) (goodIn_sub (fun _ h => List.mem_cons_of_mem _ (List.mem_append_right _ h)) (by decide +kernel))
set_option maxRecDepth 20000 in
theorem gL_restore_X5_restore : GoodIn wsL_restore (wsV RL 47 RX5 yX5_restore wsX5_restore) := goodIn_app (goodIn_of _ (by decide +kernel)) ggL_restore_X5_restore
theorem dL_restore_0 : decode cL_restore 0 = .ok (.aload_n 0, 1) := by decide +kernel
theorem dL_restore_1 : decode cL_restore 1 = .ok (.invokevirtual 47, 3) := by decide +kernel
theorem dL_restore_4 : decode cL_restore 4 = .ok (.istore_n 1, 1) := by decide +kernel
theorem dL_restore_5 : decode cL_restore 5 = .ok (.goto 7, 3) := by decide +kernel
theorem dL_restore_8 : decode cL_restore 8 = .ok (.astore_n 2, 1) := by decide +kernel
theorem dL_restore_9 : decode cL_restore 9 = .ok (.bipush (-33), 2) := by decide +kernel
theorem dL_restore_11 : decode cL_restore 11 = .ok (.ireturn, 1) := by decide +kernel
theorem dL_restore_12 : decode cL_restore 12 = .ok (.iload_n 1, 1) := by decide +kernel
theorem dL_restore_13 : decode cL_restore 13 = .ok (.ireturn, 1) := by decide +kernel
set_option maxRecDepth 20000 in
theorem ggL_pose_X5_pose : GoodIn wsL_pose wsX5_pose := goodIn_ca (goodIn_ca (goodIn_r _ [7, 8, 9, 6, 10, 11, 12, 13, 14, 15, 16, 17, 18, 19, 20, 21, 22, 23, 24, 25, 26, 27, 28, 29, 30, 31, 32, 33, 34, 35, 36, 37, 38, 39, 40, 41, 42, 43, 44, 45, 46, 47, 48, 49, 50, 51, 52, 53, 54, 55, 56, 57, 58, 59, 60, 61, 62, 63, 64, 65, 66, 67, 68, 69, 70, 71, 72, 73, 74, 75, 76, 77, 78, 79, 80, 81, 82, 83, 84, 85, 86, 87, 88, 89, 90, 91, 92, 93, 94, 95, 96, 97, 98, 99, 100, 101, 102, 103, 104, 105, 106, 107, 108, 109, 110, 111, 112, 113, 114, 115, 116, 117, 118, 119, 120, 121] (by decide +kernel) (by decide +kernel)) (goodIn_sub (fun _ h => List.mem_cons_of_mem _ (List.mem_append_left _ (List.mem_append_right _ h))) (by decide +kernel))) (goodIn_sub (fun _ h => List.mem_cons_of_mem _ (List.mem_append_right _ h)) (by decide +kernel))
set_option maxRecDepth 20000 in
theorem gL_pose_X5_pose : GoodIn wsL_pose (wsV RL 50 RX5 yX5_pose wsX5_pose) := goodIn_app (goodIn_of _ (by decide +kernel)) ggL_pose_X5_pose
theorem dL_pose_0 : decode cL_pose 0 = .ok (.aload_n 0, 1) := by decide +kernel
theorem dL_pose_1 : decode cL_pose 1 = .ok (.iload_n 1, 1) := by decide +kernel
theorem dL_pose_2 : decode cL_pose 2 = .ok (.iload_n 2, 1) := by decide +kernel
theorem dL_pose_3 : decode cL_pose 3 = .ok (.invokevirtual 50, 3) := by decide +kernel
theorem dL_pose_6 : decode cL_pose 6 = .ok (.istore_n 3, 1) := by decide +kernel
theorem dL_pose_7 : decode cL_pose 7 = .ok (.goto 13, 3) := by decide +kernel
theorem dL_pose_10 : decode cL_pose 10 = .ok (.astore 4, 2) := by decide +kernel
theorem dL_pose_12 : decode cL_pose 12 = .ok (.bipush (-31), 2) := by decide +kernel
theorem dL_pose_14 : decode cL_pose 14 = .ok (.ireturn, 1) := by decide +kernel
theorem dL_pose_15 : decode cL_pose 15 = .ok (.astore 4, 2) := by decide +kernel
theorem dL_pose_17 : decode cL_pose 17 = .ok (.bipush (-32), 2) := by decide +kernel
theorem dL_pose_19 : decode cL_pose 19 = .ok (.ireturn, 1) := by decide +kernel
theorem dL_pose_20 : decode cL_pose 20 = .ok (.iload_n 3, 1) := by decide +kernel
theorem dL_pose_21 : decode cL_pose 21 = .ok (.ireturn, 1) := by decide +kernel
set_option maxRecDepth 20000 in
theorem ggL_reading_X5_reading : GoodIn wsL_reading wsX5_reading := goodIn_ca (goodIn_r _ [6, 7, 8, 9, 10, 5, 11, 12, 13, 14, 15, 16, 17, 18, 19, 20, 21, 22, 23, 24, 25, 26, 27, 28, 29, 30, 31, 32, 33, 34, 35, 36, 37, 38, 39, 40] (by decide +kernel) (by decide +kernel)) (goodIn_sub (fun _ h => List.mem_cons_of_mem _ (List.mem_append_right _ h)) (by decide +kernel))
set_option maxRecDepth 20000 in
theorem gL_reading_X5_reading : GoodIn wsL_reading (wsV RL 53 RX5 yX5_reading wsX5_reading) := goodIn_app (goodIn_of _ (by decide +kernel)) ggL_reading_X5_reading
theorem dL_reading_0 : decode cL_reading 0 = .ok (.aload_n 0, 1) := by decide +kernel
theorem dL_reading_1 : decode cL_reading 1 = .ok (.iload_n 1, 1) := by decide +kernel
theorem dL_reading_2 : decode cL_reading 2 = .ok (.iload_n 2, 1) := by decide +kernel
theorem dL_reading_3 : decode cL_reading 3 = .ok (.invokevirtual 53, 3) := by decide +kernel
theorem dL_reading_6 : decode cL_reading 6 = .ok (.istore_n 3, 1) := by decide +kernel
theorem dL_reading_7 : decode cL_reading 7 = .ok (.goto 8, 3) := by decide +kernel
theorem dL_reading_10 : decode cL_reading 10 = .ok (.astore 4, 2) := by decide +kernel
theorem dL_reading_12 : decode cL_reading 12 = .ok (.bipush (-32), 2) := by decide +kernel
theorem dL_reading_14 : decode cL_reading 14 = .ok (.ireturn, 1) := by decide +kernel
theorem dL_reading_15 : decode cL_reading 15 = .ok (.iload_n 3, 1) := by decide +kernel
theorem dL_reading_16 : decode cL_reading 16 = .ok (.ireturn, 1) := by decide +kernel
theorem dL_swing_0 : decode cL_swing 0 = .ok (.sipush 176, 3) := by decide +kernel
theorem dL_swing_3 : decode cL_swing 3 = .ok (.iconst 3, 1) := by decide +kernel
theorem dL_swing_4 : decode cL_swing 4 = .ok (.aload_n 0, 1) := by decide +kernel
theorem dL_swing_5 : decode cL_swing 5 = .ok (.iconst 1, 1) := by decide +kernel
theorem dL_swing_6 : decode cL_swing 6 = .ok (.iaload, 1) := by decide +kernel
theorem dL_swing_7 : decode cL_swing 7 = .ok (.imul, 1) := by decide +kernel
theorem dL_swing_8 : decode cL_swing 8 = .ok (.iadd, 1) := by decide +kernel
theorem dL_swing_9 : decode cL_swing 9 = .ok (.aload_n 0, 1) := by decide +kernel
theorem dL_swing_10 : decode cL_swing 10 = .ok (.iconst 5, 1) := by decide +kernel
theorem dL_swing_11 : decode cL_swing 11 = .ok (.iaload, 1) := by decide +kernel
theorem dL_swing_12 : decode cL_swing 12 = .ok (.isub, 1) := by decide +kernel
theorem dL_swing_13 : decode cL_swing 13 = .ok (.iload_n 1, 1) := by decide +kernel
theorem dL_swing_14 : decode cL_swing 14 = .ok (.iconst 2, 1) := by decide +kernel
theorem dL_swing_15 : decode cL_swing 15 = .ok (.if_icmp .ge 7, 3) := by decide +kernel
theorem dL_swing_18 : decode cL_swing 18 = .ok (.iconst 0, 1) := by decide +kernel
theorem dL_swing_19 : decode cL_swing 19 = .ok (.goto 5, 3) := by decide +kernel
theorem dL_swing_22 : decode cL_swing 22 = .ok (.bipush 20, 2) := by decide +kernel
theorem dL_swing_24 : decode cL_swing 24 = .ok (.isub, 1) := by decide +kernel
theorem dL_swing_25 : decode cL_swing 25 = .ok (.istore_n 2, 1) := by decide +kernel
theorem dL_swing_26 : decode cL_swing 26 = .ok (.iload_n 2, 1) := by decide +kernel
theorem dL_swing_27 : decode cL_swing 27 = .ok (.ifCond .ge 7, 3) := by decide +kernel
theorem dL_swing_30 : decode cL_swing 30 = .ok (.iconst 0, 1) := by decide +kernel
theorem dL_swing_31 : decode cL_swing 31 = .ok (.goto 4, 3) := by decide +kernel
theorem dL_swing_34 : decode cL_swing 34 = .ok (.iload_n 2, 1) := by decide +kernel
theorem dL_swing_35 : decode cL_swing 35 = .ok (.ireturn, 1) := by decide +kernel
set_option maxRecDepth 20000 in
theorem ggL_goes_L_swing : GoodIn wsL_goes wsL_swing := goodIn_r _ [4] (by decide +kernel) (by decide +kernel)
set_option maxRecDepth 20000 in
theorem gL_goes_L_swing : GoodIn wsL_goes (va_wsS RL 56 yL_swing wsL_swing) := goodIn_app (goodIn_of _ (by decide +kernel)) ggL_goes_L_swing
theorem dL_goes_0 : decode cL_goes 0 = .ok (.aload_n 0, 1) := by decide +kernel
theorem dL_goes_1 : decode cL_goes 1 = .ok (.iconst 1, 1) := by decide +kernel
theorem dL_goes_2 : decode cL_goes 2 = .ok (.iaload, 1) := by decide +kernel
theorem dL_goes_3 : decode cL_goes 3 = .ok (.ifCond .le 17, 3) := by decide +kernel
theorem dL_goes_6 : decode cL_goes 6 = .ok (.aload_n 0, 1) := by decide +kernel
theorem dL_goes_7 : decode cL_goes 7 = .ok (.iload_n 1, 1) := by decide +kernel
theorem dL_goes_8 : decode cL_goes 8 = .ok (.invokestatic 56, 3) := by decide +kernel
theorem dL_goes_11 : decode cL_goes 11 = .ok (.bipush 119, 2) := by decide +kernel
theorem dL_goes_13 : decode cL_goes 13 = .ok (.if_icmp .le 7, 3) := by decide +kernel
theorem dL_goes_16 : decode cL_goes 16 = .ok (.iconst 1, 1) := by decide +kernel
theorem dL_goes_17 : decode cL_goes 17 = .ok (.goto 4, 3) := by decide +kernel
theorem dL_goes_20 : decode cL_goes 20 = .ok (.iconst 0, 1) := by decide +kernel
theorem dL_goes_21 : decode cL_goes 21 = .ok (.ireturn, 1) := by decide +kernel
theorem dL_down_0 : decode cL_down 0 = .ok (.ldc 62, 2) := by decide +kernel
theorem dL_down_2 : decode cL_down 2 = .ok (.iload_n 1, 1) := by decide +kernel
theorem dL_down_3 : decode cL_down 3 = .ok (.idiv, 1) := by decide +kernel
theorem dL_down_4 : decode cL_down 4 = .ok (.iconst 1, 1) := by decide +kernel
theorem dL_down_5 : decode cL_down 5 = .ok (.iadd, 1) := by decide +kernel
theorem dL_down_6 : decode cL_down 6 = .ok (.istore_n 2, 1) := by decide +kernel
theorem dL_down_7 : decode cL_down 7 = .ok (.iload_n 0, 1) := by decide +kernel
theorem dL_down_8 : decode cL_down 8 = .ok (.iload_n 2, 1) := by decide +kernel
theorem dL_down_9 : decode cL_down 9 = .ok (.iload_n 1, 1) := by decide +kernel
theorem dL_down_10 : decode cL_down 10 = .ok (.imul, 1) := by decide +kernel
theorem dL_down_11 : decode cL_down 11 = .ok (.iadd, 1) := by decide +kernel
theorem dL_down_12 : decode cL_down 12 = .ok (.iload_n 1, 1) := by decide +kernel
theorem dL_down_13 : decode cL_down 13 = .ok (.idiv, 1) := by decide +kernel
theorem dL_down_14 : decode cL_down 14 = .ok (.iload_n 2, 1) := by decide +kernel
theorem dL_down_15 : decode cL_down 15 = .ok (.isub, 1) := by decide +kernel
theorem dL_down_16 : decode cL_down 16 = .ok (.ireturn, 1) := by decide +kernel
set_option maxRecDepth 20000 in
theorem ggL_rate_L_swing : GoodIn wsL_rate wsL_swing := goodIn_r _ [4] (by decide +kernel) (by decide +kernel)
set_option maxRecDepth 20000 in
theorem gL_rate_L_swing : GoodIn wsL_rate (va_wsS RL 56 yL_swing wsL_swing) := goodIn_app (goodIn_of _ (by decide +kernel)) ggL_rate_L_swing
set_option maxRecDepth 20000 in
theorem ggL_rate_L_down : GoodIn wsL_rate wsL_down := goodIn_r _ [7, 8] (by decide +kernel) (by decide +kernel)
set_option maxRecDepth 20000 in
theorem gL_rate_L_down : GoodIn wsL_rate (va_wsS RL 63 yL_down wsL_down) := goodIn_app (goodIn_of _ (by decide +kernel)) ggL_rate_L_down
theorem dL_rate_0 : decode cL_rate 0 = .ok (.aload_n 0, 1) := by decide +kernel
theorem dL_rate_1 : decode cL_rate 1 = .ok (.iconst 2, 1) := by decide +kernel
theorem dL_rate_2 : decode cL_rate 2 = .ok (.iaload, 1) := by decide +kernel
theorem dL_rate_3 : decode cL_rate 3 = .ok (.iconst 2, 1) := by decide +kernel
theorem dL_rate_4 : decode cL_rate 4 = .ok (.aload_n 0, 1) := by decide +kernel
theorem dL_rate_5 : decode cL_rate 5 = .ok (.iconst 4, 1) := by decide +kernel
theorem dL_rate_6 : decode cL_rate 6 = .ok (.iaload, 1) := by decide +kernel
theorem dL_rate_7 : decode cL_rate 7 = .ok (.imul, 1) := by decide +kernel
theorem dL_rate_8 : decode cL_rate 8 = .ok (.iadd, 1) := by decide +kernel
theorem dL_rate_9 : decode cL_rate 9 = .ok (.aload_n 0, 1) := by decide +kernel
theorem dL_rate_10 : decode cL_rate 10 = .ok (.bipush 16, 2) := by decide +kernel
theorem dL_rate_12 : decode cL_rate 12 = .ok (.iload_n 1, 1) := by decide +kernel
theorem dL_rate_13 : decode cL_rate 13 = .ok (.iadd, 1) := by decide +kernel
theorem dL_rate_14 : decode cL_rate 14 = .ok (.iaload, 1) := by decide +kernel
theorem dL_rate_15 : decode cL_rate 15 = .ok (.sipush 360, 3) := by decide +kernel
theorem dL_rate_18 : decode cL_rate 18 = .ok (.aload_n 0, 1) := by decide +kernel
theorem dL_rate_19 : decode cL_rate 19 = .ok (.iload_n 1, 1) := by decide +kernel
theorem dL_rate_20 : decode cL_rate 20 = .ok (.invokestatic 56, 3) := by decide +kernel
theorem dL_rate_23 : decode cL_rate 23 = .ok (.isub, 1) := by decide +kernel
theorem dL_rate_24 : decode cL_rate 24 = .ok (.imul, 1) := by decide +kernel
theorem dL_rate_25 : decode cL_rate 25 = .ok (.bipush 100, 2) := by decide +kernel
theorem dL_rate_27 : decode cL_rate 27 = .ok (.invokestatic 63, 3) := by decide +kernel
theorem dL_rate_30 : decode cL_rate 30 = .ok (.iadd, 1) := by decide +kernel
theorem dL_rate_31 : decode cL_rate 31 = .ok (.istore_n 2, 1) := by decide +kernel
theorem dL_rate_32 : decode cL_rate 32 = .ok (.aload_n 0, 1) := by decide +kernel
theorem dL_rate_33 : decode cL_rate 33 = .ok (.iconst 4, 1) := by decide +kernel
theorem dL_rate_34 : decode cL_rate 34 = .ok (.iaload, 1) := by decide +kernel
theorem dL_rate_35 : decode cL_rate 35 = .ok (.bipush 50, 2) := by decide +kernel
theorem dL_rate_37 : decode cL_rate 37 = .ok (.if_icmp .le 9, 3) := by decide +kernel
theorem dL_rate_40 : decode cL_rate 40 = .ok (.iload_n 2, 1) := by decide +kernel
theorem dL_rate_41 : decode cL_rate 41 = .ok (.sipush 300, 3) := by decide +kernel
theorem dL_rate_44 : decode cL_rate 44 = .ok (.iadd, 1) := by decide +kernel
theorem dL_rate_45 : decode cL_rate 45 = .ok (.ireturn, 1) := by decide +kernel
theorem dL_rate_46 : decode cL_rate 46 = .ok (.aload_n 0, 1) := by decide +kernel
theorem dL_rate_47 : decode cL_rate 47 = .ok (.iload_n 1, 1) := by decide +kernel
theorem dL_rate_48 : decode cL_rate 48 = .ok (.invokestatic 56, 3) := by decide +kernel
theorem dL_rate_51 : decode cL_rate 51 = .ok (.sipush 300, 3) := by decide +kernel
theorem dL_rate_54 : decode cL_rate 54 = .ok (.if_icmp .le 11, 3) := by decide +kernel
theorem dL_rate_57 : decode cL_rate 57 = .ok (.iload_n 2, 1) := by decide +kernel
theorem dL_rate_58 : decode cL_rate 58 = .ok (.sipush 600, 3) := by decide +kernel
theorem dL_rate_61 : decode cL_rate 61 = .ok (.iadd, 1) := by decide +kernel
theorem dL_rate_62 : decode cL_rate 62 = .ok (.goto 4, 3) := by decide +kernel
theorem dL_rate_65 : decode cL_rate 65 = .ok (.iload_n 2, 1) := by decide +kernel
theorem dL_rate_66 : decode cL_rate 66 = .ok (.ireturn, 1) := by decide +kernel
theorem dL_beat_0 : decode cL_beat 0 = .ok (.aload_n 0, 1) := by decide +kernel
theorem dL_beat_1 : decode cL_beat 1 = .ok (.iconst 3, 1) := by decide +kernel
theorem dL_beat_2 : decode cL_beat 2 = .ok (.iaload, 1) := by decide +kernel
theorem dL_beat_3 : decode cL_beat 3 = .ok (.ifCond .ge 10, 3) := by decide +kernel
theorem dL_beat_6 : decode cL_beat 6 = .ok (.aload_n 0, 1) := by decide +kernel
theorem dL_beat_7 : decode cL_beat 7 = .ok (.iconst 3, 1) := by decide +kernel
theorem dL_beat_8 : decode cL_beat 8 = .ok (.iaload, 1) := by decide +kernel
theorem dL_beat_9 : decode cL_beat 9 = .ok (.ineg, 1) := by decide +kernel
theorem dL_beat_10 : decode cL_beat 10 = .ok (.goto 6, 3) := by decide +kernel
theorem dL_beat_13 : decode cL_beat 13 = .ok (.aload_n 0, 1) := by decide +kernel
theorem dL_beat_14 : decode cL_beat 14 = .ok (.iconst 3, 1) := by decide +kernel
theorem dL_beat_15 : decode cL_beat 15 = .ok (.iaload, 1) := by decide +kernel
theorem dL_beat_16 : decode cL_beat 16 = .ok (.aload_n 0, 1) := by decide +kernel
theorem dL_beat_17 : decode cL_beat 17 = .ok (.iconst 5, 1) := by decide +kernel
theorem dL_beat_18 : decode cL_beat 18 = .ok (.iaload, 1) := by decide +kernel
theorem dL_beat_19 : decode cL_beat 19 = .ok (.bipush 10, 2) := by decide +kernel
theorem dL_beat_21 : decode cL_beat 21 = .ok (.idiv, 1) := by decide +kernel
theorem dL_beat_22 : decode cL_beat 22 = .ok (.iadd, 1) := by decide +kernel
theorem dL_beat_23 : decode cL_beat 23 = .ok (.iload_n 1, 1) := by decide +kernel
theorem dL_beat_24 : decode cL_beat 24 = .ok (.iconst 2, 1) := by decide +kernel
theorem dL_beat_25 : decode cL_beat 25 = .ok (.if_icmp .ge 7, 3) := by decide +kernel
theorem dL_beat_28 : decode cL_beat 28 = .ok (.iconst 0, 1) := by decide +kernel
theorem dL_beat_29 : decode cL_beat 29 = .ok (.goto 4, 3) := by decide +kernel
theorem dL_beat_32 : decode cL_beat 32 = .ok (.iconst 2, 1) := by decide +kernel
theorem dL_beat_33 : decode cL_beat 33 = .ok (.iadd, 1) := by decide +kernel
theorem dL_beat_34 : decode cL_beat 34 = .ok (.ireturn, 1) := by decide +kernel
set_option maxRecDepth 20000 in
theorem ggL_why_L_swing : GoodIn wsL_why wsL_swing := goodIn_r _ [4] (by decide +kernel) (by decide +kernel)
set_option maxRecDepth 20000 in
theorem gL_why_L_swing : GoodIn wsL_why (va_wsS RL 56 yL_swing wsL_swing) := goodIn_app (goodIn_of _ (by decide +kernel)) ggL_why_L_swing
set_option maxRecDepth 20000 in
theorem ggL_why_L_beat : GoodIn wsL_why wsL_beat := goodIn_r _ [7] (by decide +kernel) (by decide +kernel)
set_option maxRecDepth 20000 in
theorem gL_why_L_beat : GoodIn wsL_why (va_wsS RL 66 yL_beat wsL_beat) := goodIn_app (goodIn_of _ (by decide +kernel)) ggL_why_L_beat
theorem dL_why_0 : decode cL_why 0 = .ok (.aload_n 0, 1) := by decide +kernel
theorem dL_why_1 : decode cL_why 1 = .ok (.iconst 1, 1) := by decide +kernel
theorem dL_why_2 : decode cL_why 2 = .ok (.iaload, 1) := by decide +kernel
theorem dL_why_3 : decode cL_why 3 = .ok (.ifCond .ne 5, 3) := by decide +kernel
theorem dL_why_6 : decode cL_why 6 = .ok (.iconst 1, 1) := by decide +kernel
theorem dL_why_7 : decode cL_why 7 = .ok (.ireturn, 1) := by decide +kernel
theorem dL_why_8 : decode cL_why 8 = .ok (.aload_n 0, 1) := by decide +kernel
theorem dL_why_9 : decode cL_why 9 = .ok (.iload_n 1, 1) := by decide +kernel
theorem dL_why_10 : decode cL_why 10 = .ok (.invokestatic 56, 3) := by decide +kernel
theorem dL_why_13 : decode cL_why 13 = .ok (.bipush 120, 2) := by decide +kernel
theorem dL_why_15 : decode cL_why 15 = .ok (.if_icmp .ge 5, 3) := by decide +kernel
theorem dL_why_18 : decode cL_why 18 = .ok (.iconst 2, 1) := by decide +kernel
theorem dL_why_19 : decode cL_why 19 = .ok (.ireturn, 1) := by decide +kernel
theorem dL_why_20 : decode cL_why 20 = .ok (.aload_n 0, 1) := by decide +kernel
theorem dL_why_21 : decode cL_why 21 = .ok (.iload_n 1, 1) := by decide +kernel
theorem dL_why_22 : decode cL_why 22 = .ok (.invokestatic 66, 3) := by decide +kernel
theorem dL_why_25 : decode cL_why 25 = .ok (.aload_n 0, 1) := by decide +kernel
theorem dL_why_26 : decode cL_why 26 = .ok (.bipush 12, 2) := by decide +kernel
theorem dL_why_28 : decode cL_why 28 = .ok (.iaload, 1) := by decide +kernel
theorem dL_why_29 : decode cL_why 29 = .ok (.if_icmp .le 5, 3) := by decide +kernel
theorem dL_why_32 : decode cL_why 32 = .ok (.iconst 3, 1) := by decide +kernel
theorem dL_why_33 : decode cL_why 33 = .ok (.ireturn, 1) := by decide +kernel
theorem dL_why_34 : decode cL_why 34 = .ok (.aload_n 0, 1) := by decide +kernel
theorem dL_why_35 : decode cL_why 35 = .ok (.iconst 4, 1) := by decide +kernel
theorem dL_why_36 : decode cL_why 36 = .ok (.iaload, 1) := by decide +kernel
theorem dL_why_37 : decode cL_why 37 = .ok (.aload_n 0, 1) := by decide +kernel
theorem dL_why_38 : decode cL_why 38 = .ok (.bipush 13, 2) := by decide +kernel
theorem dL_why_40 : decode cL_why 40 = .ok (.iaload, 1) := by decide +kernel
theorem dL_why_41 : decode cL_why 41 = .ok (.if_icmp .le 7, 3) := by decide +kernel
theorem dL_why_44 : decode cL_why 44 = .ok (.iconst 4, 1) := by decide +kernel
theorem dL_why_45 : decode cL_why 45 = .ok (.goto 17, 3) := by decide +kernel
theorem dL_why_48 : decode cL_why 48 = .ok (.aload_n 0, 1) := by decide +kernel
theorem dL_why_49 : decode cL_why 49 = .ok (.bipush 10, 2) := by decide +kernel
theorem dL_why_51 : decode cL_why 51 = .ok (.iaload, 1) := by decide +kernel
theorem dL_why_52 : decode cL_why 52 = .ok (.bipush 40, 2) := by decide +kernel
theorem dL_why_54 : decode cL_why 54 = .ok (.if_icmp .ne 7, 3) := by decide +kernel
theorem dL_why_57 : decode cL_why 57 = .ok (.iconst 5, 1) := by decide +kernel
theorem dL_why_58 : decode cL_why 58 = .ok (.goto 4, 3) := by decide +kernel
theorem dL_why_61 : decode cL_why 61 = .ok (.iconst 0, 1) := by decide +kernel
theorem dL_why_62 : decode cL_why 62 = .ok (.ireturn, 1) := by decide +kernel
set_option maxRecDepth 20000 in
theorem ggL_hour_L_goes : GoodIn wsL_hour wsL_goes := goodIn_r _ [4, 5, 6, 3, 7] (by decide +kernel) (by decide +kernel)
set_option maxRecDepth 20000 in
theorem gL_hour_L_goes : GoodIn wsL_hour (va_wsS RL 69 yL_goes wsL_goes) := goodIn_app (goodIn_of _ (by decide +kernel)) ggL_hour_L_goes
set_option maxRecDepth 20000 in
theorem ggL_hour_L_rate : GoodIn wsL_hour wsL_rate := goodIn_r _ [10, 5, 6, 3, 7, 11, 12, 13, 14] (by decide +kernel) (by decide +kernel)
set_option maxRecDepth 20000 in
theorem gL_hour_L_rate : GoodIn wsL_hour (va_wsS RL 73 yL_rate wsL_rate) := goodIn_app (goodIn_of _ (by decide +kernel)) ggL_hour_L_rate
set_option maxRecDepth 20000 in
theorem ggL_hour_L_down : GoodIn wsL_hour wsL_down := goodIn_r _ [13, 14] (by decide +kernel) (by decide +kernel)
set_option maxRecDepth 20000 in
theorem gL_hour_L_down : GoodIn wsL_hour (va_wsS RL 63 yL_down wsL_down) := goodIn_app (goodIn_of _ (by decide +kernel)) ggL_hour_L_down
theorem dL_hour_0 : decode cL_hour 0 = .ok (.aload_n 0, 1) := by decide +kernel
theorem dL_hour_1 : decode cL_hour 1 = .ok (.iconst 0, 1) := by decide +kernel
theorem dL_hour_2 : decode cL_hour 2 = .ok (.dup2, 1) := by decide +kernel
theorem dL_hour_3 : decode cL_hour 3 = .ok (.iaload, 1) := by decide +kernel
theorem dL_hour_4 : decode cL_hour 4 = .ok (.iconst 1, 1) := by decide +kernel
theorem dL_hour_5 : decode cL_hour 5 = .ok (.iadd, 1) := by decide +kernel
theorem dL_hour_6 : decode cL_hour 6 = .ok (.iastore, 1) := by decide +kernel
theorem dL_hour_7 : decode cL_hour 7 = .ok (.aload_n 0, 1) := by decide +kernel
theorem dL_hour_8 : decode cL_hour 8 = .ok (.aload_n 0, 1) := by decide +kernel
theorem dL_hour_9 : decode cL_hour 9 = .ok (.bipush 6, 2) := by decide +kernel
theorem dL_hour_11 : decode cL_hour 11 = .ok (.iaload, 1) := by decide +kernel
theorem dL_hour_12 : decode cL_hour 12 = .ok (.invokestatic 69, 3) := by decide +kernel
theorem dL_hour_15 : decode cL_hour 15 = .ok (.ifCond .ne 12, 3) := by decide +kernel
theorem dL_hour_18 : decode cL_hour 18 = .ok (.aload_n 0, 1) := by decide +kernel
theorem dL_hour_19 : decode cL_hour 19 = .ok (.bipush 8, 2) := by decide +kernel
theorem dL_hour_21 : decode cL_hour 21 = .ok (.dup2, 1) := by decide +kernel
theorem dL_hour_22 : decode cL_hour 22 = .ok (.iaload, 1) := by decide +kernel
theorem dL_hour_23 : decode cL_hour 23 = .ok (.iconst 1, 1) := by decide +kernel
theorem dL_hour_24 : decode cL_hour 24 = .ok (.iadd, 1) := by decide +kernel
theorem dL_hour_25 : decode cL_hour 25 = .ok (.iastore, 1) := by decide +kernel
theorem dL_hour_26 : decode cL_hour 26 = .ok (.return_, 1) := by decide +kernel
theorem dL_hour_27 : decode cL_hour 27 = .ok (.aload_n 0, 1) := by decide +kernel
theorem dL_hour_28 : decode cL_hour 28 = .ok (.bipush 7, 2) := by decide +kernel
theorem dL_hour_30 : decode cL_hour 30 = .ok (.dup2, 1) := by decide +kernel
theorem dL_hour_31 : decode cL_hour 31 = .ok (.iaload, 1) := by decide +kernel
theorem dL_hour_32 : decode cL_hour 32 = .ok (.aload_n 0, 1) := by decide +kernel
theorem dL_hour_33 : decode cL_hour 33 = .ok (.aload_n 0, 1) := by decide +kernel
theorem dL_hour_34 : decode cL_hour 34 = .ok (.bipush 6, 2) := by decide +kernel
theorem dL_hour_36 : decode cL_hour 36 = .ok (.iaload, 1) := by decide +kernel
theorem dL_hour_37 : decode cL_hour 37 = .ok (.invokestatic 73, 3) := by decide +kernel
theorem dL_hour_40 : decode cL_hour 40 = .ok (.bipush 24, 2) := by decide +kernel
theorem dL_hour_42 : decode cL_hour 42 = .ok (.invokestatic 63, 3) := by decide +kernel
theorem dL_hour_45 : decode cL_hour 45 = .ok (.iadd, 1) := by decide +kernel
theorem dL_hour_46 : decode cL_hour 46 = .ok (.iastore, 1) := by decide +kernel
theorem dL_hour_47 : decode cL_hour 47 = .ok (.aload_n 0, 1) := by decide +kernel
theorem dL_hour_48 : decode cL_hour 48 = .ok (.iconst 1, 1) := by decide +kernel
theorem dL_hour_49 : decode cL_hour 49 = .ok (.dup2, 1) := by decide +kernel
theorem dL_hour_50 : decode cL_hour 50 = .ok (.iaload, 1) := by decide +kernel
theorem dL_hour_51 : decode cL_hour 51 = .ok (.iconst 1, 1) := by decide +kernel
theorem dL_hour_52 : decode cL_hour 52 = .ok (.isub, 1) := by decide +kernel
theorem dL_hour_53 : decode cL_hour 53 = .ok (.iastore, 1) := by decide +kernel
theorem dL_hour_54 : decode cL_hour 54 = .ok (.aload_n 0, 1) := by decide +kernel
theorem dL_hour_55 : decode cL_hour 55 = .ok (.bipush 9, 2) := by decide +kernel
end
section
theorem dL_hour_57 : decode cL_hour 57 = .ok (.dup2, 1) := by decide +kernel
theorem dL_hour_58 : decode cL_hour 58 = .ok (.iaload, 1) := by decide +kernel
theorem dL_hour_59 : decode cL_hour 59 = .ok (.iconst 1, 1) := by decide +kernel
theorem dL_hour_60 : decode cL_hour 60 = .ok (.iadd, 1) := by decide +kernel
theorem dL_hour_61 : decode cL_hour 61 = .ok (.iastore, 1) := by decide +kernel
theorem dL_hour_62 : decode cL_hour 62 = .ok (.aload_n 0, 1) := by decide +kernel
theorem dL_hour_63 : decode cL_hour 63 = .ok (.bipush 9, 2) := by decide +kernel
theorem dL_hour_65 : decode cL_hour 65 = .ok (.iaload, 1) := by decide +kernel
theorem dL_hour_66 : decode cL_hour 66 = .ok (.bipush 24, 2) := by decide +kernel
theorem dL_hour_68 : decode cL_hour 68 = .ok (.irem, 1) := by decide +kernel
theorem dL_hour_69 : decode cL_hour 69 = .ok (.ifCond .ne 18, 3) := by decide +kernel
theorem dL_hour_72 : decode cL_hour 72 = .ok (.aload_n 0, 1) := by decide +kernel
theorem dL_hour_73 : decode cL_hour 73 = .ok (.iconst 5, 1) := by decide +kernel
theorem dL_hour_74 : decode cL_hour 74 = .ok (.iaload, 1) := by decide +kernel
theorem dL_hour_75 : decode cL_hour 75 = .ok (.bipush 100, 2) := by decide +kernel
theorem dL_hour_77 : decode cL_hour 77 = .ok (.if_icmp .ge 10, 3) := by decide +kernel
theorem dL_hour_80 : decode cL_hour 80 = .ok (.aload_n 0, 1) := by decide +kernel
theorem dL_hour_81 : decode cL_hour 81 = .ok (.iconst 5, 1) := by decide +kernel
theorem dL_hour_82 : decode cL_hour 82 = .ok (.dup2, 1) := by decide +kernel
theorem dL_hour_83 : decode cL_hour 83 = .ok (.iaload, 1) := by decide +kernel
theorem dL_hour_84 : decode cL_hour 84 = .ok (.iconst 1, 1) := by decide +kernel
theorem dL_hour_85 : decode cL_hour 85 = .ok (.iadd, 1) := by decide +kernel
theorem dL_hour_86 : decode cL_hour 86 = .ok (.iastore, 1) := by decide +kernel
theorem dL_hour_87 : decode cL_hour 87 = .ok (.return_, 1) := by decide +kernel
set_option maxRecDepth 20000 in
theorem ggL_hours_L_hour : GoodIn wsL_hours wsL_hour := goodIn_r _ [4, 5, 6, 3, 7, 8, 9, 10, 11, 12, 13, 14, 15, 16, 17] (by decide +kernel) (by decide +kernel)
set_option maxRecDepth 20000 in
theorem gL_hours_L_hour : GoodIn wsL_hours (va_wsS RL 76 yL_hour wsL_hour) := goodIn_app (goodIn_of _ (by decide +kernel)) ggL_hours_L_hour
theorem dL_hours_0 : decode cL_hours 0 = .ok (.aload_n 0, 1) := by decide +kernel
theorem dL_hours_1 : decode cL_hours 1 = .ok (.bipush 9, 2) := by decide +kernel
theorem dL_hours_3 : decode cL_hours 3 = .ok (.iaload, 1) := by decide +kernel
theorem dL_hours_4 : decode cL_hours 4 = .ok (.istore_n 2, 1) := by decide +kernel
theorem dL_hours_5 : decode cL_hours 5 = .ok (.iconst 0, 1) := by decide +kernel
theorem dL_hours_6 : decode cL_hours 6 = .ok (.istore_n 3, 1) := by decide +kernel
theorem dL_hours_7 : decode cL_hours 7 = .ok (.iload_n 3, 1) := by decide +kernel
theorem dL_hours_8 : decode cL_hours 8 = .ok (.iload_n 1, 1) := by decide +kernel
theorem dL_hours_9 : decode cL_hours 9 = .ok (.if_icmp .ge 13, 3) := by decide +kernel
theorem dL_hours_12 : decode cL_hours 12 = .ok (.aload_n 0, 1) := by decide +kernel
theorem dL_hours_13 : decode cL_hours 13 = .ok (.invokestatic 76, 3) := by decide +kernel
theorem dL_hours_16 : decode cL_hours 16 = .ok (.iinc 3 1, 3) := by decide +kernel
theorem dL_hours_19 : decode cL_hours 19 = .ok (.goto (-12), 3) := by decide +kernel
theorem dL_hours_22 : decode cL_hours 22 = .ok (.aload_n 0, 1) := by decide +kernel
theorem dL_hours_23 : decode cL_hours 23 = .ok (.bipush 9, 2) := by decide +kernel
theorem dL_hours_25 : decode cL_hours 25 = .ok (.iaload, 1) := by decide +kernel
theorem dL_hours_26 : decode cL_hours 26 = .ok (.iload_n 2, 1) := by decide +kernel
theorem dL_hours_27 : decode cL_hours 27 = .ok (.isub, 1) := by decide +kernel
theorem dL_hours_28 : decode cL_hours 28 = .ok (.ireturn, 1) := by decide +kernel
theorem dL_copy_0 : decode cL_copy 0 = .ok (.iconst 0, 1) := by decide +kernel
theorem dL_copy_1 : decode cL_copy 1 = .ok (.istore_n 2, 1) := by decide +kernel
theorem dL_copy_2 : decode cL_copy 2 = .ok (.iload_n 2, 1) := by decide +kernel
theorem dL_copy_3 : decode cL_copy 3 = .ok (.aload_n 0, 1) := by decide +kernel
theorem dL_copy_4 : decode cL_copy 4 = .ok (.arraylength, 1) := by decide +kernel
theorem dL_copy_5 : decode cL_copy 5 = .ok (.if_icmp .ge 15, 3) := by decide +kernel
theorem dL_copy_8 : decode cL_copy 8 = .ok (.aload_n 1, 1) := by decide +kernel
theorem dL_copy_9 : decode cL_copy 9 = .ok (.iload_n 2, 1) := by decide +kernel
theorem dL_copy_10 : decode cL_copy 10 = .ok (.aload_n 0, 1) := by decide +kernel
theorem dL_copy_11 : decode cL_copy 11 = .ok (.iload_n 2, 1) := by decide +kernel
theorem dL_copy_12 : decode cL_copy 12 = .ok (.iaload, 1) := by decide +kernel
theorem dL_copy_13 : decode cL_copy 13 = .ok (.iastore, 1) := by decide +kernel
theorem dL_copy_14 : decode cL_copy 14 = .ok (.iinc 2 1, 3) := by decide +kernel
theorem dL_copy_17 : decode cL_copy 17 = .ok (.goto (-15), 3) := by decide +kernel
theorem dL_copy_20 : decode cL_copy 20 = .ok (.return_, 1) := by decide +kernel
theorem dL_latest_0 : decode cL_latest 0 = .ok (.aload_n 0, 1) := by decide +kernel
theorem dL_latest_1 : decode cL_latest 1 = .ok (.bipush 10, 2) := by decide +kernel
theorem dL_latest_3 : decode cL_latest 3 = .ok (.iaload, 1) := by decide +kernel
theorem dL_latest_4 : decode cL_latest 4 = .ok (.iconst 1, 1) := by decide +kernel
theorem dL_latest_5 : decode cL_latest 5 = .ok (.isub, 1) := by decide +kernel
theorem dL_latest_6 : decode cL_latest 6 = .ok (.istore_n 3, 1) := by decide +kernel
theorem dL_latest_7 : decode cL_latest 7 = .ok (.iload_n 3, 1) := by decide +kernel
theorem dL_latest_8 : decode cL_latest 8 = .ok (.ifCond .lt 21, 3) := by decide +kernel
theorem dL_latest_11 : decode cL_latest 11 = .ok (.aload_n 1, 1) := by decide +kernel
theorem dL_latest_12 : decode cL_latest 12 = .ok (.iload_n 3, 1) := by decide +kernel
theorem dL_latest_13 : decode cL_latest 13 = .ok (.iaload, 1) := by decide +kernel
theorem dL_latest_14 : decode cL_latest 14 = .ok (.bipush 100, 2) := by decide +kernel
theorem dL_latest_16 : decode cL_latest 16 = .ok (.irem, 1) := by decide +kernel
theorem dL_latest_17 : decode cL_latest 17 = .ok (.iload_n 2, 1) := by decide +kernel
theorem dL_latest_18 : decode cL_latest 18 = .ok (.if_icmp .ne 5, 3) := by decide +kernel
theorem dL_latest_21 : decode cL_latest 21 = .ok (.iload_n 3, 1) := by decide +kernel
theorem dL_latest_22 : decode cL_latest 22 = .ok (.ireturn, 1) := by decide +kernel
theorem dL_latest_23 : decode cL_latest 23 = .ok (.iinc 3 (-1), 3) := by decide +kernel
theorem dL_latest_26 : decode cL_latest 26 = .ok (.goto (-19), 3) := by decide +kernel
theorem dL_latest_29 : decode cL_latest 29 = .ok (.iconst (-1), 1) := by decide +kernel
theorem dL_latest_30 : decode cL_latest 30 = .ok (.ireturn, 1) := by decide +kernel
set_option maxRecDepth 20000 in
theorem ggL_arePoses_L_latest : GoodIn wsL_arePoses wsL_latest := goodIn_r _ [5] (by decide +kernel) (by decide +kernel)
set_option maxRecDepth 20000 in
theorem gL_arePoses_L_latest : GoodIn wsL_arePoses (va_wsS RL 80 yL_latest wsL_latest) := goodIn_app (goodIn_of _ (by decide +kernel)) ggL_arePoses_L_latest
set_option maxRecDepth 20000 in
theorem ggL_arePoses_L_copy : GoodIn wsL_arePoses wsL_copy := goodIn_r _ [8] (by decide +kernel) (by decide +kernel)
set_option maxRecDepth 20000 in
theorem gL_arePoses_L_copy : GoodIn wsL_arePoses (va_wsS RL 84 yL_copy wsL_copy) := goodIn_app (goodIn_of _ (by decide +kernel)) ggL_arePoses_L_copy
set_option maxRecDepth 20000 in
theorem ggL_arePoses_L_goes : GoodIn wsL_arePoses wsL_goes := goodIn_r _ [11, 12, 13, 4, 14] (by decide +kernel) (by decide +kernel)
set_option maxRecDepth 20000 in
theorem gL_arePoses_L_goes : GoodIn wsL_arePoses (va_wsS RL 69 yL_goes wsL_goes) := goodIn_app (goodIn_of _ (by decide +kernel)) ggL_arePoses_L_goes
set_option maxRecDepth 20000 in
theorem ggL_arePoses_L_hour : GoodIn wsL_arePoses wsL_hour := goodIn_r _ [17, 9, 10, 4, 11, 12, 13, 14, 18, 19, 20, 21, 22, 23, 24] (by decide +kernel) (by decide +kernel)
set_option maxRecDepth 20000 in
theorem gL_arePoses_L_hour : GoodIn wsL_arePoses (va_wsS RL 76 yL_hour wsL_hour) := goodIn_app (goodIn_of _ (by decide +kernel)) ggL_arePoses_L_hour
set_option maxRecDepth 20000 in
theorem ggL_arePoses_X5_pose : GoodIn wsL_arePoses wsX5_pose := goodIn_ca (goodIn_ca (goodIn_r _ [29, 30, 31, 28, 32, 33, 34, 35, 36, 37, 38, 39, 40, 41, 42, 43, 44, 45, 46, 47, 48, 49, 50, 51, 52, 53, 54, 55, 56, 57, 58, 59, 60, 61, 62, 63, 64, 65, 66, 67, 68, 69, 70, 71, 72, 73, 74, 75, 76, 77, 78, 79, 80, 81, 82, 83, 84, 85, 86, 87, 88, 89, 90, 91, 92, 93, 94, 95, 96, 97, 98, 99, 100, 101, 102, 103, 104, 105, 106, 107, 108, 109, 110, 111, 112, 113, 114, 115, 116, 117, 209, 210, 211, 212, 213, 214, 215, 216, 217, 218, 219, 220, 221, 222, 223, 224, 225, 226, 227, 228, 229, 230, 231, 232, 233, 234] (by decide +kernel) (by decide +kernel)) (goodIn_sub (fun _ h => List.mem_cons_of_mem _ (List.mem_append_left _ (List.mem_append_right _ h))) (by decide +kernel))) (goodIn_sub (fun _ h => List.mem_cons_of_mem _ (List.mem_append_right _ h)) (by decide +kernel))
set_option maxRecDepth 20000 in
theorem gL_arePoses_X5_pose : GoodIn wsL_arePoses (wsV RL 50 RX5 yX5_pose wsX5_pose) := goodIn_app (goodIn_of _ (by decide +kernel)) ggL_arePoses_X5_pose
set_option maxRecDepth 20000 in
theorem ggL_arePoses_L_swing : GoodIn wsL_arePoses wsL_swing := goodIn_r _ [14] (by decide +kernel) (by decide +kernel)
set_option maxRecDepth 20000 in
theorem gL_arePoses_L_swing : GoodIn wsL_arePoses (va_wsS RL 56 yL_swing wsL_swing) := goodIn_app (goodIn_of _ (by decide +kernel)) ggL_arePoses_L_swing
set_option maxRecDepth 20000 in
theorem ggL_arePoses_L_rate : GoodIn wsL_arePoses wsL_rate := goodIn_r _ [20, 12, 13, 4, 14, 21, 22, 23, 24] (by decide +kernel) (by decide +kernel)
set_option maxRecDepth 20000 in
theorem gL_arePoses_L_rate : GoodIn wsL_arePoses (va_wsS RL 73 yL_rate wsL_rate) := goodIn_app (goodIn_of _ (by decide +kernel)) ggL_arePoses_L_rate
set_option maxRecDepth 20000 in
theorem ggL_arePoses_L_beat : GoodIn wsL_arePoses wsL_beat := goodIn_r _ [120] (by decide +kernel) (by decide +kernel)
set_option maxRecDepth 20000 in
theorem gL_arePoses_L_beat : GoodIn wsL_arePoses (va_wsS RL 66 yL_beat wsL_beat) := goodIn_app (goodIn_of _ (by decide +kernel)) ggL_arePoses_L_beat
set_option maxRecDepth 20000 in
theorem ggL_arePoses_L_why : GoodIn wsL_arePoses wsL_why := goodIn_r _ [123, 12, 13, 4, 14, 118, 119, 120] (by decide +kernel) (by decide +kernel)
set_option maxRecDepth 20000 in
theorem gL_arePoses_L_why : GoodIn wsL_arePoses (va_wsS RL 88 yL_why wsL_why) := goodIn_app (goodIn_of _ (by decide +kernel)) ggL_arePoses_L_why
set_option maxRecDepth 20000 in
theorem ggL_arePoses_X5_stopsIn : GoodIn wsL_arePoses wsX5_stopsIn := goodIn_ca (goodIn_r _ [127, 30, 31, 28, 32, 33, 34, 35, 36, 37, 128, 129, 130, 131, 132, 47, 49, 133, 134, 135, 136, 64, 137, 66, 138, 139, 140, 141, 81, 93, 71, 82, 72, 142, 143, 144, 145, 146, 147, 148, 149, 150, 151, 152, 153, 154, 155, 156, 75, 157, 158, 159, 160, 161, 83, 68, 69, 70, 73, 74, 76, 162, 78, 79, 80, 84, 62, 63, 65, 85, 86, 87, 88, 209, 210, 211, 212, 213, 214, 215, 216, 217, 218, 219, 220, 221, 224, 225, 226, 227, 228, 229, 230, 231, 232, 233, 234] (by decide +kernel) (by decide +kernel)) (goodIn_sub (fun _ h => List.mem_cons_of_mem _ (List.mem_append_left _ (List.mem_append_right _ h))) (by decide +kernel))
set_option maxRecDepth 20000 in
theorem gL_arePoses_X5_stopsIn : GoodIn wsL_arePoses (wsV RL 91 RX5 yX5_stopsIn wsX5_stopsIn) := goodIn_app (goodIn_of _ (by decide +kernel)) ggL_arePoses_X5_stopsIn
set_option maxRecDepth 20000 in
theorem ggL_arePoses_L_down : GoodIn wsL_arePoses wsL_down := goodIn_r _ [23, 24] (by decide +kernel) (by decide +kernel)
set_option maxRecDepth 20000 in
theorem gL_arePoses_L_down : GoodIn wsL_arePoses (va_wsS RL 63 yL_down wsL_down) := goodIn_app (goodIn_of _ (by decide +kernel)) ggL_arePoses_L_down
set_option maxRecDepth 20000 in
theorem ggL_arePoses_X5_count : GoodIn wsL_arePoses wsX5_count := goodIn_ca (goodIn_r _ [166, 38, 39, 28, 40, 41, 42, 167, 168, 169, 170, 47, 49, 171, 172, 173, 174, 175, 176, 133, 177, 178, 179, 48, 180, 181, 182, 183, 184, 185, 186, 159, 160, 64, 161, 71, 142, 83, 68, 69, 70, 72, 73, 74, 75, 76, 187, 188, 189, 100, 190, 106, 191, 192, 193, 194, 195, 196, 197, 156, 157, 198, 102, 199, 104, 200, 51, 52, 53, 54, 55, 56, 57, 58, 59, 60, 201, 202, 86, 87, 88, 203, 204, 205, 206, 207, 208, 209, 210, 211, 212, 213, 214, 215, 216, 217, 218, 219, 220, 221, 224, 225, 226, 227, 228, 229, 230, 231, 232, 233, 234, 222, 223, 235, 236, 237] (by decide +kernel) (by decide +kernel)) (goodIn_sub (fun _ h => List.mem_cons_of_mem _ (List.mem_append_right _ h)) (by decide +kernel))
set_option maxRecDepth 20000 in
theorem gL_arePoses_X5_count : GoodIn wsL_arePoses (wsV RL 94 RX5 yX5_count wsX5_count) := goodIn_app (goodIn_of _ (by decide +kernel)) ggL_arePoses_X5_count
theorem dL_arePoses_0 : decode cL_arePoses 0 = .ok (.iconst 0, 1) := by decide +kernel
theorem dL_arePoses_1 : decode cL_arePoses 1 = .ok (.istore 4, 2) := by decide +kernel
theorem dL_arePoses_3 : decode cL_arePoses 3 = .ok (.iconst 0, 1) := by decide +kernel
theorem dL_arePoses_4 : decode cL_arePoses 4 = .ok (.istore 5, 2) := by decide +kernel
theorem dL_arePoses_6 : decode cL_arePoses 6 = .ok (.iconst 0, 1) := by decide +kernel
theorem dL_arePoses_7 : decode cL_arePoses 7 = .ok (.istore 6, 2) := by decide +kernel
theorem dL_arePoses_9 : decode cL_arePoses 9 = .ok (.iconst 0, 1) := by decide +kernel
theorem dL_arePoses_10 : decode cL_arePoses 10 = .ok (.istore 7, 2) := by decide +kernel
theorem dL_arePoses_12 : decode cL_arePoses 12 = .ok (.iconst 0, 1) := by decide +kernel
theorem dL_arePoses_13 : decode cL_arePoses 13 = .ok (.istore 8, 2) := by decide +kernel
theorem dL_arePoses_15 : decode cL_arePoses 15 = .ok (.bipush 22, 2) := by decide +kernel
theorem dL_arePoses_17 : decode cL_arePoses 17 = .ok (.newarray .int, 2) := by decide +kernel
theorem dL_arePoses_19 : decode cL_arePoses 19 = .ok (.astore 9, 2) := by decide +kernel
theorem dL_arePoses_21 : decode cL_arePoses 21 = .ok (.iconst 0, 1) := by decide +kernel
theorem dL_arePoses_22 : decode cL_arePoses 22 = .ok (.istore 10, 2) := by decide +kernel
theorem dL_arePoses_24 : decode cL_arePoses 24 = .ok (.iload 10, 2) := by decide +kernel
theorem dL_arePoses_26 : decode cL_arePoses 26 = .ok (.bipush 6, 2) := by decide +kernel
theorem dL_arePoses_28 : decode cL_arePoses 28 = .ok (.if_icmp .ge 366, 3) := by decide +kernel
theorem dL_arePoses_31 : decode cL_arePoses 31 = .ok (.aload_n 1, 1) := by decide +kernel
theorem dL_arePoses_32 : decode cL_arePoses 32 = .ok (.aload_n 2, 1) := by decide +kernel
theorem dL_arePoses_33 : decode cL_arePoses 33 = .ok (.iload 10, 2) := by decide +kernel
theorem dL_arePoses_35 : decode cL_arePoses 35 = .ok (.invokestatic 80, 3) := by decide +kernel
theorem dL_arePoses_38 : decode cL_arePoses 38 = .ok (.istore 11, 2) := by decide +kernel
theorem dL_arePoses_40 : decode cL_arePoses 40 = .ok (.iconst 0, 1) := by decide +kernel
theorem dL_arePoses_41 : decode cL_arePoses 41 = .ok (.istore 12, 2) := by decide +kernel
theorem dL_arePoses_43 : decode cL_arePoses 43 = .ok (.iconst 0, 1) := by decide +kernel
theorem dL_arePoses_44 : decode cL_arePoses 44 = .ok (.istore 13, 2) := by decide +kernel
theorem dL_arePoses_46 : decode cL_arePoses 46 = .ok (.iload 13, 2) := by decide +kernel
theorem dL_arePoses_48 : decode cL_arePoses 48 = .ok (.aload_n 1, 1) := by decide +kernel
theorem dL_arePoses_49 : decode cL_arePoses 49 = .ok (.bipush 10, 2) := by decide +kernel
theorem dL_arePoses_51 : decode cL_arePoses 51 = .ok (.iaload, 1) := by decide +kernel
theorem dL_arePoses_52 : decode cL_arePoses 52 = .ok (.if_icmp .ge 31, 3) := by decide +kernel
theorem dL_arePoses_55 : decode cL_arePoses 55 = .ok (.iload 12, 2) := by decide +kernel
theorem dL_arePoses_57 : decode cL_arePoses 57 = .ok (.aload_n 2, 1) := by decide +kernel
theorem dL_arePoses_58 : decode cL_arePoses 58 = .ok (.iload 13, 2) := by decide +kernel
theorem dL_arePoses_60 : decode cL_arePoses 60 = .ok (.iaload, 1) := by decide +kernel
theorem dL_arePoses_61 : decode cL_arePoses 61 = .ok (.bipush 100, 2) := by decide +kernel
theorem dL_arePoses_63 : decode cL_arePoses 63 = .ok (.irem, 1) := by decide +kernel
theorem dL_arePoses_64 : decode cL_arePoses 64 = .ok (.iload 10, 2) := by decide +kernel
theorem dL_arePoses_66 : decode cL_arePoses 66 = .ok (.if_icmp .ne 7, 3) := by decide +kernel
theorem dL_arePoses_69 : decode cL_arePoses 69 = .ok (.iconst 1, 1) := by decide +kernel
theorem dL_arePoses_70 : decode cL_arePoses 70 = .ok (.goto 4, 3) := by decide +kernel
theorem dL_arePoses_73 : decode cL_arePoses 73 = .ok (.iconst 0, 1) := by decide +kernel
theorem dL_arePoses_74 : decode cL_arePoses 74 = .ok (.iadd, 1) := by decide +kernel
theorem dL_arePoses_75 : decode cL_arePoses 75 = .ok (.istore 12, 2) := by decide +kernel
theorem dL_arePoses_77 : decode cL_arePoses 77 = .ok (.iinc 13 1, 3) := by decide +kernel
theorem dL_arePoses_80 : decode cL_arePoses 80 = .ok (.goto (-34), 3) := by decide +kernel
theorem dL_arePoses_83 : decode cL_arePoses 83 = .ok (.aload_n 1, 1) := by decide +kernel
theorem dL_arePoses_84 : decode cL_arePoses 84 = .ok (.aload 9, 2) := by decide +kernel
theorem dL_arePoses_86 : decode cL_arePoses 86 = .ok (.invokestatic 84, 3) := by decide +kernel
theorem dL_arePoses_89 : decode cL_arePoses 89 = .ok (.aload 9, 2) := by decide +kernel
theorem dL_arePoses_91 : decode cL_arePoses 91 = .ok (.bipush 6, 2) := by decide +kernel
theorem dL_arePoses_93 : decode cL_arePoses 93 = .ok (.iload 10, 2) := by decide +kernel
theorem dL_arePoses_95 : decode cL_arePoses 95 = .ok (.iastore, 1) := by decide +kernel
theorem dL_arePoses_96 : decode cL_arePoses 96 = .ok (.iconst 0, 1) := by decide +kernel
theorem dL_arePoses_97 : decode cL_arePoses 97 = .ok (.istore 13, 2) := by decide +kernel
theorem dL_arePoses_99 : decode cL_arePoses 99 = .ok (.aload 9, 2) := by decide +kernel
theorem dL_arePoses_101 : decode cL_arePoses 101 = .ok (.iload 10, 2) := by decide +kernel
theorem dL_arePoses_103 : decode cL_arePoses 103 = .ok (.invokestatic 69, 3) := by decide +kernel
theorem dL_arePoses_106 : decode cL_arePoses 106 = .ok (.ifCond .eq 14, 3) := by decide +kernel
theorem dL_arePoses_109 : decode cL_arePoses 109 = .ok (.aload 9, 2) := by decide +kernel
theorem dL_arePoses_111 : decode cL_arePoses 111 = .ok (.invokestatic 76, 3) := by decide +kernel
theorem dL_arePoses_114 : decode cL_arePoses 114 = .ok (.iinc 13 1, 3) := by decide +kernel
theorem dL_arePoses_117 : decode cL_arePoses 117 = .ok (.goto (-18), 3) := by decide +kernel
theorem dL_arePoses_120 : decode cL_arePoses 120 = .ok (.aload_n 0, 1) := by decide +kernel
theorem dL_arePoses_121 : decode cL_arePoses 121 = .ok (.iload 10, 2) := by decide +kernel
theorem dL_arePoses_123 : decode cL_arePoses 123 = .ok (.iconst 0, 1) := by decide +kernel
theorem dL_arePoses_124 : decode cL_arePoses 124 = .ok (.invokevirtual 50, 3) := by decide +kernel
theorem dL_arePoses_127 : decode cL_arePoses 127 = .ok (.aload_n 1, 1) := by decide +kernel
theorem dL_arePoses_128 : decode cL_arePoses 128 = .ok (.bipush 16, 2) := by decide +kernel
theorem dL_arePoses_130 : decode cL_arePoses 130 = .ok (.iload 10, 2) := by decide +kernel
theorem dL_arePoses_132 : decode cL_arePoses 132 = .ok (.iadd, 1) := by decide +kernel
theorem dL_arePoses_133 : decode cL_arePoses 133 = .ok (.iaload, 1) := by decide +kernel
theorem dL_arePoses_134 : decode cL_arePoses 134 = .ok (.bipush 100, 2) := by decide +kernel
theorem dL_arePoses_136 : decode cL_arePoses 136 = .ok (.iadd, 1) := by decide +kernel
theorem dL_arePoses_137 : decode cL_arePoses 137 = .ok (.if_icmp .ne 149, 3) := by decide +kernel
theorem dL_arePoses_140 : decode cL_arePoses 140 = .ok (.aload_n 0, 1) := by decide +kernel
theorem dL_arePoses_141 : decode cL_arePoses 141 = .ok (.iload 10, 2) := by decide +kernel
theorem dL_arePoses_143 : decode cL_arePoses 143 = .ok (.iconst 1, 1) := by decide +kernel
theorem dL_arePoses_144 : decode cL_arePoses 144 = .ok (.invokevirtual 50, 3) := by decide +kernel
theorem dL_arePoses_147 : decode cL_arePoses 147 = .ok (.aload_n 1, 1) := by decide +kernel
theorem dL_arePoses_148 : decode cL_arePoses 148 = .ok (.iload 10, 2) := by decide +kernel
theorem dL_arePoses_150 : decode cL_arePoses 150 = .ok (.invokestatic 56, 3) := by decide +kernel
theorem dL_arePoses_153 : decode cL_arePoses 153 = .ok (.if_icmp .ne 133, 3) := by decide +kernel
theorem dL_arePoses_156 : decode cL_arePoses 156 = .ok (.aload_n 0, 1) := by decide +kernel
theorem dL_arePoses_157 : decode cL_arePoses 157 = .ok (.iload 10, 2) := by decide +kernel
theorem dL_arePoses_159 : decode cL_arePoses 159 = .ok (.iconst 2, 1) := by decide +kernel
theorem dL_arePoses_160 : decode cL_arePoses 160 = .ok (.invokevirtual 50, 3) := by decide +kernel
theorem dL_arePoses_163 : decode cL_arePoses 163 = .ok (.aload_n 1, 1) := by decide +kernel
theorem dL_arePoses_164 : decode cL_arePoses 164 = .ok (.iload 10, 2) := by decide +kernel
theorem dL_arePoses_166 : decode cL_arePoses 166 = .ok (.invokestatic 73, 3) := by decide +kernel
theorem dL_arePoses_169 : decode cL_arePoses 169 = .ok (.sipush 10000, 3) := by decide +kernel
theorem dL_arePoses_172 : decode cL_arePoses 172 = .ok (.iadd, 1) := by decide +kernel
theorem dL_arePoses_173 : decode cL_arePoses 173 = .ok (.if_icmp .ne 113, 3) := by decide +kernel
theorem dL_arePoses_176 : decode cL_arePoses 176 = .ok (.aload_n 0, 1) := by decide +kernel
theorem dL_arePoses_177 : decode cL_arePoses 177 = .ok (.iload 10, 2) := by decide +kernel
theorem dL_arePoses_179 : decode cL_arePoses 179 = .ok (.iconst 3, 1) := by decide +kernel
theorem dL_arePoses_180 : decode cL_arePoses 180 = .ok (.invokevirtual 50, 3) := by decide +kernel
theorem dL_arePoses_183 : decode cL_arePoses 183 = .ok (.aload_n 1, 1) := by decide +kernel
theorem dL_arePoses_184 : decode cL_arePoses 184 = .ok (.iload 10, 2) := by decide +kernel
theorem dL_arePoses_186 : decode cL_arePoses 186 = .ok (.invokestatic 66, 3) := by decide +kernel
theorem dL_arePoses_189 : decode cL_arePoses 189 = .ok (.if_icmp .ne 97, 3) := by decide +kernel
theorem dL_arePoses_192 : decode cL_arePoses 192 = .ok (.aload_n 0, 1) := by decide +kernel
theorem dL_arePoses_193 : decode cL_arePoses 193 = .ok (.iload 10, 2) := by decide +kernel
theorem dL_arePoses_195 : decode cL_arePoses 195 = .ok (.iconst 4, 1) := by decide +kernel
theorem dL_arePoses_196 : decode cL_arePoses 196 = .ok (.invokevirtual 50, 3) := by decide +kernel
theorem dL_arePoses_199 : decode cL_arePoses 199 = .ok (.aload_n 1, 1) := by decide +kernel
theorem dL_arePoses_200 : decode cL_arePoses 200 = .ok (.iload 10, 2) := by decide +kernel
theorem dL_arePoses_202 : decode cL_arePoses 202 = .ok (.invokestatic 88, 3) := by decide +kernel
theorem dL_arePoses_205 : decode cL_arePoses 205 = .ok (.if_icmp .ne 81, 3) := by decide +kernel
theorem dL_arePoses_208 : decode cL_arePoses 208 = .ok (.aload_n 0, 1) := by decide +kernel
theorem dL_arePoses_209 : decode cL_arePoses 209 = .ok (.iload 10, 2) := by decide +kernel
theorem dL_arePoses_211 : decode cL_arePoses 211 = .ok (.iconst 5, 1) := by decide +kernel
theorem dL_arePoses_212 : decode cL_arePoses 212 = .ok (.invokevirtual 50, 3) := by decide +kernel
theorem dL_arePoses_215 : decode cL_arePoses 215 = .ok (.iload 11, 2) := by decide +kernel
theorem dL_arePoses_217 : decode cL_arePoses 217 = .ok (.ifCond .ge 7, 3) := by decide +kernel
theorem dL_arePoses_220 : decode cL_arePoses 220 = .ok (.iconst (-1), 1) := by decide +kernel
theorem dL_arePoses_221 : decode cL_arePoses 221 = .ok (.goto 10, 3) := by decide +kernel
theorem dL_arePoses_224 : decode cL_arePoses 224 = .ok (.aload_n 2, 1) := by decide +kernel
theorem dL_arePoses_225 : decode cL_arePoses 225 = .ok (.iload 11, 2) := by decide +kernel
theorem dL_arePoses_227 : decode cL_arePoses 227 = .ok (.iaload, 1) := by decide +kernel
theorem dL_arePoses_228 : decode cL_arePoses 228 = .ok (.bipush 100, 2) := by decide +kernel
theorem dL_arePoses_230 : decode cL_arePoses 230 = .ok (.idiv, 1) := by decide +kernel
theorem dL_arePoses_231 : decode cL_arePoses 231 = .ok (.if_icmp .ne 55, 3) := by decide +kernel
theorem dL_arePoses_234 : decode cL_arePoses 234 = .ok (.aload_n 0, 1) := by decide +kernel
theorem dL_arePoses_235 : decode cL_arePoses 235 = .ok (.iload 10, 2) := by decide +kernel
theorem dL_arePoses_237 : decode cL_arePoses 237 = .ok (.bipush 6, 2) := by decide +kernel
theorem dL_arePoses_239 : decode cL_arePoses 239 = .ok (.invokevirtual 50, 3) := by decide +kernel
theorem dL_arePoses_242 : decode cL_arePoses 242 = .ok (.iload 11, 2) := by decide +kernel
theorem dL_arePoses_244 : decode cL_arePoses 244 = .ok (.ifCond .ge 7, 3) := by decide +kernel
theorem dL_arePoses_247 : decode cL_arePoses 247 = .ok (.iconst (-1), 1) := by decide +kernel
theorem dL_arePoses_248 : decode cL_arePoses 248 = .ok (.goto 11, 3) := by decide +kernel
theorem dL_arePoses_251 : decode cL_arePoses 251 = .ok (.aload_n 3, 1) := by decide +kernel
theorem dL_arePoses_252 : decode cL_arePoses 252 = .ok (.iload 11, 2) := by decide +kernel
theorem dL_arePoses_254 : decode cL_arePoses 254 = .ok (.iaload, 1) := by decide +kernel
theorem dL_arePoses_255 : decode cL_arePoses 255 = .ok (.sipush 10000, 3) := by decide +kernel
theorem dL_arePoses_258 : decode cL_arePoses 258 = .ok (.iadd, 1) := by decide +kernel
theorem dL_arePoses_259 : decode cL_arePoses 259 = .ok (.if_icmp .ne 27, 3) := by decide +kernel
theorem dL_arePoses_262 : decode cL_arePoses 262 = .ok (.aload_n 0, 1) := by decide +kernel
theorem dL_arePoses_263 : decode cL_arePoses 263 = .ok (.iload 10, 2) := by decide +kernel
theorem dL_arePoses_265 : decode cL_arePoses 265 = .ok (.bipush 7, 2) := by decide +kernel
theorem dL_arePoses_267 : decode cL_arePoses 267 = .ok (.invokevirtual 50, 3) := by decide +kernel
theorem dL_arePoses_270 : decode cL_arePoses 270 = .ok (.iload 12, 2) := by decide +kernel
theorem dL_arePoses_272 : decode cL_arePoses 272 = .ok (.if_icmp .ne 14, 3) := by decide +kernel
theorem dL_arePoses_275 : decode cL_arePoses 275 = .ok (.aload_n 0, 1) := by decide +kernel
theorem dL_arePoses_276 : decode cL_arePoses 276 = .ok (.iload 10, 2) := by decide +kernel
theorem dL_arePoses_278 : decode cL_arePoses 278 = .ok (.invokevirtual 91, 3) := by decide +kernel
theorem dL_arePoses_281 : decode cL_arePoses 281 = .ok (.iload 13, 2) := by decide +kernel
theorem dL_arePoses_283 : decode cL_arePoses 283 = .ok (.if_icmp .eq 5, 3) := by decide +kernel
theorem dL_arePoses_286 : decode cL_arePoses 286 = .ok (.iconst 0, 1) := by decide +kernel
theorem dL_arePoses_287 : decode cL_arePoses 287 = .ok (.ireturn, 1) := by decide +kernel
theorem dL_arePoses_288 : decode cL_arePoses 288 = .ok (.iload 11, 2) := by decide +kernel
theorem dL_arePoses_290 : decode cL_arePoses 290 = .ok (.ifCond .ge 6, 3) := by decide +kernel
theorem dL_arePoses_293 : decode cL_arePoses 293 = .ok (.goto 95, 3) := by decide +kernel
theorem dL_arePoses_296 : decode cL_arePoses 296 = .ok (.iload 4, 2) := by decide +kernel
theorem dL_arePoses_298 : decode cL_arePoses 298 = .ok (.ifCond .eq 12, 3) := by decide +kernel
theorem dL_arePoses_301 : decode cL_arePoses 301 = .ok (.aload_n 3, 1) := by decide +kernel
theorem dL_arePoses_302 : decode cL_arePoses 302 = .ok (.iload 11, 2) := by decide +kernel
theorem dL_arePoses_304 : decode cL_arePoses 304 = .ok (.iaload, 1) := by decide +kernel
theorem dL_arePoses_305 : decode cL_arePoses 305 = .ok (.iload 6, 2) := by decide +kernel
theorem dL_arePoses_307 : decode cL_arePoses 307 = .ok (.if_icmp .ge 10, 3) := by decide +kernel
theorem dL_arePoses_310 : decode cL_arePoses 310 = .ok (.aload_n 3, 1) := by decide +kernel
theorem dL_arePoses_311 : decode cL_arePoses 311 = .ok (.iload 11, 2) := by decide +kernel
theorem dL_arePoses_313 : decode cL_arePoses 313 = .ok (.iaload, 1) := by decide +kernel
theorem dL_arePoses_314 : decode cL_arePoses 314 = .ok (.goto 5, 3) := by decide +kernel
theorem dL_arePoses_317 : decode cL_arePoses 317 = .ok (.iload 6, 2) := by decide +kernel
theorem dL_arePoses_319 : decode cL_arePoses 319 = .ok (.istore 6, 2) := by decide +kernel
theorem dL_arePoses_321 : decode cL_arePoses 321 = .ok (.iload 4, 2) := by decide +kernel
theorem dL_arePoses_323 : decode cL_arePoses 323 = .ok (.ifCond .eq 12, 3) := by decide +kernel
theorem dL_arePoses_326 : decode cL_arePoses 326 = .ok (.aload_n 3, 1) := by decide +kernel
theorem dL_arePoses_327 : decode cL_arePoses 327 = .ok (.iload 11, 2) := by decide +kernel
theorem dL_arePoses_329 : decode cL_arePoses 329 = .ok (.iaload, 1) := by decide +kernel
theorem dL_arePoses_330 : decode cL_arePoses 330 = .ok (.iload 7, 2) := by decide +kernel
theorem dL_arePoses_332 : decode cL_arePoses 332 = .ok (.if_icmp .le 10, 3) := by decide +kernel
theorem dL_arePoses_335 : decode cL_arePoses 335 = .ok (.aload_n 3, 1) := by decide +kernel
theorem dL_arePoses_336 : decode cL_arePoses 336 = .ok (.iload 11, 2) := by decide +kernel
theorem dL_arePoses_338 : decode cL_arePoses 338 = .ok (.iaload, 1) := by decide +kernel
theorem dL_arePoses_339 : decode cL_arePoses 339 = .ok (.goto 5, 3) := by decide +kernel
theorem dL_arePoses_342 : decode cL_arePoses 342 = .ok (.iload 7, 2) := by decide +kernel
theorem dL_arePoses_344 : decode cL_arePoses 344 = .ok (.istore 7, 2) := by decide +kernel
theorem dL_arePoses_346 : decode cL_arePoses 346 = .ok (.iload 5, 2) := by decide +kernel
theorem dL_arePoses_348 : decode cL_arePoses 348 = .ok (.aload_n 3, 1) := by decide +kernel
theorem dL_arePoses_349 : decode cL_arePoses 349 = .ok (.iload 11, 2) := by decide +kernel
theorem dL_arePoses_351 : decode cL_arePoses 351 = .ok (.iaload, 1) := by decide +kernel
theorem dL_arePoses_352 : decode cL_arePoses 352 = .ok (.iadd, 1) := by decide +kernel
theorem dL_arePoses_353 : decode cL_arePoses 353 = .ok (.istore 5, 2) := by decide +kernel
theorem dL_arePoses_355 : decode cL_arePoses 355 = .ok (.iload 8, 2) := by decide +kernel
theorem dL_arePoses_357 : decode cL_arePoses 357 = .ok (.ifCond .ne 21, 3) := by decide +kernel
theorem dL_arePoses_360 : decode cL_arePoses 360 = .ok (.aload_n 1, 1) := by decide +kernel
theorem dL_arePoses_361 : decode cL_arePoses 361 = .ok (.iconst 0, 1) := by decide +kernel
theorem dL_arePoses_362 : decode cL_arePoses 362 = .ok (.iaload, 1) := by decide +kernel
theorem dL_arePoses_363 : decode cL_arePoses 363 = .ok (.aload_n 2, 1) := by decide +kernel
theorem dL_arePoses_364 : decode cL_arePoses 364 = .ok (.iload 11, 2) := by decide +kernel
theorem dL_arePoses_366 : decode cL_arePoses 366 = .ok (.iaload, 1) := by decide +kernel
theorem dL_arePoses_367 : decode cL_arePoses 367 = .ok (.bipush 100, 2) := by decide +kernel
theorem dL_arePoses_369 : decode cL_arePoses 369 = .ok (.idiv, 1) := by decide +kernel
theorem dL_arePoses_370 : decode cL_arePoses 370 = .ok (.aload_n 1, 1) := by decide +kernel
theorem dL_arePoses_371 : decode cL_arePoses 371 = .ok (.bipush 14, 2) := by decide +kernel
theorem dL_arePoses_373 : decode cL_arePoses 373 = .ok (.iaload, 1) := by decide +kernel
theorem dL_arePoses_374 : decode cL_arePoses 374 = .ok (.iadd, 1) := by decide +kernel
end
section
theorem dL_arePoses_375 : decode cL_arePoses 375 = .ok (.if_icmp .le 7, 3) := by decide +kernel
theorem dL_arePoses_378 : decode cL_arePoses 378 = .ok (.iconst 1, 1) := by decide +kernel
theorem dL_arePoses_379 : decode cL_arePoses 379 = .ok (.goto 4, 3) := by decide +kernel
theorem dL_arePoses_382 : decode cL_arePoses 382 = .ok (.iconst 0, 1) := by decide +kernel
theorem dL_arePoses_383 : decode cL_arePoses 383 = .ok (.istore 8, 2) := by decide +kernel
theorem dL_arePoses_385 : decode cL_arePoses 385 = .ok (.iinc 4 1, 3) := by decide +kernel
theorem dL_arePoses_388 : decode cL_arePoses 388 = .ok (.iinc 10 1, 3) := by decide +kernel
theorem dL_arePoses_391 : decode cL_arePoses 391 = .ok (.goto (-367), 3) := by decide +kernel
theorem dL_arePoses_394 : decode cL_arePoses 394 = .ok (.iload 4, 2) := by decide +kernel
theorem dL_arePoses_396 : decode cL_arePoses 396 = .ok (.bipush 6, 2) := by decide +kernel
theorem dL_arePoses_398 : decode cL_arePoses 398 = .ok (.if_icmp .ge 8, 3) := by decide +kernel
theorem dL_arePoses_401 : decode cL_arePoses 401 = .ok (.bipush 6, 2) := by decide +kernel
theorem dL_arePoses_403 : decode cL_arePoses 403 = .ok (.goto 31, 3) := by decide +kernel
theorem dL_arePoses_406 : decode cL_arePoses 406 = .ok (.iload 8, 2) := by decide +kernel
theorem dL_arePoses_408 : decode cL_arePoses 408 = .ok (.ifCond .eq 8, 3) := by decide +kernel
theorem dL_arePoses_411 : decode cL_arePoses 411 = .ok (.bipush 7, 2) := by decide +kernel
theorem dL_arePoses_413 : decode cL_arePoses 413 = .ok (.goto 21, 3) := by decide +kernel
theorem dL_arePoses_416 : decode cL_arePoses 416 = .ok (.iload 7, 2) := by decide +kernel
theorem dL_arePoses_418 : decode cL_arePoses 418 = .ok (.iload 6, 2) := by decide +kernel
theorem dL_arePoses_420 : decode cL_arePoses 420 = .ok (.isub, 1) := by decide +kernel
theorem dL_arePoses_421 : decode cL_arePoses 421 = .ok (.aload_n 1, 1) := by decide +kernel
theorem dL_arePoses_422 : decode cL_arePoses 422 = .ok (.bipush 15, 2) := by decide +kernel
theorem dL_arePoses_424 : decode cL_arePoses 424 = .ok (.iaload, 1) := by decide +kernel
theorem dL_arePoses_425 : decode cL_arePoses 425 = .ok (.if_icmp .le 8, 3) := by decide +kernel
theorem dL_arePoses_428 : decode cL_arePoses 428 = .ok (.bipush 8, 2) := by decide +kernel
theorem dL_arePoses_430 : decode cL_arePoses 430 = .ok (.goto 4, 3) := by decide +kernel
theorem dL_arePoses_433 : decode cL_arePoses 433 = .ok (.iconst 0, 1) := by decide +kernel
theorem dL_arePoses_434 : decode cL_arePoses 434 = .ok (.istore 10, 2) := by decide +kernel
theorem dL_arePoses_436 : decode cL_arePoses 436 = .ok (.iload 10, 2) := by decide +kernel
theorem dL_arePoses_438 : decode cL_arePoses 438 = .ok (.ifCond .le 7, 3) := by decide +kernel
theorem dL_arePoses_441 : decode cL_arePoses 441 = .ok (.iconst (-1), 1) := by decide +kernel
theorem dL_arePoses_442 : decode cL_arePoses 442 = .ok (.goto 14, 3) := by decide +kernel
theorem dL_arePoses_445 : decode cL_arePoses 445 = .ok (.iload 5, 2) := by decide +kernel
theorem dL_arePoses_447 : decode cL_arePoses 447 = .ok (.bipush 6, 2) := by decide +kernel
theorem dL_arePoses_449 : decode cL_arePoses 449 = .ok (.invokestatic 63, 3) := by decide +kernel
theorem dL_arePoses_452 : decode cL_arePoses 452 = .ok (.sipush 10000, 3) := by decide +kernel
theorem dL_arePoses_455 : decode cL_arePoses 455 = .ok (.iadd, 1) := by decide +kernel
theorem dL_arePoses_456 : decode cL_arePoses 456 = .ok (.istore 11, 2) := by decide +kernel
theorem dL_arePoses_458 : decode cL_arePoses 458 = .ok (.aload_n 0, 1) := by decide +kernel
theorem dL_arePoses_459 : decode cL_arePoses 459 = .ok (.bipush 12, 2) := by decide +kernel
theorem dL_arePoses_461 : decode cL_arePoses 461 = .ok (.invokevirtual 94, 3) := by decide +kernel
theorem dL_arePoses_464 : decode cL_arePoses 464 = .ok (.iload 11, 2) := by decide +kernel
theorem dL_arePoses_466 : decode cL_arePoses 466 = .ok (.if_icmp .ne 29, 3) := by decide +kernel
theorem dL_arePoses_469 : decode cL_arePoses 469 = .ok (.aload_n 0, 1) := by decide +kernel
theorem dL_arePoses_470 : decode cL_arePoses 470 = .ok (.bipush 13, 2) := by decide +kernel
theorem dL_arePoses_472 : decode cL_arePoses 472 = .ok (.invokevirtual 94, 3) := by decide +kernel
theorem dL_arePoses_475 : decode cL_arePoses 475 = .ok (.iload 11, 2) := by decide +kernel
theorem dL_arePoses_477 : decode cL_arePoses 477 = .ok (.if_icmp .ne 18, 3) := by decide +kernel
theorem dL_arePoses_480 : decode cL_arePoses 480 = .ok (.aload_n 0, 1) := by decide +kernel
theorem dL_arePoses_481 : decode cL_arePoses 481 = .ok (.bipush 14, 2) := by decide +kernel
theorem dL_arePoses_483 : decode cL_arePoses 483 = .ok (.invokevirtual 94, 3) := by decide +kernel
theorem dL_arePoses_486 : decode cL_arePoses 486 = .ok (.iload 10, 2) := by decide +kernel
theorem dL_arePoses_488 : decode cL_arePoses 488 = .ok (.if_icmp .ne 7, 3) := by decide +kernel
theorem dL_arePoses_491 : decode cL_arePoses 491 = .ok (.iconst 1, 1) := by decide +kernel
theorem dL_arePoses_492 : decode cL_arePoses 492 = .ok (.goto 4, 3) := by decide +kernel
theorem dL_arePoses_495 : decode cL_arePoses 495 = .ok (.iconst 0, 1) := by decide +kernel
theorem dL_arePoses_496 : decode cL_arePoses 496 = .ok (.ireturn, 1) := by decide +kernel
set_option maxRecDepth 20000 in
theorem ggL_isAhead_L_copy : GoodIn wsL_isAhead wsL_copy := goodIn_r _ [6] (by decide +kernel) (by decide +kernel)
set_option maxRecDepth 20000 in
theorem gL_isAhead_L_copy : GoodIn wsL_isAhead (va_wsS RL 84 yL_copy wsL_copy) := goodIn_app (goodIn_of _ (by decide +kernel)) ggL_isAhead_L_copy
set_option maxRecDepth 20000 in
theorem ggL_isAhead_L_low : GoodIn wsL_isAhead wsL_low := goodIn_r _ [9, 10] (by decide +kernel) (by decide +kernel)
set_option maxRecDepth 20000 in
theorem gL_isAhead_L_low : GoodIn wsL_isAhead (va_wsS RL 97 yL_low wsL_low) := goodIn_app (goodIn_of _ (by decide +kernel)) ggL_isAhead_L_low
set_option maxRecDepth 20000 in
theorem ggL_isAhead_L_hours : GoodIn wsL_isAhead wsL_hours := goodIn_r _ [13, 14, 15, 5, 16, 17, 18, 19, 20, 21, 22, 23, 24, 25, 26, 27, 28, 2] (by decide +kernel) (by decide +kernel)
set_option maxRecDepth 20000 in
theorem gL_isAhead_L_hours : GoodIn wsL_isAhead (va_wsS RL 100 yL_hours wsL_hours) := goodIn_app (goodIn_of _ (by decide +kernel)) ggL_isAhead_L_hours
set_option maxRecDepth 20000 in
theorem ggL_isAhead_X5_ifWorn : GoodIn wsL_isAhead wsX5_ifWorn := goodIn_ca (goodIn_ca (goodIn_r _ [33, 34, 35, 32, 36, 37, 38, 39, 40, 41, 42, 43, 44, 45, 46, 47, 48, 49, 50, 51, 52, 53, 54, 55, 56, 57, 58, 59, 60, 61, 62, 63, 64, 65, 66, 67, 68, 69, 70, 71, 72, 73, 74, 75, 76, 77, 78, 79, 80, 81, 82, 83, 84, 85, 86, 87, 88, 89, 90, 91, 92, 93, 94, 95, 96, 97, 98, 99, 100, 101, 102, 103, 104, 105, 106, 107, 108, 109, 110, 111, 126, 127, 128, 129, 130, 131, 132, 133, 134, 135, 136, 137, 138, 139, 140, 141, 142, 143, 144, 145, 146, 147, 148, 149] (by decide +kernel) (by decide +kernel)) (goodIn_sub (fun _ h => List.mem_cons_of_mem _ (List.mem_append_left _ (List.mem_append_right _ h))) (by decide +kernel))) (goodIn_sub (fun _ h => List.mem_cons_of_mem _ (List.mem_append_right _ h)) (by decide +kernel))
set_option maxRecDepth 20000 in
theorem gL_isAhead_X5_ifWorn : GoodIn wsL_isAhead (wsV RL 103 RX5 yX5_ifWorn wsX5_ifWorn) := goodIn_app (goodIn_of _ (by decide +kernel)) ggL_isAhead_X5_ifWorn
set_option maxRecDepth 20000 in
theorem ggL_isAhead_L_rate : GoodIn wsL_isAhead wsL_rate := goodIn_r _ [25, 20, 21, 5, 22, 26, 27, 28, 2] (by decide +kernel) (by decide +kernel)
set_option maxRecDepth 20000 in
theorem gL_isAhead_L_rate : GoodIn wsL_isAhead (va_wsS RL 73 yL_rate wsL_rate) := goodIn_app (goodIn_of _ (by decide +kernel)) ggL_isAhead_L_rate
set_option maxRecDepth 20000 in
theorem ggL_isAhead_X5_nightPose : GoodIn wsL_isAhead wsX5_nightPose := goodIn_r _ [115, 116, 51, 52, 53, 54, 55, 117, 118, 87, 119, 57, 58, 59, 60, 61, 62, 63, 64, 65, 66, 67, 68, 69, 70, 71, 72, 73, 74, 75, 76, 77, 78, 79, 80, 81, 82, 83, 84, 85, 86, 88, 89, 90, 91, 92, 93, 94, 95, 96, 97, 98, 99, 100, 101, 102, 103, 104, 105, 106, 107, 40, 32, 41, 108, 109, 110, 111, 126, 127, 128, 129, 130, 131, 132, 133, 134, 135, 136, 137, 138, 139, 140, 141, 142, 143, 144, 145, 146, 147, 148, 149] (by decide +kernel) (by decide +kernel)
set_option maxRecDepth 20000 in
theorem gL_isAhead_X5_nightPose : GoodIn wsL_isAhead (wsV RL 107 RX5 yX5_nightPose wsX5_nightPose) := goodIn_app (goodIn_of _ (by decide +kernel)) ggL_isAhead_X5_nightPose
set_option maxRecDepth 20000 in
theorem ggL_isAhead_X5_bestRegulator : GoodIn wsL_isAhead wsX5_bestRegulator := goodIn_r _ [123, 52, 53, 124, 117, 118, 87, 119, 125, 101, 102, 60, 103, 67, 70, 93, 94, 95, 96, 69, 71, 97, 98, 99, 104, 105, 106, 107, 62, 40, 32, 41, 108, 109, 110, 111, 126, 127, 128, 129, 130, 131, 132, 133, 134, 135, 136, 137, 138, 139, 140, 141, 142, 143, 144, 145, 146, 147, 148, 149] (by decide +kernel) (by decide +kernel)
set_option maxRecDepth 20000 in
theorem gL_isAhead_X5_bestRegulator : GoodIn wsL_isAhead (wsV RL 110 RX5 yX5_bestRegulator wsX5_bestRegulator) := goodIn_app (goodIn_of _ (by decide +kernel)) ggL_isAhead_X5_bestRegulator
theorem dL_isAhead_0 : decode cL_isAhead 0 = .ok (.bipush 22, 2) := by decide +kernel
theorem dL_isAhead_2 : decode cL_isAhead 2 = .ok (.newarray .int, 2) := by decide +kernel
theorem dL_isAhead_4 : decode cL_isAhead 4 = .ok (.astore_n 3, 1) := by decide +kernel
theorem dL_isAhead_5 : decode cL_isAhead 5 = .ok (.iconst 0, 1) := by decide +kernel
theorem dL_isAhead_6 : decode cL_isAhead 6 = .ok (.istore 4, 2) := by decide +kernel
theorem dL_isAhead_8 : decode cL_isAhead 8 = .ok (.iconst 0, 1) := by decide +kernel
theorem dL_isAhead_9 : decode cL_isAhead 9 = .ok (.istore 5, 2) := by decide +kernel
theorem dL_isAhead_11 : decode cL_isAhead 11 = .ok (.iconst 0, 1) := by decide +kernel
theorem dL_isAhead_12 : decode cL_isAhead 12 = .ok (.istore 6, 2) := by decide +kernel
theorem dL_isAhead_14 : decode cL_isAhead 14 = .ok (.iconst 0, 1) := by decide +kernel
theorem dL_isAhead_15 : decode cL_isAhead 15 = .ok (.istore 7, 2) := by decide +kernel
theorem dL_isAhead_17 : decode cL_isAhead 17 = .ok (.aload_n 1, 1) := by decide +kernel
theorem dL_isAhead_18 : decode cL_isAhead 18 = .ok (.aload_n 3, 1) := by decide +kernel
theorem dL_isAhead_19 : decode cL_isAhead 19 = .ok (.invokestatic 84, 3) := by decide +kernel
theorem dL_isAhead_22 : decode cL_isAhead 22 = .ok (.iconst 0, 1) := by decide +kernel
theorem dL_isAhead_23 : decode cL_isAhead 23 = .ok (.istore 8, 2) := by decide +kernel
theorem dL_isAhead_25 : decode cL_isAhead 25 = .ok (.iconst 0, 1) := by decide +kernel
theorem dL_isAhead_26 : decode cL_isAhead 26 = .ok (.istore 9, 2) := by decide +kernel
theorem dL_isAhead_28 : decode cL_isAhead 28 = .ok (.iload 9, 2) := by decide +kernel
theorem dL_isAhead_30 : decode cL_isAhead 30 = .ok (.iconst 3, 1) := by decide +kernel
theorem dL_isAhead_31 : decode cL_isAhead 31 = .ok (.if_icmp .ge 35, 3) := by decide +kernel
theorem dL_isAhead_34 : decode cL_isAhead 34 = .ok (.aload_n 3, 1) := by decide +kernel
theorem dL_isAhead_35 : decode cL_isAhead 35 = .ok (.bipush 6, 2) := by decide +kernel
theorem dL_isAhead_37 : decode cL_isAhead 37 = .ok (.iload_n 2, 1) := by decide +kernel
theorem dL_isAhead_38 : decode cL_isAhead 38 = .ok (.iconst 3, 1) := by decide +kernel
theorem dL_isAhead_39 : decode cL_isAhead 39 = .ok (.iload 9, 2) := by decide +kernel
theorem dL_isAhead_41 : decode cL_isAhead 41 = .ok (.imul, 1) := by decide +kernel
theorem dL_isAhead_42 : decode cL_isAhead 42 = .ok (.ishr, 1) := by decide +kernel
theorem dL_isAhead_43 : decode cL_isAhead 43 = .ok (.bipush 6, 2) := by decide +kernel
theorem dL_isAhead_45 : decode cL_isAhead 45 = .ok (.invokestatic 97, 3) := by decide +kernel
theorem dL_isAhead_48 : decode cL_isAhead 48 = .ok (.iastore, 1) := by decide +kernel
theorem dL_isAhead_49 : decode cL_isAhead 49 = .ok (.iload 8, 2) := by decide +kernel
theorem dL_isAhead_51 : decode cL_isAhead 51 = .ok (.aload_n 3, 1) := by decide +kernel
theorem dL_isAhead_52 : decode cL_isAhead 52 = .ok (.bipush 8, 2) := by decide +kernel
theorem dL_isAhead_54 : decode cL_isAhead 54 = .ok (.invokestatic 100, 3) := by decide +kernel
theorem dL_isAhead_57 : decode cL_isAhead 57 = .ok (.iadd, 1) := by decide +kernel
theorem dL_isAhead_58 : decode cL_isAhead 58 = .ok (.istore 8, 2) := by decide +kernel
theorem dL_isAhead_60 : decode cL_isAhead 60 = .ok (.iinc 9 1, 3) := by decide +kernel
theorem dL_isAhead_63 : decode cL_isAhead 63 = .ok (.goto (-35), 3) := by decide +kernel
theorem dL_isAhead_66 : decode cL_isAhead 66 = .ok (.iload_n 2, 1) := by decide +kernel
theorem dL_isAhead_67 : decode cL_isAhead 67 = .ok (.bipush 6, 2) := by decide +kernel
theorem dL_isAhead_69 : decode cL_isAhead 69 = .ok (.invokestatic 97, 3) := by decide +kernel
theorem dL_isAhead_72 : decode cL_isAhead 72 = .ok (.istore 9, 2) := by decide +kernel
theorem dL_isAhead_74 : decode cL_isAhead 74 = .ok (.iload_n 2, 1) := by decide +kernel
theorem dL_isAhead_75 : decode cL_isAhead 75 = .ok (.iconst 3, 1) := by decide +kernel
theorem dL_isAhead_76 : decode cL_isAhead 76 = .ok (.ishr, 1) := by decide +kernel
theorem dL_isAhead_77 : decode cL_isAhead 77 = .ok (.bipush 6, 2) := by decide +kernel
theorem dL_isAhead_79 : decode cL_isAhead 79 = .ok (.invokestatic 97, 3) := by decide +kernel
theorem dL_isAhead_82 : decode cL_isAhead 82 = .ok (.istore 10, 2) := by decide +kernel
theorem dL_isAhead_84 : decode cL_isAhead 84 = .ok (.iload_n 2, 1) := by decide +kernel
theorem dL_isAhead_85 : decode cL_isAhead 85 = .ok (.bipush 6, 2) := by decide +kernel
theorem dL_isAhead_87 : decode cL_isAhead 87 = .ok (.ishr, 1) := by decide +kernel
theorem dL_isAhead_88 : decode cL_isAhead 88 = .ok (.bipush 6, 2) := by decide +kernel
theorem dL_isAhead_90 : decode cL_isAhead 90 = .ok (.invokestatic 97, 3) := by decide +kernel
theorem dL_isAhead_93 : decode cL_isAhead 93 = .ok (.istore 11, 2) := by decide +kernel
theorem dL_isAhead_95 : decode cL_isAhead 95 = .ok (.aload_n 0, 1) := by decide +kernel
theorem dL_isAhead_96 : decode cL_isAhead 96 = .ok (.iload 9, 2) := by decide +kernel
theorem dL_isAhead_98 : decode cL_isAhead 98 = .ok (.iload 10, 2) := by decide +kernel
theorem dL_isAhead_100 : decode cL_isAhead 100 = .ok (.iload 11, 2) := by decide +kernel
theorem dL_isAhead_102 : decode cL_isAhead 102 = .ok (.iconst 0, 1) := by decide +kernel
theorem dL_isAhead_103 : decode cL_isAhead 103 = .ok (.invokevirtual 103, 3) := by decide +kernel
theorem dL_isAhead_106 : decode cL_isAhead 106 = .ok (.aload_n 3, 1) := by decide +kernel
theorem dL_isAhead_107 : decode cL_isAhead 107 = .ok (.bipush 7, 2) := by decide +kernel
theorem dL_isAhead_109 : decode cL_isAhead 109 = .ok (.iaload, 1) := by decide +kernel
theorem dL_isAhead_110 : decode cL_isAhead 110 = .ok (.aload_n 1, 1) := by decide +kernel
theorem dL_isAhead_111 : decode cL_isAhead 111 = .ok (.bipush 7, 2) := by decide +kernel
theorem dL_isAhead_113 : decode cL_isAhead 113 = .ok (.iaload, 1) := by decide +kernel
theorem dL_isAhead_114 : decode cL_isAhead 114 = .ok (.isub, 1) := by decide +kernel
theorem dL_isAhead_115 : decode cL_isAhead 115 = .ok (.ldc 62, 2) := by decide +kernel
theorem dL_isAhead_117 : decode cL_isAhead 117 = .ok (.iadd, 1) := by decide +kernel
theorem dL_isAhead_118 : decode cL_isAhead 118 = .ok (.if_icmp .ne 19, 3) := by decide +kernel
theorem dL_isAhead_121 : decode cL_isAhead 121 = .ok (.aload_n 0, 1) := by decide +kernel
theorem dL_isAhead_122 : decode cL_isAhead 122 = .ok (.iload 9, 2) := by decide +kernel
theorem dL_isAhead_124 : decode cL_isAhead 124 = .ok (.iload 10, 2) := by decide +kernel
theorem dL_isAhead_126 : decode cL_isAhead 126 = .ok (.iload 11, 2) := by decide +kernel
theorem dL_isAhead_128 : decode cL_isAhead 128 = .ok (.iconst 1, 1) := by decide +kernel
theorem dL_isAhead_129 : decode cL_isAhead 129 = .ok (.invokevirtual 103, 3) := by decide +kernel
theorem dL_isAhead_132 : decode cL_isAhead 132 = .ok (.iload 8, 2) := by decide +kernel
theorem dL_isAhead_134 : decode cL_isAhead 134 = .ok (.if_icmp .eq 5, 3) := by decide +kernel
theorem dL_isAhead_137 : decode cL_isAhead 137 = .ok (.iconst 0, 1) := by decide +kernel
theorem dL_isAhead_138 : decode cL_isAhead 138 = .ok (.ireturn, 1) := by decide +kernel
theorem dL_isAhead_139 : decode cL_isAhead 139 = .ok (.iconst 0, 1) := by decide +kernel
theorem dL_isAhead_140 : decode cL_isAhead 140 = .ok (.istore 12, 2) := by decide +kernel
theorem dL_isAhead_142 : decode cL_isAhead 142 = .ok (.iload 12, 2) := by decide +kernel
theorem dL_isAhead_144 : decode cL_isAhead 144 = .ok (.bipush 6, 2) := by decide +kernel
theorem dL_isAhead_146 : decode cL_isAhead 146 = .ok (.if_icmp .ge 105, 3) := by decide +kernel
theorem dL_isAhead_149 : decode cL_isAhead 149 = .ok (.aload_n 1, 1) := by decide +kernel
theorem dL_isAhead_150 : decode cL_isAhead 150 = .ok (.aload_n 3, 1) := by decide +kernel
theorem dL_isAhead_151 : decode cL_isAhead 151 = .ok (.invokestatic 84, 3) := by decide +kernel
theorem dL_isAhead_154 : decode cL_isAhead 154 = .ok (.aload_n 3, 1) := by decide +kernel
theorem dL_isAhead_155 : decode cL_isAhead 155 = .ok (.bipush 6, 2) := by decide +kernel
theorem dL_isAhead_157 : decode cL_isAhead 157 = .ok (.iload 12, 2) := by decide +kernel
theorem dL_isAhead_159 : decode cL_isAhead 159 = .ok (.iastore, 1) := by decide +kernel
theorem dL_isAhead_160 : decode cL_isAhead 160 = .ok (.aload_n 3, 1) := by decide +kernel
theorem dL_isAhead_161 : decode cL_isAhead 161 = .ok (.bipush 8, 2) := by decide +kernel
theorem dL_isAhead_163 : decode cL_isAhead 163 = .ok (.invokestatic 100, 3) := by decide +kernel
theorem dL_isAhead_166 : decode cL_isAhead 166 = .ok (.pop, 1) := by decide +kernel
theorem dL_isAhead_167 : decode cL_isAhead 167 = .ok (.aload_n 3, 1) := by decide +kernel
theorem dL_isAhead_168 : decode cL_isAhead 168 = .ok (.bipush 7, 2) := by decide +kernel
theorem dL_isAhead_170 : decode cL_isAhead 170 = .ok (.iaload, 1) := by decide +kernel
theorem dL_isAhead_171 : decode cL_isAhead 171 = .ok (.ifCond .ge 11, 3) := by decide +kernel
theorem dL_isAhead_174 : decode cL_isAhead 174 = .ok (.aload_n 3, 1) := by decide +kernel
theorem dL_isAhead_175 : decode cL_isAhead 175 = .ok (.bipush 7, 2) := by decide +kernel
theorem dL_isAhead_177 : decode cL_isAhead 177 = .ok (.iaload, 1) := by decide +kernel
theorem dL_isAhead_178 : decode cL_isAhead 178 = .ok (.ineg, 1) := by decide +kernel
theorem dL_isAhead_179 : decode cL_isAhead 179 = .ok (.goto 7, 3) := by decide +kernel
theorem dL_isAhead_182 : decode cL_isAhead 182 = .ok (.aload_n 3, 1) := by decide +kernel
theorem dL_isAhead_183 : decode cL_isAhead 183 = .ok (.bipush 7, 2) := by decide +kernel
theorem dL_isAhead_185 : decode cL_isAhead 185 = .ok (.iaload, 1) := by decide +kernel
theorem dL_isAhead_186 : decode cL_isAhead 186 = .ok (.istore 13, 2) := by decide +kernel
theorem dL_isAhead_188 : decode cL_isAhead 188 = .ok (.iload 12, 2) := by decide +kernel
theorem dL_isAhead_190 : decode cL_isAhead 190 = .ok (.ifCond .eq 10, 3) := by decide +kernel
theorem dL_isAhead_193 : decode cL_isAhead 193 = .ok (.iload 13, 2) := by decide +kernel
theorem dL_isAhead_195 : decode cL_isAhead 195 = .ok (.iload 6, 2) := by decide +kernel
theorem dL_isAhead_197 : decode cL_isAhead 197 = .ok (.if_icmp .ge 8, 3) := by decide +kernel
theorem dL_isAhead_200 : decode cL_isAhead 200 = .ok (.iload 12, 2) := by decide +kernel
theorem dL_isAhead_202 : decode cL_isAhead 202 = .ok (.goto 5, 3) := by decide +kernel
theorem dL_isAhead_205 : decode cL_isAhead 205 = .ok (.iload 5, 2) := by decide +kernel
theorem dL_isAhead_207 : decode cL_isAhead 207 = .ok (.istore 5, 2) := by decide +kernel
theorem dL_isAhead_209 : decode cL_isAhead 209 = .ok (.iload 12, 2) := by decide +kernel
theorem dL_isAhead_211 : decode cL_isAhead 211 = .ok (.ifCond .eq 10, 3) := by decide +kernel
theorem dL_isAhead_214 : decode cL_isAhead 214 = .ok (.iload 13, 2) := by decide +kernel
theorem dL_isAhead_216 : decode cL_isAhead 216 = .ok (.iload 6, 2) := by decide +kernel
theorem dL_isAhead_218 : decode cL_isAhead 218 = .ok (.if_icmp .ge 8, 3) := by decide +kernel
theorem dL_isAhead_221 : decode cL_isAhead 221 = .ok (.iload 13, 2) := by decide +kernel
theorem dL_isAhead_223 : decode cL_isAhead 223 = .ok (.goto 5, 3) := by decide +kernel
theorem dL_isAhead_226 : decode cL_isAhead 226 = .ok (.iload 6, 2) := by decide +kernel
theorem dL_isAhead_228 : decode cL_isAhead 228 = .ok (.istore 6, 2) := by decide +kernel
theorem dL_isAhead_230 : decode cL_isAhead 230 = .ok (.iload 7, 2) := by decide +kernel
theorem dL_isAhead_232 : decode cL_isAhead 232 = .ok (.aload_n 1, 1) := by decide +kernel
theorem dL_isAhead_233 : decode cL_isAhead 233 = .ok (.iload 12, 2) := by decide +kernel
theorem dL_isAhead_235 : decode cL_isAhead 235 = .ok (.invokestatic 73, 3) := by decide +kernel
theorem dL_isAhead_238 : decode cL_isAhead 238 = .ok (.aload_n 1, 1) := by decide +kernel
theorem dL_isAhead_239 : decode cL_isAhead 239 = .ok (.iconst 2, 1) := by decide +kernel
theorem dL_isAhead_240 : decode cL_isAhead 240 = .ok (.iaload, 1) := by decide +kernel
theorem dL_isAhead_241 : decode cL_isAhead 241 = .ok (.isub, 1) := by decide +kernel
theorem dL_isAhead_242 : decode cL_isAhead 242 = .ok (.iadd, 1) := by decide +kernel
theorem dL_isAhead_243 : decode cL_isAhead 243 = .ok (.istore 7, 2) := by decide +kernel
theorem dL_isAhead_245 : decode cL_isAhead 245 = .ok (.iinc 12 1, 3) := by decide +kernel
theorem dL_isAhead_248 : decode cL_isAhead 248 = .ok (.goto (-106), 3) := by decide +kernel
theorem dL_isAhead_251 : decode cL_isAhead 251 = .ok (.bipush 99, 2) := by decide +kernel
theorem dL_isAhead_253 : decode cL_isAhead 253 = .ok (.istore 12, 2) := by decide +kernel
theorem dL_isAhead_255 : decode cL_isAhead 255 = .ok (.iload 12, 2) := by decide +kernel
theorem dL_isAhead_257 : decode cL_isAhead 257 = .ok (.bipush (-99), 2) := by decide +kernel
theorem dL_isAhead_259 : decode cL_isAhead 259 = .ok (.if_icmp .lt 98, 3) := by decide +kernel
theorem dL_isAhead_262 : decode cL_isAhead 262 = .ok (.iload 7, 2) := by decide +kernel
theorem dL_isAhead_264 : decode cL_isAhead 264 = .ok (.bipush 6, 2) := by decide +kernel
theorem dL_isAhead_266 : decode cL_isAhead 266 = .ok (.iload 12, 2) := by decide +kernel
theorem dL_isAhead_268 : decode cL_isAhead 268 = .ok (.imul, 1) := by decide +kernel
theorem dL_isAhead_269 : decode cL_isAhead 269 = .ok (.iadd, 1) := by decide +kernel
theorem dL_isAhead_270 : decode cL_isAhead 270 = .ok (.ifCond .ge 15, 3) := by decide +kernel
theorem dL_isAhead_273 : decode cL_isAhead 273 = .ok (.iload 7, 2) := by decide +kernel
theorem dL_isAhead_275 : decode cL_isAhead 275 = .ok (.ineg, 1) := by decide +kernel
theorem dL_isAhead_276 : decode cL_isAhead 276 = .ok (.bipush 6, 2) := by decide +kernel
theorem dL_isAhead_278 : decode cL_isAhead 278 = .ok (.iload 12, 2) := by decide +kernel
theorem dL_isAhead_280 : decode cL_isAhead 280 = .ok (.imul, 1) := by decide +kernel
theorem dL_isAhead_281 : decode cL_isAhead 281 = .ok (.isub, 1) := by decide +kernel
theorem dL_isAhead_282 : decode cL_isAhead 282 = .ok (.goto 11, 3) := by decide +kernel
theorem dL_isAhead_285 : decode cL_isAhead 285 = .ok (.iload 7, 2) := by decide +kernel
theorem dL_isAhead_287 : decode cL_isAhead 287 = .ok (.bipush 6, 2) := by decide +kernel
theorem dL_isAhead_289 : decode cL_isAhead 289 = .ok (.iload 12, 2) := by decide +kernel
theorem dL_isAhead_291 : decode cL_isAhead 291 = .ok (.imul, 1) := by decide +kernel
theorem dL_isAhead_292 : decode cL_isAhead 292 = .ok (.iadd, 1) := by decide +kernel
theorem dL_isAhead_293 : decode cL_isAhead 293 = .ok (.istore 13, 2) := by decide +kernel
theorem dL_isAhead_295 : decode cL_isAhead 295 = .ok (.iload 7, 2) := by decide +kernel
theorem dL_isAhead_297 : decode cL_isAhead 297 = .ok (.bipush 6, 2) := by decide +kernel
theorem dL_isAhead_299 : decode cL_isAhead 299 = .ok (.iload 4, 2) := by decide +kernel
theorem dL_isAhead_301 : decode cL_isAhead 301 = .ok (.imul, 1) := by decide +kernel
theorem dL_isAhead_302 : decode cL_isAhead 302 = .ok (.iadd, 1) := by decide +kernel
theorem dL_isAhead_303 : decode cL_isAhead 303 = .ok (.ifCond .ge 15, 3) := by decide +kernel
theorem dL_isAhead_306 : decode cL_isAhead 306 = .ok (.iload 7, 2) := by decide +kernel
theorem dL_isAhead_308 : decode cL_isAhead 308 = .ok (.ineg, 1) := by decide +kernel
theorem dL_isAhead_309 : decode cL_isAhead 309 = .ok (.bipush 6, 2) := by decide +kernel
theorem dL_isAhead_311 : decode cL_isAhead 311 = .ok (.iload 4, 2) := by decide +kernel
theorem dL_isAhead_313 : decode cL_isAhead 313 = .ok (.imul, 1) := by decide +kernel
theorem dL_isAhead_314 : decode cL_isAhead 314 = .ok (.isub, 1) := by decide +kernel
theorem dL_isAhead_315 : decode cL_isAhead 315 = .ok (.goto 11, 3) := by decide +kernel
theorem dL_isAhead_318 : decode cL_isAhead 318 = .ok (.iload 7, 2) := by decide +kernel
theorem dL_isAhead_320 : decode cL_isAhead 320 = .ok (.bipush 6, 2) := by decide +kernel
theorem dL_isAhead_322 : decode cL_isAhead 322 = .ok (.iload 4, 2) := by decide +kernel
theorem dL_isAhead_324 : decode cL_isAhead 324 = .ok (.imul, 1) := by decide +kernel
theorem dL_isAhead_325 : decode cL_isAhead 325 = .ok (.iadd, 1) := by decide +kernel
theorem dL_isAhead_326 : decode cL_isAhead 326 = .ok (.istore 14, 2) := by decide +kernel
theorem dL_isAhead_328 : decode cL_isAhead 328 = .ok (.iload 12, 2) := by decide +kernel
theorem dL_isAhead_330 : decode cL_isAhead 330 = .ok (.bipush 99, 2) := by decide +kernel
theorem dL_isAhead_332 : decode cL_isAhead 332 = .ok (.if_icmp .eq 10, 3) := by decide +kernel
theorem dL_isAhead_335 : decode cL_isAhead 335 = .ok (.iload 13, 2) := by decide +kernel
theorem dL_isAhead_337 : decode cL_isAhead 337 = .ok (.iload 14, 2) := by decide +kernel
theorem dL_isAhead_339 : decode cL_isAhead 339 = .ok (.if_icmp .gt 8, 3) := by decide +kernel
theorem dL_isAhead_342 : decode cL_isAhead 342 = .ok (.iload 12, 2) := by decide +kernel
theorem dL_isAhead_344 : decode cL_isAhead 344 = .ok (.goto 5, 3) := by decide +kernel
theorem dL_isAhead_347 : decode cL_isAhead 347 = .ok (.iload 4, 2) := by decide +kernel
theorem dL_isAhead_349 : decode cL_isAhead 349 = .ok (.istore 4, 2) := by decide +kernel
theorem dL_isAhead_351 : decode cL_isAhead 351 = .ok (.iinc 12 (-1), 3) := by decide +kernel
theorem dL_isAhead_354 : decode cL_isAhead 354 = .ok (.goto (-99), 3) := by decide +kernel
theorem dL_isAhead_357 : decode cL_isAhead 357 = .ok (.aload_n 0, 1) := by decide +kernel
theorem dL_isAhead_358 : decode cL_isAhead 358 = .ok (.invokevirtual 107, 3) := by decide +kernel
theorem dL_isAhead_361 : decode cL_isAhead 361 = .ok (.iload 5, 2) := by decide +kernel
theorem dL_isAhead_363 : decode cL_isAhead 363 = .ok (.if_icmp .ne 19, 3) := by decide +kernel
theorem dL_isAhead_366 : decode cL_isAhead 366 = .ok (.aload_n 0, 1) := by decide +kernel
theorem dL_isAhead_367 : decode cL_isAhead 367 = .ok (.invokevirtual 110, 3) := by decide +kernel
theorem dL_isAhead_370 : decode cL_isAhead 370 = .ok (.iload 4, 2) := by decide +kernel
theorem dL_isAhead_372 : decode cL_isAhead 372 = .ok (.bipush 100, 2) := by decide +kernel
theorem dL_isAhead_374 : decode cL_isAhead 374 = .ok (.iadd, 1) := by decide +kernel
theorem dL_isAhead_375 : decode cL_isAhead 375 = .ok (.if_icmp .ne 7, 3) := by decide +kernel
theorem dL_isAhead_378 : decode cL_isAhead 378 = .ok (.iconst 1, 1) := by decide +kernel
theorem dL_isAhead_379 : decode cL_isAhead 379 = .ok (.goto 4, 3) := by decide +kernel
theorem dL_isAhead_382 : decode cL_isAhead 382 = .ok (.iconst 0, 1) := by decide +kernel
theorem dL_isAhead_383 : decode cL_isAhead 383 = .ok (.ireturn, 1) := by decide +kernel
set_option maxRecDepth 20000 in
theorem ggL_isSo_X5_reading : GoodIn wsL_isSo wsX5_reading := goodIn_ca (goodIn_r _ [6, 7, 8, 9, 10, 5, 11, 12, 13, 14, 15, 16, 17, 18, 19, 20, 21, 22, 23, 24, 25, 225, 226, 227, 228, 229, 230, 231, 232, 233, 234, 235, 236, 237, 238, 239] (by decide +kernel) (by decide +kernel)) (goodIn_sub (fun _ h => List.mem_cons_of_mem _ (List.mem_append_left _ (List.mem_append_right _ h))) (by decide +kernel))
set_option maxRecDepth 20000 in
theorem gL_isSo_X5_reading : GoodIn wsL_isSo (wsV RL 53 RX5 yX5_reading wsX5_reading) := goodIn_app (goodIn_of _ (by decide +kernel)) ggL_isSo_X5_reading
set_option maxRecDepth 20000 in
theorem ggL_isSo_X5_count : GoodIn wsL_isSo wsX5_count := goodIn_ca (goodIn_r _ [29, 9, 10, 5, 11, 7, 8, 30, 31, 32, 33, 16, 34, 35, 36, 37, 38, 39, 40, 41, 42, 43, 44, 17, 18, 45, 46, 47, 48, 49, 50, 51, 52, 53, 54, 55, 56, 57, 58, 59, 60, 61, 62, 63, 64, 65, 66, 67, 68, 69, 70, 71, 72, 73, 74, 75, 76, 77, 78, 79, 80, 81, 82, 83, 84, 85, 86, 87, 22, 88, 24, 89, 20, 21, 23, 25, 90, 91, 92, 93, 94, 95, 96, 97, 98, 99, 100, 225, 226, 227, 228, 229, 230, 231, 232, 233, 234, 235, 236, 237, 240, 241, 242, 243, 244, 245, 246, 247, 248, 249, 250, 238, 239, 251, 252, 253] (by decide +kernel) (by decide +kernel)) (goodIn_sub (fun _ h => List.mem_cons_of_mem _ (List.mem_append_left _ (List.mem_append_right _ h))) (by decide +kernel))
set_option maxRecDepth 20000 in
theorem gL_isSo_X5_count : GoodIn wsL_isSo (wsV RL 94 RX5 yX5_count wsX5_count) := goodIn_app (goodIn_of _ (by decide +kernel)) ggL_isSo_X5_count
set_option maxRecDepth 20000 in
theorem ggL_isSo_L_goes : GoodIn wsL_isSo wsL_goes := goodIn_r _ [104, 105, 106, 103, 107] (by decide +kernel) (by decide +kernel)
set_option maxRecDepth 20000 in
theorem gL_isSo_L_goes : GoodIn wsL_isSo (va_wsS RL 69 yL_goes wsL_goes) := goodIn_app (goodIn_of _ (by decide +kernel)) ggL_isSo_L_goes
end
section
set_option maxRecDepth 20000 in
theorem gp_ggL_isSo_L_arePoses_wsL_arePoses_r1 : GoodIn wsL_isSo wsL_arePoses_r1 := goodIn_r _ [111, 112, 113, 103, 114, 115, 116, 117, 101, 102, 104, 105, 106, 107, 118, 119, 120, 121, 122, 123, 124, 125, 126, 127] (by decide +kernel) (by decide +kernel)
set_option maxRecDepth 20000 in
theorem gp_ggL_isSo_L_arePoses_wsL_arePoses_r2 : GoodIn wsL_isSo wsL_arePoses_r2 := goodIn_r _ [128, 129, 130, 5, 131, 132, 133, 134, 135, 136, 137, 138, 139, 9, 10, 11, 7, 8, 140, 141, 142, 143, 16, 17] (by decide +kernel) (by decide +kernel)
set_option maxRecDepth 20000 in
theorem gp_ggL_isSo_L_arePoses_wsL_arePoses_r3 : GoodIn wsL_isSo wsL_arePoses_r3 := goodIn_r _ [34, 144, 86, 87, 22, 88, 24, 89, 20, 21, 23, 25, 145, 146, 147, 53, 148, 149, 150, 58, 59, 60, 55, 61] (by decide +kernel) (by decide +kernel)
set_option maxRecDepth 20000 in
theorem gp_ggL_isSo_L_arePoses_wsL_arePoses_r4 : GoodIn wsL_isSo wsL_arePoses_r4 := goodIn_r _ [62, 63, 64, 65, 151, 152, 153, 154, 155, 156, 57, 157, 158, 92, 93, 94, 159, 160, 161, 162, 163, 164, 165, 166] (by decide +kernel) (by decide +kernel)
set_option maxRecDepth 20000 in
theorem gp_ggL_isSo_L_arePoses_wsL_arePoses_r5 : GoodIn wsL_isSo wsL_arePoses_r5 := goodIn_r _ [167, 168, 169, 69, 170, 82, 171, 84, 172, 71, 173, 174, 175, 176, 177, 178, 19, 179, 180, 181, 182, 183, 184, 185] (by decide +kernel) (by decide +kernel)
set_option maxRecDepth 20000 in
theorem gp_ggL_isSo_L_arePoses_wsL_arePoses_r6 : GoodIn wsL_isSo wsL_arePoses_r6 := goodIn_r _ [186, 187, 188, 189, 190, 191, 192, 193, 194, 195, 196, 197, 41, 198, 199, 200, 201, 202, 203, 204, 205, 56, 206, 207] (by decide +kernel) (by decide +kernel)
set_option maxRecDepth 20000 in
theorem gp_ggL_isSo_L_arePoses_wsL_arePoses_r7 : GoodIn wsL_isSo wsL_arePoses_r7 := goodIn_r _ [208, 209, 210, 211, 212, 213, 214, 215, 216, 217, 218, 79, 80, 219, 51, 52, 54, 220, 26, 27, 28, 29, 30, 31] (by decide +kernel) (by decide +kernel)
set_option maxRecDepth 20000 in
theorem gp_ggL_isSo_L_arePoses_wsL_arePoses_r8 : GoodIn wsL_isSo wsL_arePoses_r8 := goodIn_r _ [32, 33, 35, 36, 37, 38, 39, 40, 42, 43, 44, 18, 45, 46, 47, 48, 49, 50, 66, 67, 68, 70, 72, 73] (by decide +kernel) (by decide +kernel)
set_option maxRecDepth 20000 in
theorem gp_ggL_isSo_L_arePoses_wsL_arePoses_r9 : GoodIn wsL_isSo wsL_arePoses_r9 := goodIn_r _ [74, 75, 76, 77, 78, 81, 83, 85, 90, 91, 95, 96, 97, 98, 99, 100] (by decide +kernel) (by decide +kernel)
set_option maxRecDepth 20000 in
theorem gp_ggL_isSo_L_arePoses_wsX50 : GoodIn wsL_isSo wsX50 := goodIn_r _ [225, 226, 227, 228, 229, 230] (by decide +kernel) (by decide +kernel)
set_option maxRecDepth 20000 in
theorem gp_ggL_isSo_L_arePoses_wsX30 : GoodIn wsL_isSo wsX30 := goodIn_r _ [231, 232, 233, 234, 235, 236, 237] (by decide +kernel) (by decide +kernel)
set_option maxRecDepth 20000 in
theorem gp_ggL_isSo_L_arePoses_wsX10 : GoodIn wsL_isSo wsX10 := goodIn_r _ [238, 239] (by decide +kernel) (by decide +kernel)
set_option maxRecDepth 20000 in
theorem gp_ggL_isSo_L_arePoses_wsX40 : GoodIn wsL_isSo wsX40 := goodIn_r _ [240, 241, 242, 243, 244, 245, 246, 247, 248, 249, 250] (by decide +kernel) (by decide +kernel)
set_option maxRecDepth 20000 in
theorem gp_ggL_isSo_L_arePoses_wsX20 : GoodIn wsL_isSo wsX20 := goodIn_r _ [251, 252, 253] (by decide +kernel) (by decide +kernel)
set_option maxRecDepth 20000 in
theorem gp_ggL_isSo_L_arePoses_h : GoodIn wsL_isSo [.code yL_arePoses cL_arePoses 14 (some .boolean)] := goodIn_r _ [110] (by decide +kernel) (by decide +kernel)
set_option maxRecDepth 20000 in
theorem ggL_isSo_L_arePoses : GoodIn wsL_isSo wsL_arePoses := goodIn_ca (goodIn_ca (goodIn_app (a := [.code yL_arePoses cL_arePoses 14 (some .boolean)]) gp_ggL_isSo_L_arePoses_h (goodIn_app (goodIn_app (goodIn_app (goodIn_app (goodIn_app (goodIn_app gp_ggL_isSo_L_arePoses_wsL_arePoses_r1 (goodIn_app gp_ggL_isSo_L_arePoses_wsL_arePoses_r2 (goodIn_app gp_ggL_isSo_L_arePoses_wsL_arePoses_r3 (goodIn_app gp_ggL_isSo_L_arePoses_wsL_arePoses_r4 (goodIn_app gp_ggL_isSo_L_arePoses_wsL_arePoses_r5 (goodIn_app gp_ggL_isSo_L_arePoses_wsL_arePoses_r6 (goodIn_app gp_ggL_isSo_L_arePoses_wsL_arePoses_r7 (goodIn_app gp_ggL_isSo_L_arePoses_wsL_arePoses_r8 gp_ggL_isSo_L_arePoses_wsL_arePoses_r9)))))))) gp_ggL_isSo_L_arePoses_wsX50) gp_ggL_isSo_L_arePoses_wsX30) gp_ggL_isSo_L_arePoses_wsX10) gp_ggL_isSo_L_arePoses_wsX40) gp_ggL_isSo_L_arePoses_wsX20)) (goodIn_sub (fun _ h => List.mem_cons_of_mem _ (List.mem_append_right _ h)) (by decide +kernel))) (goodIn_sub (fun _ h => List.mem_cons_of_mem _ (List.mem_append_left _ (List.mem_append_right _ h))) (by decide +kernel))
end
section
set_option maxRecDepth 20000 in
theorem gL_isSo_L_arePoses : GoodIn wsL_isSo (va_wsS RL 114 yL_arePoses wsL_arePoses) := goodIn_app (goodIn_of _ (by decide +kernel)) ggL_isSo_L_arePoses
end
section
set_option maxRecDepth 20000 in
theorem ggL_isSo_X5_going : GoodIn wsL_isSo wsX5_going := goodIn_r _ [224, 16, 34, 35, 46, 225, 226, 227, 228, 229, 230, 231, 232, 233, 234, 235, 236, 237, 240, 241, 242, 243, 244, 245, 246, 247, 248, 249, 250] (by decide +kernel) (by decide +kernel)
set_option maxRecDepth 20000 in
theorem gL_isSo_X5_going : GoodIn wsL_isSo (wsV RL 118 RX5 yX5_going wsX5_going) := goodIn_app (goodIn_of _ (by decide +kernel)) ggL_isSo_X5_going
theorem dL_isSo_0 : decode cL_isSo 0 = .ok (.iconst 0, 1) := by decide +kernel
theorem dL_isSo_1 : decode cL_isSo 1 = .ok (.istore 5, 2) := by decide +kernel
theorem dL_isSo_3 : decode cL_isSo 3 = .ok (.iload 5, 2) := by decide +kernel
theorem dL_isSo_5 : decode cL_isSo 5 = .ok (.aload_n 1, 1) := by decide +kernel
theorem dL_isSo_6 : decode cL_isSo 6 = .ok (.bipush 10, 2) := by decide +kernel
theorem dL_isSo_8 : decode cL_isSo 8 = .ok (.iaload, 1) := by decide +kernel
theorem dL_isSo_9 : decode cL_isSo 9 = .ok (.if_icmp .ge 101, 3) := by decide +kernel
theorem dL_isSo_12 : decode cL_isSo 12 = .ok (.aload_n 0, 1) := by decide +kernel
theorem dL_isSo_13 : decode cL_isSo 13 = .ok (.iload 5, 2) := by decide +kernel
theorem dL_isSo_15 : decode cL_isSo 15 = .ok (.iconst 0, 1) := by decide +kernel
theorem dL_isSo_16 : decode cL_isSo 16 = .ok (.invokevirtual 53, 3) := by decide +kernel
theorem dL_isSo_19 : decode cL_isSo 19 = .ok (.aload_n 2, 1) := by decide +kernel
theorem dL_isSo_20 : decode cL_isSo 20 = .ok (.iload 5, 2) := by decide +kernel
theorem dL_isSo_22 : decode cL_isSo 22 = .ok (.iaload, 1) := by decide +kernel
theorem dL_isSo_23 : decode cL_isSo 23 = .ok (.bipush 100, 2) := by decide +kernel
theorem dL_isSo_25 : decode cL_isSo 25 = .ok (.idiv, 1) := by decide +kernel
theorem dL_isSo_26 : decode cL_isSo 26 = .ok (.if_icmp .ne 76, 3) := by decide +kernel
theorem dL_isSo_29 : decode cL_isSo 29 = .ok (.aload_n 0, 1) := by decide +kernel
theorem dL_isSo_30 : decode cL_isSo 30 = .ok (.iload 5, 2) := by decide +kernel
theorem dL_isSo_32 : decode cL_isSo 32 = .ok (.iconst 1, 1) := by decide +kernel
theorem dL_isSo_33 : decode cL_isSo 33 = .ok (.invokevirtual 53, 3) := by decide +kernel
theorem dL_isSo_36 : decode cL_isSo 36 = .ok (.aload_n 2, 1) := by decide +kernel
theorem dL_isSo_37 : decode cL_isSo 37 = .ok (.iload 5, 2) := by decide +kernel
theorem dL_isSo_39 : decode cL_isSo 39 = .ok (.iaload, 1) := by decide +kernel
theorem dL_isSo_40 : decode cL_isSo 40 = .ok (.bipush 100, 2) := by decide +kernel
theorem dL_isSo_42 : decode cL_isSo 42 = .ok (.irem, 1) := by decide +kernel
theorem dL_isSo_43 : decode cL_isSo 43 = .ok (.if_icmp .ne 59, 3) := by decide +kernel
theorem dL_isSo_46 : decode cL_isSo 46 = .ok (.aload_n 0, 1) := by decide +kernel
theorem dL_isSo_47 : decode cL_isSo 47 = .ok (.iload 5, 2) := by decide +kernel
theorem dL_isSo_49 : decode cL_isSo 49 = .ok (.iconst 2, 1) := by decide +kernel
theorem dL_isSo_50 : decode cL_isSo 50 = .ok (.invokevirtual 53, 3) := by decide +kernel
theorem dL_isSo_53 : decode cL_isSo 53 = .ok (.aload_n 3, 1) := by decide +kernel
theorem dL_isSo_54 : decode cL_isSo 54 = .ok (.iload 5, 2) := by decide +kernel
theorem dL_isSo_56 : decode cL_isSo 56 = .ok (.iaload, 1) := by decide +kernel
theorem dL_isSo_57 : decode cL_isSo 57 = .ok (.sipush 10000, 3) := by decide +kernel
theorem dL_isSo_60 : decode cL_isSo 60 = .ok (.iadd, 1) := by decide +kernel
theorem dL_isSo_61 : decode cL_isSo 61 = .ok (.if_icmp .ne 41, 3) := by decide +kernel
theorem dL_isSo_64 : decode cL_isSo 64 = .ok (.aload_n 0, 1) := by decide +kernel
theorem dL_isSo_65 : decode cL_isSo 65 = .ok (.iload 5, 2) := by decide +kernel
theorem dL_isSo_67 : decode cL_isSo 67 = .ok (.iconst 3, 1) := by decide +kernel
theorem dL_isSo_68 : decode cL_isSo 68 = .ok (.invokevirtual 53, 3) := by decide +kernel
theorem dL_isSo_71 : decode cL_isSo 71 = .ok (.aload 4, 2) := by decide +kernel
theorem dL_isSo_73 : decode cL_isSo 73 = .ok (.iload 5, 2) := by decide +kernel
theorem dL_isSo_75 : decode cL_isSo 75 = .ok (.iaload, 1) := by decide +kernel
theorem dL_isSo_76 : decode cL_isSo 76 = .ok (.sipush 1000, 3) := by decide +kernel
theorem dL_isSo_79 : decode cL_isSo 79 = .ok (.idiv, 1) := by decide +kernel
theorem dL_isSo_80 : decode cL_isSo 80 = .ok (.if_icmp .ne 22, 3) := by decide +kernel
theorem dL_isSo_83 : decode cL_isSo 83 = .ok (.aload_n 0, 1) := by decide +kernel
theorem dL_isSo_84 : decode cL_isSo 84 = .ok (.iload 5, 2) := by decide +kernel
theorem dL_isSo_86 : decode cL_isSo 86 = .ok (.iconst 4, 1) := by decide +kernel
theorem dL_isSo_87 : decode cL_isSo 87 = .ok (.invokevirtual 53, 3) := by decide +kernel
theorem dL_isSo_90 : decode cL_isSo 90 = .ok (.aload 4, 2) := by decide +kernel
theorem dL_isSo_92 : decode cL_isSo 92 = .ok (.iload 5, 2) := by decide +kernel
theorem dL_isSo_94 : decode cL_isSo 94 = .ok (.iaload, 1) := by decide +kernel
theorem dL_isSo_95 : decode cL_isSo 95 = .ok (.sipush 1000, 3) := by decide +kernel
theorem dL_isSo_98 : decode cL_isSo 98 = .ok (.irem, 1) := by decide +kernel
theorem dL_isSo_99 : decode cL_isSo 99 = .ok (.if_icmp .eq 5, 3) := by decide +kernel
theorem dL_isSo_102 : decode cL_isSo 102 = .ok (.iconst 0, 1) := by decide +kernel
theorem dL_isSo_103 : decode cL_isSo 103 = .ok (.ireturn, 1) := by decide +kernel
theorem dL_isSo_104 : decode cL_isSo 104 = .ok (.iinc 5 1, 3) := by decide +kernel
theorem dL_isSo_107 : decode cL_isSo 107 = .ok (.goto (-104), 3) := by decide +kernel
theorem dL_isSo_110 : decode cL_isSo 110 = .ok (.aload_n 0, 1) := by decide +kernel
theorem dL_isSo_111 : decode cL_isSo 111 = .ok (.aload_n 1, 1) := by decide +kernel
theorem dL_isSo_112 : decode cL_isSo 112 = .ok (.bipush 10, 2) := by decide +kernel
theorem dL_isSo_114 : decode cL_isSo 114 = .ok (.iaload, 1) := by decide +kernel
theorem dL_isSo_115 : decode cL_isSo 115 = .ok (.iconst 0, 1) := by decide +kernel
theorem dL_isSo_116 : decode cL_isSo 116 = .ok (.invokevirtual 53, 3) := by decide +kernel
theorem dL_isSo_119 : decode cL_isSo 119 = .ok (.iconst (-1), 1) := by decide +kernel
theorem dL_isSo_120 : decode cL_isSo 120 = .ok (.if_icmp .ne 185, 3) := by decide +kernel
theorem dL_isSo_123 : decode cL_isSo 123 = .ok (.aload_n 0, 1) := by decide +kernel
theorem dL_isSo_124 : decode cL_isSo 124 = .ok (.iconst 0, 1) := by decide +kernel
theorem dL_isSo_125 : decode cL_isSo 125 = .ok (.invokevirtual 94, 3) := by decide +kernel
theorem dL_isSo_128 : decode cL_isSo 128 = .ok (.aload_n 1, 1) := by decide +kernel
theorem dL_isSo_129 : decode cL_isSo 129 = .ok (.iconst 0, 1) := by decide +kernel
theorem dL_isSo_130 : decode cL_isSo 130 = .ok (.iaload, 1) := by decide +kernel
theorem dL_isSo_131 : decode cL_isSo 131 = .ok (.if_icmp .ne 174, 3) := by decide +kernel
theorem dL_isSo_134 : decode cL_isSo 134 = .ok (.aload_n 0, 1) := by decide +kernel
theorem dL_isSo_135 : decode cL_isSo 135 = .ok (.iconst 1, 1) := by decide +kernel
theorem dL_isSo_136 : decode cL_isSo 136 = .ok (.invokevirtual 94, 3) := by decide +kernel
theorem dL_isSo_139 : decode cL_isSo 139 = .ok (.aload_n 1, 1) := by decide +kernel
theorem dL_isSo_140 : decode cL_isSo 140 = .ok (.iconst 1, 1) := by decide +kernel
theorem dL_isSo_141 : decode cL_isSo 141 = .ok (.iaload, 1) := by decide +kernel
theorem dL_isSo_142 : decode cL_isSo 142 = .ok (.if_icmp .ne 163, 3) := by decide +kernel
theorem dL_isSo_145 : decode cL_isSo 145 = .ok (.aload_n 0, 1) := by decide +kernel
theorem dL_isSo_146 : decode cL_isSo 146 = .ok (.iconst 2, 1) := by decide +kernel
theorem dL_isSo_147 : decode cL_isSo 147 = .ok (.invokevirtual 94, 3) := by decide +kernel
theorem dL_isSo_150 : decode cL_isSo 150 = .ok (.aload_n 1, 1) := by decide +kernel
theorem dL_isSo_151 : decode cL_isSo 151 = .ok (.iconst 2, 1) := by decide +kernel
theorem dL_isSo_152 : decode cL_isSo 152 = .ok (.iaload, 1) := by decide +kernel
theorem dL_isSo_153 : decode cL_isSo 153 = .ok (.bipush 100, 2) := by decide +kernel
theorem dL_isSo_155 : decode cL_isSo 155 = .ok (.iadd, 1) := by decide +kernel
theorem dL_isSo_156 : decode cL_isSo 156 = .ok (.if_icmp .ne 149, 3) := by decide +kernel
theorem dL_isSo_159 : decode cL_isSo 159 = .ok (.aload_n 0, 1) := by decide +kernel
theorem dL_isSo_160 : decode cL_isSo 160 = .ok (.iconst 3, 1) := by decide +kernel
theorem dL_isSo_161 : decode cL_isSo 161 = .ok (.invokevirtual 94, 3) := by decide +kernel
theorem dL_isSo_164 : decode cL_isSo 164 = .ok (.aload_n 1, 1) := by decide +kernel
theorem dL_isSo_165 : decode cL_isSo 165 = .ok (.iconst 3, 1) := by decide +kernel
theorem dL_isSo_166 : decode cL_isSo 166 = .ok (.iaload, 1) := by decide +kernel
theorem dL_isSo_167 : decode cL_isSo 167 = .ok (.bipush 100, 2) := by decide +kernel
theorem dL_isSo_169 : decode cL_isSo 169 = .ok (.iadd, 1) := by decide +kernel
theorem dL_isSo_170 : decode cL_isSo 170 = .ok (.if_icmp .ne 135, 3) := by decide +kernel
theorem dL_isSo_173 : decode cL_isSo 173 = .ok (.aload_n 0, 1) := by decide +kernel
theorem dL_isSo_174 : decode cL_isSo 174 = .ok (.iconst 4, 1) := by decide +kernel
theorem dL_isSo_175 : decode cL_isSo 175 = .ok (.invokevirtual 94, 3) := by decide +kernel
theorem dL_isSo_178 : decode cL_isSo 178 = .ok (.aload_n 1, 1) := by decide +kernel
theorem dL_isSo_179 : decode cL_isSo 179 = .ok (.iconst 4, 1) := by decide +kernel
theorem dL_isSo_180 : decode cL_isSo 180 = .ok (.iaload, 1) := by decide +kernel
theorem dL_isSo_181 : decode cL_isSo 181 = .ok (.if_icmp .ne 124, 3) := by decide +kernel
theorem dL_isSo_184 : decode cL_isSo 184 = .ok (.aload_n 0, 1) := by decide +kernel
theorem dL_isSo_185 : decode cL_isSo 185 = .ok (.iconst 5, 1) := by decide +kernel
theorem dL_isSo_186 : decode cL_isSo 186 = .ok (.invokevirtual 94, 3) := by decide +kernel
theorem dL_isSo_189 : decode cL_isSo 189 = .ok (.aload_n 1, 1) := by decide +kernel
theorem dL_isSo_190 : decode cL_isSo 190 = .ok (.iconst 5, 1) := by decide +kernel
theorem dL_isSo_191 : decode cL_isSo 191 = .ok (.iaload, 1) := by decide +kernel
theorem dL_isSo_192 : decode cL_isSo 192 = .ok (.if_icmp .ne 113, 3) := by decide +kernel
theorem dL_isSo_195 : decode cL_isSo 195 = .ok (.aload_n 0, 1) := by decide +kernel
theorem dL_isSo_196 : decode cL_isSo 196 = .ok (.bipush 6, 2) := by decide +kernel
theorem dL_isSo_198 : decode cL_isSo 198 = .ok (.invokevirtual 94, 3) := by decide +kernel
theorem dL_isSo_201 : decode cL_isSo 201 = .ok (.aload_n 1, 1) := by decide +kernel
theorem dL_isSo_202 : decode cL_isSo 202 = .ok (.bipush 6, 2) := by decide +kernel
theorem dL_isSo_204 : decode cL_isSo 204 = .ok (.iaload, 1) := by decide +kernel
theorem dL_isSo_205 : decode cL_isSo 205 = .ok (.if_icmp .ne 100, 3) := by decide +kernel
theorem dL_isSo_208 : decode cL_isSo 208 = .ok (.aload_n 0, 1) := by decide +kernel
theorem dL_isSo_209 : decode cL_isSo 209 = .ok (.bipush 7, 2) := by decide +kernel
theorem dL_isSo_211 : decode cL_isSo 211 = .ok (.invokevirtual 94, 3) := by decide +kernel
theorem dL_isSo_214 : decode cL_isSo 214 = .ok (.aload_n 1, 1) := by decide +kernel
theorem dL_isSo_215 : decode cL_isSo 215 = .ok (.aload_n 1, 1) := by decide +kernel
theorem dL_isSo_216 : decode cL_isSo 216 = .ok (.bipush 6, 2) := by decide +kernel
theorem dL_isSo_218 : decode cL_isSo 218 = .ok (.iaload, 1) := by decide +kernel
theorem dL_isSo_219 : decode cL_isSo 219 = .ok (.invokestatic 69, 3) := by decide +kernel
theorem dL_isSo_222 : decode cL_isSo 222 = .ok (.ifCond .eq 7, 3) := by decide +kernel
theorem dL_isSo_225 : decode cL_isSo 225 = .ok (.iconst 1, 1) := by decide +kernel
theorem dL_isSo_226 : decode cL_isSo 226 = .ok (.goto 4, 3) := by decide +kernel
theorem dL_isSo_229 : decode cL_isSo 229 = .ok (.iconst 0, 1) := by decide +kernel
theorem dL_isSo_230 : decode cL_isSo 230 = .ok (.if_icmp .ne 75, 3) := by decide +kernel
theorem dL_isSo_233 : decode cL_isSo 233 = .ok (.aload_n 0, 1) := by decide +kernel
theorem dL_isSo_234 : decode cL_isSo 234 = .ok (.bipush 8, 2) := by decide +kernel
theorem dL_isSo_236 : decode cL_isSo 236 = .ok (.invokevirtual 94, 3) := by decide +kernel
theorem dL_isSo_239 : decode cL_isSo 239 = .ok (.aload_n 1, 1) := by decide +kernel
theorem dL_isSo_240 : decode cL_isSo 240 = .ok (.bipush 7, 2) := by decide +kernel
theorem dL_isSo_242 : decode cL_isSo 242 = .ok (.iaload, 1) := by decide +kernel
theorem dL_isSo_243 : decode cL_isSo 243 = .ok (.ldc 113, 2) := by decide +kernel
theorem dL_isSo_245 : decode cL_isSo 245 = .ok (.iadd, 1) := by decide +kernel
theorem dL_isSo_246 : decode cL_isSo 246 = .ok (.if_icmp .ne 59, 3) := by decide +kernel
theorem dL_isSo_249 : decode cL_isSo 249 = .ok (.aload_n 0, 1) := by decide +kernel
theorem dL_isSo_250 : decode cL_isSo 250 = .ok (.bipush 9, 2) := by decide +kernel
theorem dL_isSo_252 : decode cL_isSo 252 = .ok (.invokevirtual 94, 3) := by decide +kernel
theorem dL_isSo_255 : decode cL_isSo 255 = .ok (.aload_n 1, 1) := by decide +kernel
theorem dL_isSo_256 : decode cL_isSo 256 = .ok (.bipush 8, 2) := by decide +kernel
theorem dL_isSo_258 : decode cL_isSo 258 = .ok (.iaload, 1) := by decide +kernel
theorem dL_isSo_259 : decode cL_isSo 259 = .ok (.if_icmp .ne 46, 3) := by decide +kernel
theorem dL_isSo_262 : decode cL_isSo 262 = .ok (.aload_n 0, 1) := by decide +kernel
theorem dL_isSo_263 : decode cL_isSo 263 = .ok (.bipush 10, 2) := by decide +kernel
theorem dL_isSo_265 : decode cL_isSo 265 = .ok (.invokevirtual 94, 3) := by decide +kernel
theorem dL_isSo_268 : decode cL_isSo 268 = .ok (.aload_n 1, 1) := by decide +kernel
theorem dL_isSo_269 : decode cL_isSo 269 = .ok (.bipush 10, 2) := by decide +kernel
theorem dL_isSo_271 : decode cL_isSo 271 = .ok (.iaload, 1) := by decide +kernel
theorem dL_isSo_272 : decode cL_isSo 272 = .ok (.if_icmp .ne 33, 3) := by decide +kernel
theorem dL_isSo_275 : decode cL_isSo 275 = .ok (.aload_n 0, 1) := by decide +kernel
theorem dL_isSo_276 : decode cL_isSo 276 = .ok (.bipush 11, 2) := by decide +kernel
theorem dL_isSo_278 : decode cL_isSo 278 = .ok (.invokevirtual 94, 3) := by decide +kernel
theorem dL_isSo_281 : decode cL_isSo 281 = .ok (.aload_n 1, 1) := by decide +kernel
theorem dL_isSo_282 : decode cL_isSo 282 = .ok (.bipush 11, 2) := by decide +kernel
theorem dL_isSo_284 : decode cL_isSo 284 = .ok (.iaload, 1) := by decide +kernel
theorem dL_isSo_285 : decode cL_isSo 285 = .ok (.if_icmp .ne 20, 3) := by decide +kernel
theorem dL_isSo_288 : decode cL_isSo 288 = .ok (.aload_n 0, 1) := by decide +kernel
theorem dL_isSo_289 : decode cL_isSo 289 = .ok (.bipush 15, 2) := by decide +kernel
theorem dL_isSo_291 : decode cL_isSo 291 = .ok (.invokevirtual 94, 3) := by decide +kernel
theorem dL_isSo_294 : decode cL_isSo 294 = .ok (.aload_n 1, 1) := by decide +kernel
theorem dL_isSo_295 : decode cL_isSo 295 = .ok (.bipush 9, 2) := by decide +kernel
theorem dL_isSo_297 : decode cL_isSo 297 = .ok (.iaload, 1) := by decide +kernel
theorem dL_isSo_298 : decode cL_isSo 298 = .ok (.if_icmp .ne 7, 3) := by decide +kernel
theorem dL_isSo_301 : decode cL_isSo 301 = .ok (.iconst 1, 1) := by decide +kernel
theorem dL_isSo_302 : decode cL_isSo 302 = .ok (.goto 4, 3) := by decide +kernel
theorem dL_isSo_305 : decode cL_isSo 305 = .ok (.iconst 0, 1) := by decide +kernel
theorem dL_isSo_306 : decode cL_isSo 306 = .ok (.istore 5, 2) := by decide +kernel
theorem dL_isSo_308 : decode cL_isSo 308 = .ok (.iconst 0, 1) := by decide +kernel
theorem dL_isSo_309 : decode cL_isSo 309 = .ok (.istore 6, 2) := by decide +kernel
theorem dL_isSo_311 : decode cL_isSo 311 = .ok (.iload 6, 2) := by decide +kernel
theorem dL_isSo_313 : decode cL_isSo 313 = .ok (.iconst 4, 1) := by decide +kernel
theorem dL_isSo_314 : decode cL_isSo 314 = .ok (.if_icmp .ge 40, 3) := by decide +kernel
theorem dL_isSo_317 : decode cL_isSo 317 = .ok (.iload 5, 2) := by decide +kernel
theorem dL_isSo_319 : decode cL_isSo 319 = .ok (.ifCond .eq 26, 3) := by decide +kernel
theorem dL_isSo_322 : decode cL_isSo 322 = .ok (.aload_n 0, 1) := by decide +kernel
theorem dL_isSo_323 : decode cL_isSo 323 = .ok (.bipush 16, 2) := by decide +kernel
theorem dL_isSo_325 : decode cL_isSo 325 = .ok (.iload 6, 2) := by decide +kernel
theorem dL_isSo_327 : decode cL_isSo 327 = .ok (.iadd, 1) := by decide +kernel
theorem dL_isSo_328 : decode cL_isSo 328 = .ok (.invokevirtual 94, 3) := by decide +kernel
theorem dL_isSo_331 : decode cL_isSo 331 = .ok (.aload_n 1, 1) := by decide +kernel
theorem dL_isSo_332 : decode cL_isSo 332 = .ok (.bipush 12, 2) := by decide +kernel
theorem dL_isSo_334 : decode cL_isSo 334 = .ok (.iload 6, 2) := by decide +kernel
theorem dL_isSo_336 : decode cL_isSo 336 = .ok (.iadd, 1) := by decide +kernel
theorem dL_isSo_337 : decode cL_isSo 337 = .ok (.iaload, 1) := by decide +kernel
theorem dL_isSo_338 : decode cL_isSo 338 = .ok (.if_icmp .ne 7, 3) := by decide +kernel
theorem dL_isSo_341 : decode cL_isSo 341 = .ok (.iconst 1, 1) := by decide +kernel
theorem dL_isSo_342 : decode cL_isSo 342 = .ok (.goto 4, 3) := by decide +kernel
theorem dL_isSo_345 : decode cL_isSo 345 = .ok (.iconst 0, 1) := by decide +kernel
theorem dL_isSo_346 : decode cL_isSo 346 = .ok (.istore 5, 2) := by decide +kernel
theorem dL_isSo_348 : decode cL_isSo 348 = .ok (.iinc 6 1, 3) := by decide +kernel
theorem dL_isSo_351 : decode cL_isSo 351 = .ok (.goto (-40), 3) := by decide +kernel
theorem dL_isSo_354 : decode cL_isSo 354 = .ok (.iload 5, 2) := by decide +kernel
theorem dL_isSo_356 : decode cL_isSo 356 = .ok (.ifCond .eq 45, 3) := by decide +kernel
theorem dL_isSo_359 : decode cL_isSo 359 = .ok (.aload_n 0, 1) := by decide +kernel
theorem dL_isSo_360 : decode cL_isSo 360 = .ok (.aload_n 1, 1) := by decide +kernel
theorem dL_isSo_361 : decode cL_isSo 361 = .ok (.aload_n 2, 1) := by decide +kernel
theorem dL_isSo_362 : decode cL_isSo 362 = .ok (.aload_n 3, 1) := by decide +kernel
theorem dL_isSo_363 : decode cL_isSo 363 = .ok (.invokestatic 114, 3) := by decide +kernel
theorem dL_isSo_366 : decode cL_isSo 366 = .ok (.ifCond .eq 35, 3) := by decide +kernel
theorem dL_isSo_369 : decode cL_isSo 369 = .ok (.aload_n 0, 1) := by decide +kernel
theorem dL_isSo_370 : decode cL_isSo 370 = .ok (.invokevirtual 118, 3) := by decide +kernel
theorem dL_isSo_373 : decode cL_isSo 373 = .ok (.aload_n 1, 1) := by decide +kernel
theorem dL_isSo_374 : decode cL_isSo 374 = .ok (.iconst 0, 1) := by decide +kernel
theorem dL_isSo_375 : decode cL_isSo 375 = .ok (.iaload, 1) := by decide +kernel
theorem dL_isSo_376 : decode cL_isSo 376 = .ok (.ifCond .ne 7, 3) := by decide +kernel
theorem dL_isSo_379 : decode cL_isSo 379 = .ok (.dconst 1, 1) := by decide +kernel
theorem dL_isSo_380 : decode cL_isSo 380 = .ok (.goto 13, 3) := by decide +kernel
theorem dL_isSo_383 : decode cL_isSo 383 = .ok (.aload_n 1, 1) := by decide +kernel
theorem dL_isSo_384 : decode cL_isSo 384 = .ok (.bipush 9, 2) := by decide +kernel
theorem dL_isSo_386 : decode cL_isSo 386 = .ok (.iaload, 1) := by decide +kernel
theorem dL_isSo_387 : decode cL_isSo 387 = .ok (.i2d, 1) := by decide +kernel
theorem dL_isSo_388 : decode cL_isSo 388 = .ok (.aload_n 1, 1) := by decide +kernel
theorem dL_isSo_389 : decode cL_isSo 389 = .ok (.iconst 0, 1) := by decide +kernel
theorem dL_isSo_390 : decode cL_isSo 390 = .ok (.iaload, 1) := by decide +kernel
theorem dL_isSo_391 : decode cL_isSo 391 = .ok (.i2d, 1) := by decide +kernel
theorem dL_isSo_392 : decode cL_isSo 392 = .ok (.ddiv, 1) := by decide +kernel
theorem dL_isSo_393 : decode cL_isSo 393 = .ok (.dcmp .l, 1) := by decide +kernel
theorem dL_isSo_394 : decode cL_isSo 394 = .ok (.ifCond .ne 7, 3) := by decide +kernel
theorem dL_isSo_397 : decode cL_isSo 397 = .ok (.iconst 1, 1) := by decide +kernel
theorem dL_isSo_398 : decode cL_isSo 398 = .ok (.goto 4, 3) := by decide +kernel
theorem dL_isSo_401 : decode cL_isSo 401 = .ok (.iconst 0, 1) := by decide +kernel
theorem dL_isSo_402 : decode cL_isSo 402 = .ok (.ireturn, 1) := by decide +kernel
set_option maxRecDepth 20000 in
theorem ggL_act_L_low : GoodIn wsL_act wsL_low := goodIn_r _ [4, 5] (by decide +kernel) (by decide +kernel)
set_option maxRecDepth 20000 in
theorem gL_act_L_low : GoodIn wsL_act (va_wsS RL 97 yL_low wsL_low) := goodIn_app (goodIn_of _ (by decide +kernel)) ggL_act_L_low
set_option maxRecDepth 20000 in
theorem ggL_act_L_wind : GoodIn wsL_act wsL_wind := goodIn_ca (goodIn_r _ [8, 9, 10, 11, 12, 13, 14, 15, 16, 17, 18, 19, 20, 21, 22, 23, 24, 25, 26, 27, 28, 29, 30, 31, 32, 33, 34, 35, 36, 37, 38, 39, 40, 41, 42, 43, 44, 45, 46, 47, 48, 49, 50, 51, 52, 53, 54, 55, 56, 57, 58, 59, 60, 61, 62, 63, 64, 65, 66, 67, 68, 69, 70, 71, 72, 73, 74, 75, 76, 77, 78, 79, 80, 81, 261, 262, 263, 264, 265, 266, 267, 268, 269, 270, 271, 272, 273, 274, 275, 276, 277, 278, 279, 280, 281, 282, 283, 284, 285, 286, 287, 288, 289] (by decide +kernel) (by decide +kernel)) (goodIn_sub (fun _ h => List.mem_cons_of_mem _ (List.mem_append_left _ (List.mem_append_left _ (List.mem_append_right _ h)))) (by decide +kernel))
set_option maxRecDepth 20000 in
theorem gL_act_L_wind : GoodIn wsL_act (va_wsS RL 122 yL_wind wsL_wind) := goodIn_app (goodIn_of _ (by decide +kernel)) ggL_act_L_wind
set_option maxRecDepth 20000 in
theorem ggL_act_L_why : GoodIn wsL_act wsL_why := goodIn_r _ [84, 85, 86, 3, 87, 88, 89, 90] (by decide +kernel) (by decide +kernel)
set_option maxRecDepth 20000 in
theorem gL_act_L_why : GoodIn wsL_act (va_wsS RL 88 yL_why wsL_why) := goodIn_app (goodIn_of _ (by decide +kernel)) ggL_act_L_why
set_option maxRecDepth 20000 in
theorem ggL_act_L_read : GoodIn wsL_act wsL_read := goodIn_ca (goodIn_ca (goodIn_r _ [93, 94, 95, 96, 97, 98, 13, 99, 100, 101, 16, 15, 17, 102, 103, 104, 105, 106, 107, 108, 109, 110, 111, 112, 39, 113, 41, 114, 43, 115, 42, 116, 117, 118, 55, 119, 61, 63, 120, 121, 34, 122, 123, 124, 125, 126, 60, 127, 128, 129, 130, 131, 132, 72, 133, 76, 24, 25, 26, 27, 28, 29, 30, 31, 32, 33, 35, 36, 37, 38, 40, 44, 45, 46, 47, 48, 49, 50, 51, 52, 53, 54, 56, 57, 58, 59, 62, 64, 65, 66, 67, 68, 69, 70, 71, 73, 74, 75, 134, 135, 136, 137, 138, 139, 140, 141, 142, 143, 144, 145, 146, 147, 148, 149, 150, 151, 152, 153, 154, 155, 156, 157, 158, 159, 160, 161, 261, 262, 263, 264, 265, 266, 267, 268, 269, 270, 271, 272, 273, 274, 275, 276, 277, 278, 279, 280, 281, 282, 283, 284, 288, 289, 285, 286, 287] (by decide +kernel) (by decide +kernel)) (goodIn_sub (fun _ h => List.mem_cons_of_mem _ (List.mem_append_left _ (List.mem_append_right _ h))) (by decide +kernel))) (goodIn_sub (fun _ h => List.mem_cons_of_mem _ (List.mem_append_right _ h)) (by decide +kernel))
set_option maxRecDepth 20000 in
theorem gL_act_L_read : GoodIn wsL_act (va_wsS RL 125 yL_read wsL_read) := goodIn_app (goodIn_of _ (by decide +kernel)) ggL_act_L_read
set_option maxRecDepth 20000 in
theorem ggL_act_L_rate : GoodIn wsL_act wsL_rate := goodIn_r _ [164, 85, 86, 3, 87, 165, 166, 167, 168] (by decide +kernel) (by decide +kernel)
set_option maxRecDepth 20000 in
theorem gL_act_L_rate : GoodIn wsL_act (va_wsS RL 73 yL_rate wsL_rate) := goodIn_app (goodIn_of _ (by decide +kernel)) ggL_act_L_rate
set_option maxRecDepth 20000 in
theorem ggL_act_L_beat : GoodIn wsL_act wsL_beat := goodIn_r _ [90] (by decide +kernel) (by decide +kernel)
set_option maxRecDepth 20000 in
theorem gL_act_L_beat : GoodIn wsL_act (va_wsS RL 66 yL_beat wsL_beat) := goodIn_app (goodIn_of _ (by decide +kernel)) ggL_act_L_beat
set_option maxRecDepth 20000 in
theorem ggL_act_L_swing : GoodIn wsL_act wsL_swing := goodIn_r _ [87] (by decide +kernel) (by decide +kernel)
set_option maxRecDepth 20000 in
theorem gL_act_L_swing : GoodIn wsL_act (va_wsS RL 56 yL_swing wsL_swing) := goodIn_app (goodIn_of _ (by decide +kernel)) ggL_act_L_swing
set_option maxRecDepth 20000 in
theorem ggL_act_L_hours : GoodIn wsL_act wsL_hours := goodIn_r _ [171, 172, 173, 3, 174, 175, 176, 177, 85, 86, 87, 162, 163, 164, 165, 166, 167, 168] (by decide +kernel) (by decide +kernel)
set_option maxRecDepth 20000 in
theorem gL_act_L_hours : GoodIn wsL_act (va_wsS RL 100 yL_hours wsL_hours) := goodIn_app (goodIn_of _ (by decide +kernel)) ggL_act_L_hours
set_option maxRecDepth 20000 in
theorem ggL_act_L_pass : GoodIn wsL_act wsL_pass := goodIn_ca (goodIn_r _ [180, 9, 181, 182, 183, 13, 184, 15, 16, 17, 19, 20, 21, 22, 23, 24, 25, 26, 27, 28, 29, 30, 31, 32, 33, 34, 35, 36, 37, 38, 39, 40, 41, 42, 43, 44, 45, 46, 47, 48, 49, 50, 51, 52, 53, 54, 55, 56, 57, 58, 59, 60, 61, 62, 63, 64, 65, 66, 67, 68, 69, 70, 71, 72, 73, 74, 75, 76, 185, 186, 187, 188, 189, 190, 191, 192, 81, 193, 194, 195, 196, 150, 117, 118, 119, 120, 121, 122, 197, 147, 148, 149, 151, 152, 153, 154, 108, 109, 155, 156, 157, 158, 261, 262, 263, 264, 265, 266, 267, 268, 269, 270, 271, 272, 273, 285, 286, 287, 274, 275, 276, 277, 278, 279, 280, 281, 282, 283, 284, 288, 289] (by decide +kernel) (by decide +kernel)) (goodIn_sub (fun _ h => List.mem_cons_of_mem _ (List.mem_append_left _ (List.mem_append_left _ (List.mem_append_right _ h)))) (by decide +kernel))
set_option maxRecDepth 20000 in
theorem gL_act_L_pass : GoodIn wsL_act (va_wsS RL 127 yL_pass wsL_pass) := goodIn_app (goodIn_of _ (by decide +kernel)) ggL_act_L_pass
set_option maxRecDepth 20000 in
theorem ggL_act_L_weigh : GoodIn wsL_act wsL_weigh := goodIn_ca (goodIn_ca (goodIn_r _ [200, 94, 9, 201, 202, 203, 13, 204, 15, 16, 17, 102, 103, 104, 105, 106, 107, 108, 109, 19, 20, 21, 22, 23, 24, 25, 26, 27, 28, 29, 30, 31, 32, 33, 34, 35, 36, 37, 38, 39, 40, 41, 42, 43, 44, 45, 46, 47, 48, 49, 50, 51, 52, 53, 54, 55, 56, 57, 58, 59, 60, 61, 62, 63, 64, 65, 66, 67, 68, 69, 70, 71, 72, 73, 74, 75, 76, 205, 152, 153, 154, 206, 207, 208, 209, 261, 262, 263, 264, 265, 266, 267, 268, 269, 270, 271, 272, 273, 285, 286, 287, 274, 275, 276, 277, 278, 279, 280, 281, 282, 283, 284, 288, 289] (by decide +kernel) (by decide +kernel)) (goodIn_sub (fun _ h => List.mem_cons_of_mem _ (List.mem_append_right _ h)) (by decide +kernel))) (goodIn_sub (fun _ h => List.mem_cons_of_mem _ (List.mem_append_left _ (List.mem_append_left _ (List.mem_append_right _ h)))) (by decide +kernel))
set_option maxRecDepth 20000 in
theorem gL_act_L_weigh : GoodIn wsL_act (va_wsS RL 129 yL_weigh wsL_weigh) := goodIn_app (goodIn_of _ (by decide +kernel)) ggL_act_L_weigh
set_option maxRecDepth 20000 in
theorem ggL_act_L_adjust : GoodIn wsL_act wsL_adjust := goodIn_ca (goodIn_r _ [212, 9, 213, 214, 215, 13, 216, 15, 16, 17, 217, 218, 19, 20, 21, 22, 23, 24, 25, 26, 27, 28, 29, 30, 31, 32, 33, 34, 35, 36, 37, 38, 39, 40, 41, 42, 43, 44, 45, 46, 47, 48, 49, 50, 51, 52, 53, 54, 55, 56, 57, 58, 59, 60, 61, 62, 63, 64, 65, 66, 67, 68, 69, 70, 71, 72, 73, 74, 75, 76, 261, 262, 263, 264, 265, 266, 267, 268, 269, 270, 271, 272, 273, 274, 275, 276, 277, 278, 279, 280, 281, 282, 283, 284, 285, 286, 287, 288, 289] (by decide +kernel) (by decide +kernel)) (goodIn_sub (fun _ h => List.mem_cons_of_mem _ (List.mem_append_left _ (List.mem_append_left _ (List.mem_append_right _ h)))) (by decide +kernel))
set_option maxRecDepth 20000 in
theorem gL_act_L_adjust : GoodIn wsL_act (va_wsS RL 132 yL_adjust wsL_adjust) := goodIn_app (goodIn_of _ (by decide +kernel)) ggL_act_L_adjust
set_option maxRecDepth 20000 in
theorem ggL_act_L_magnetise : GoodIn wsL_act wsL_magnetise := goodIn_ca (goodIn_r _ [221, 9, 222, 223, 224, 13, 225, 15, 16, 17, 226, 227, 33, 34, 35, 19, 20, 21, 22, 23, 24, 25, 26, 27, 28, 29, 30, 31, 32, 36, 37, 38, 39, 40, 41, 42, 43, 44, 45, 46, 47, 48, 49, 50, 51, 52, 53, 54, 55, 56, 57, 58, 59, 60, 61, 62, 63, 64, 65, 66, 67, 68, 69, 70, 71, 72, 73, 74, 75, 76, 261, 262, 263, 264, 265, 266, 267, 268, 269, 270, 271, 272, 273, 274, 275, 276, 277, 278, 279, 280, 281, 282, 283, 284, 285, 286, 287, 288, 289] (by decide +kernel) (by decide +kernel)) (goodIn_sub (fun _ h => List.mem_cons_of_mem _ (List.mem_append_left _ (List.mem_append_left _ (List.mem_append_right _ h)))) (by decide +kernel))
set_option maxRecDepth 20000 in
theorem gL_act_L_magnetise : GoodIn wsL_act (va_wsS RL 134 yL_magnetise wsL_magnetise) := goodIn_app (goodIn_of _ (by decide +kernel)) ggL_act_L_magnetise
set_option maxRecDepth 20000 in
theorem ggL_act_X5_demagnetise : GoodIn wsL_act wsX5_demagnetise := goodIn_r _ [231, 15, 16, 17, 226, 24, 25, 26, 27, 28, 29, 30, 31, 32, 33, 34, 35, 36, 37, 38, 39, 40, 41, 42, 43, 44, 45, 46, 47, 48, 49, 50, 51, 52, 53, 54, 55, 56, 57, 58, 59, 60, 61, 62, 63, 64, 65, 66, 67, 68, 69, 70, 71, 72, 73, 74, 75, 76, 261, 262, 263, 264, 265, 266, 267, 268, 269, 270, 271, 272, 273, 274, 275, 276, 277, 278, 279, 280, 281, 282, 283, 284, 285, 286, 287, 288, 289] (by decide +kernel) (by decide +kernel)
set_option maxRecDepth 20000 in
theorem gL_act_X5_demagnetise : GoodIn wsL_act (wsV RL 136 RX5 yX5_demagnetise wsX5_demagnetise) := goodIn_app (goodIn_of _ (by decide +kernel)) ggL_act_X5_demagnetise
set_option maxRecDepth 20000 in
theorem ggL_act_X5_clean : GoodIn wsL_act wsX5_clean := goodIn_r _ [235, 15, 16, 17, 236, 24, 25, 26, 27, 28, 29, 30, 31, 32, 33, 34, 35, 36, 37, 38, 39, 40, 41, 42, 43, 44, 45, 46, 47, 48, 49, 50, 51, 52, 53, 54, 55, 56, 57, 58, 59, 60, 61, 62, 63, 64, 65, 66, 67, 68, 69, 70, 71, 72, 73, 74, 75, 76, 261, 262, 263, 264, 265, 266, 267, 268, 269, 270, 271, 272, 273, 274, 275, 276, 277, 278, 279, 280, 281, 282, 283, 284, 285, 286, 287, 288, 289] (by decide +kernel) (by decide +kernel)
set_option maxRecDepth 20000 in
theorem gL_act_X5_clean : GoodIn wsL_act (wsV RL 139 RX5 yX5_clean wsX5_clean) := goodIn_app (goodIn_of _ (by decide +kernel)) ggL_act_X5_clean
set_option maxRecDepth 20000 in
theorem ggL_act_L_lay : GoodIn wsL_act wsL_lay := goodIn_ca (goodIn_r _ [239, 94, 240, 241, 242, 13, 243, 15, 16, 17, 244, 102, 103, 104, 105, 106, 107, 108, 109, 24, 25, 26, 27, 28, 29, 30, 31, 32, 33, 34, 35, 36, 37, 38, 39, 40, 41, 42, 43, 44, 45, 46, 47, 48, 49, 50, 51, 52, 53, 54, 55, 56, 57, 58, 59, 60, 61, 62, 63, 64, 65, 66, 67, 68, 69, 70, 71, 72, 73, 74, 75, 76, 261, 262, 263, 264, 265, 266, 267, 268, 269, 270, 271, 272, 273, 274, 275, 276, 277, 278, 279, 280, 281, 282, 283, 284, 285, 286, 287, 288, 289] (by decide +kernel) (by decide +kernel)) (goodIn_sub (fun _ h => List.mem_cons_of_mem _ (List.mem_append_right _ h)) (by decide +kernel))
set_option maxRecDepth 20000 in
theorem gL_act_L_lay : GoodIn wsL_act (va_wsS RL 142 yL_lay wsL_lay) := goodIn_app (goodIn_of _ (by decide +kernel)) ggL_act_L_lay
set_option maxRecDepth 20000 in
theorem ggL_act_X5_renew : GoodIn wsL_act wsX5_renew := goodIn_r _ [248, 15, 16, 249, 250, 24, 25, 26, 27, 28, 29, 30, 31, 32, 33, 34, 35, 36, 37, 38, 39, 40, 41, 42, 43, 44, 45, 46, 47, 48, 49, 50, 51, 52, 53, 54, 55, 56, 57, 58, 59, 60, 61, 62, 63, 64, 65, 66, 67, 68, 69, 70, 71, 72, 73, 74, 75, 76, 261, 262, 263, 264, 265, 266, 267, 268, 269, 270, 271, 272, 273, 288, 289, 285, 286, 287, 274, 275, 276, 277, 278, 279, 280, 281, 282, 283, 284] (by decide +kernel) (by decide +kernel)
set_option maxRecDepth 20000 in
theorem gL_act_X5_renew : GoodIn wsL_act (wsV RL 144 RX5 yX5_renew wsX5_renew) := goodIn_app (goodIn_of _ (by decide +kernel)) ggL_act_X5_renew
set_option maxRecDepth 20000 in
theorem ggL_act_L_set : GoodIn wsL_act wsL_set := goodIn_ca (goodIn_ca (goodIn_r _ [253, 94, 9, 254, 255, 256, 13, 257, 105, 106, 258, 259, 15, 16, 260, 19, 20, 21, 22, 23, 24, 25, 26, 27, 28, 29, 30, 31, 32, 33, 34, 35, 36, 37, 38, 39, 40, 41, 42, 43, 44, 45, 46, 47, 48, 49, 50, 51, 52, 53, 54, 55, 56, 57, 58, 59, 60, 61, 62, 63, 64, 65, 66, 67, 68, 69, 70, 71, 72, 73, 74, 75, 76, 261, 262, 263, 264, 265, 266, 267, 268, 269, 270, 271, 272, 273, 285, 286, 287, 274, 275, 276, 277, 278, 279, 280, 281, 282, 283, 284, 288, 289] (by decide +kernel) (by decide +kernel)) (goodIn_sub (fun _ h => List.mem_cons_of_mem _ (List.mem_append_right _ h)) (by decide +kernel))) (goodIn_sub (fun _ h => List.mem_cons_of_mem _ (List.mem_append_left _ (List.mem_append_left _ (List.mem_append_right _ h)))) (by decide +kernel))
set_option maxRecDepth 20000 in
theorem gL_act_L_set : GoodIn wsL_act (va_wsS RL 147 yL_set wsL_set) := goodIn_app (goodIn_of _ (by decide +kernel)) ggL_act_L_set
theorem dL_act_0 : decode cL_act 0 = .ok (.iload_n 1, 1) := by decide +kernel
theorem dL_act_1 : decode cL_act 1 = .ok (.bipush 20, 2) := by decide +kernel
theorem dL_act_3 : decode cL_act 3 = .ok (.invokestatic 97, 3) := by decide +kernel
theorem dL_act_6 : decode cL_act 6 = .ok (.istore 7, 2) := by decide +kernel
theorem dL_act_8 : decode cL_act 8 = .ok (.iload 7, 2) := by decide +kernel
theorem dL_act_10 : decode cL_act 10 = .ok (.iconst 3, 1) := by decide +kernel
theorem dL_act_11 : decode cL_act 11 = .ok (.if_icmp .ge 77, 3) := by decide +kernel
theorem dL_act_14 : decode cL_act 14 = .ok (.iconst 1, 1) := by decide +kernel
theorem dL_act_15 : decode cL_act 15 = .ok (.iload_n 2, 1) := by decide +kernel
theorem dL_act_16 : decode cL_act 16 = .ok (.bipush 48, 2) := by decide +kernel
theorem dL_act_18 : decode cL_act 18 = .ok (.invokestatic 97, 3) := by decide +kernel
theorem dL_act_21 : decode cL_act 21 = .ok (.iadd, 1) := by decide +kernel
theorem dL_act_22 : decode cL_act 22 = .ok (.istore 8, 2) := by decide +kernel
theorem dL_act_24 : decode cL_act 24 = .ok (.aload_n 3, 1) := by decide +kernel
theorem dL_act_25 : decode cL_act 25 = .ok (.iconst 1, 1) := by decide +kernel
theorem dL_act_26 : decode cL_act 26 = .ok (.aload_n 3, 1) := by decide +kernel
theorem dL_act_27 : decode cL_act 27 = .ok (.iconst 1, 1) := by decide +kernel
theorem dL_act_28 : decode cL_act 28 = .ok (.iaload, 1) := by decide +kernel
theorem dL_act_29 : decode cL_act 29 = .ok (.iload 8, 2) := by decide +kernel
theorem dL_act_31 : decode cL_act 31 = .ok (.iadd, 1) := by decide +kernel
theorem dL_act_32 : decode cL_act 32 = .ok (.bipush 48, 2) := by decide +kernel
theorem dL_act_34 : decode cL_act 34 = .ok (.if_icmp .le 8, 3) := by decide +kernel
theorem dL_act_37 : decode cL_act 37 = .ok (.bipush 48, 2) := by decide +kernel
theorem dL_act_39 : decode cL_act 39 = .ok (.goto 9, 3) := by decide +kernel
theorem dL_act_42 : decode cL_act 42 = .ok (.aload_n 3, 1) := by decide +kernel
theorem dL_act_43 : decode cL_act 43 = .ok (.iconst 1, 1) := by decide +kernel
theorem dL_act_44 : decode cL_act 44 = .ok (.iaload, 1) := by decide +kernel
theorem dL_act_45 : decode cL_act 45 = .ok (.iload 8, 2) := by decide +kernel
end
section
theorem dL_act_47 : decode cL_act 47 = .ok (.iadd, 1) := by decide +kernel
theorem dL_act_48 : decode cL_act 48 = .ok (.iastore, 1) := by decide +kernel
theorem dL_act_49 : decode cL_act 49 = .ok (.aload_n 0, 1) := by decide +kernel
theorem dL_act_50 : decode cL_act 50 = .ok (.iload 8, 2) := by decide +kernel
theorem dL_act_52 : decode cL_act 52 = .ok (.invokestatic 122, 3) := by decide +kernel
theorem dL_act_55 : decode cL_act 55 = .ok (.aload_n 3, 1) := by decide +kernel
theorem dL_act_56 : decode cL_act 56 = .ok (.iconst 1, 1) := by decide +kernel
theorem dL_act_57 : decode cL_act 57 = .ok (.iaload, 1) := by decide +kernel
theorem dL_act_58 : decode cL_act 58 = .ok (.if_icmp .ne 28, 3) := by decide +kernel
theorem dL_act_61 : decode cL_act 61 = .ok (.aload_n 0, 1) := by decide +kernel
theorem dL_act_62 : decode cL_act 62 = .ok (.iconst 0, 1) := by decide +kernel
theorem dL_act_63 : decode cL_act 63 = .ok (.invokestatic 122, 3) := by decide +kernel
theorem dL_act_66 : decode cL_act 66 = .ok (.bipush (-32), 2) := by decide +kernel
theorem dL_act_68 : decode cL_act 68 = .ok (.if_icmp .ne 18, 3) := by decide +kernel
theorem dL_act_71 : decode cL_act 71 = .ok (.aload_n 0, 1) := by decide +kernel
theorem dL_act_72 : decode cL_act 72 = .ok (.bipush 49, 2) := by decide +kernel
theorem dL_act_74 : decode cL_act 74 = .ok (.invokestatic 122, 3) := by decide +kernel
theorem dL_act_77 : decode cL_act 77 = .ok (.bipush (-32), 2) := by decide +kernel
theorem dL_act_79 : decode cL_act 79 = .ok (.if_icmp .ne 7, 3) := by decide +kernel
theorem dL_act_82 : decode cL_act 82 = .ok (.iconst 1, 1) := by decide +kernel
theorem dL_act_83 : decode cL_act 83 = .ok (.goto 4, 3) := by decide +kernel
theorem dL_act_86 : decode cL_act 86 = .ok (.iconst 0, 1) := by decide +kernel
theorem dL_act_87 : decode cL_act 87 = .ok (.ireturn, 1) := by decide +kernel
theorem dL_act_88 : decode cL_act 88 = .ok (.iload 7, 2) := by decide +kernel
theorem dL_act_90 : decode cL_act 90 = .ok (.bipush 10, 2) := by decide +kernel
theorem dL_act_92 : decode cL_act 92 = .ok (.if_icmp .ge 148, 3) := by decide +kernel
theorem dL_act_95 : decode cL_act 95 = .ok (.iload_n 2, 1) := by decide +kernel
theorem dL_act_96 : decode cL_act 96 = .ok (.bipush 6, 2) := by decide +kernel
theorem dL_act_98 : decode cL_act 98 = .ok (.invokestatic 97, 3) := by decide +kernel
theorem dL_act_101 : decode cL_act 101 = .ok (.istore 8, 2) := by decide +kernel
theorem dL_act_103 : decode cL_act 103 = .ok (.aload_n 3, 1) := by decide +kernel
theorem dL_act_104 : decode cL_act 104 = .ok (.iload 8, 2) := by decide +kernel
theorem dL_act_106 : decode cL_act 106 = .ok (.invokestatic 88, 3) := by decide +kernel
theorem dL_act_109 : decode cL_act 109 = .ok (.ifCond .le 31, 3) := by decide +kernel
theorem dL_act_112 : decode cL_act 112 = .ok (.aload_n 0, 1) := by decide +kernel
theorem dL_act_113 : decode cL_act 113 = .ok (.iload 8, 2) := by decide +kernel
theorem dL_act_115 : decode cL_act 115 = .ok (.invokestatic 125, 3) := by decide +kernel
theorem dL_act_118 : decode cL_act 118 = .ok (.bipush (-33), 2) := by decide +kernel
theorem dL_act_120 : decode cL_act 120 = .ok (.if_icmp .ne 18, 3) := by decide +kernel
theorem dL_act_123 : decode cL_act 123 = .ok (.aload_n 0, 1) := by decide +kernel
theorem dL_act_124 : decode cL_act 124 = .ok (.bipush 6, 2) := by decide +kernel
theorem dL_act_126 : decode cL_act 126 = .ok (.invokestatic 125, 3) := by decide +kernel
theorem dL_act_129 : decode cL_act 129 = .ok (.bipush (-31), 2) := by decide +kernel
theorem dL_act_131 : decode cL_act 131 = .ok (.if_icmp .ne 7, 3) := by decide +kernel
theorem dL_act_134 : decode cL_act 134 = .ok (.iconst 1, 1) := by decide +kernel
theorem dL_act_135 : decode cL_act 135 = .ok (.goto 4, 3) := by decide +kernel
theorem dL_act_138 : decode cL_act 138 = .ok (.iconst 0, 1) := by decide +kernel
theorem dL_act_139 : decode cL_act 139 = .ok (.ireturn, 1) := by decide +kernel
theorem dL_act_140 : decode cL_act 140 = .ok (.aload_n 3, 1) := by decide +kernel
theorem dL_act_141 : decode cL_act 141 = .ok (.bipush 6, 2) := by decide +kernel
theorem dL_act_143 : decode cL_act 143 = .ok (.iload 8, 2) := by decide +kernel
theorem dL_act_145 : decode cL_act 145 = .ok (.iastore, 1) := by decide +kernel
theorem dL_act_146 : decode cL_act 146 = .ok (.aload 4, 2) := by decide +kernel
theorem dL_act_148 : decode cL_act 148 = .ok (.aload_n 3, 1) := by decide +kernel
theorem dL_act_149 : decode cL_act 149 = .ok (.bipush 10, 2) := by decide +kernel
theorem dL_act_151 : decode cL_act 151 = .ok (.iaload, 1) := by decide +kernel
theorem dL_act_152 : decode cL_act 152 = .ok (.bipush 100, 2) := by decide +kernel
theorem dL_act_154 : decode cL_act 154 = .ok (.aload_n 3, 1) := by decide +kernel
theorem dL_act_155 : decode cL_act 155 = .ok (.iconst 0, 1) := by decide +kernel
theorem dL_act_156 : decode cL_act 156 = .ok (.iaload, 1) := by decide +kernel
theorem dL_act_157 : decode cL_act 157 = .ok (.imul, 1) := by decide +kernel
theorem dL_act_158 : decode cL_act 158 = .ok (.iload 8, 2) := by decide +kernel
theorem dL_act_160 : decode cL_act 160 = .ok (.iadd, 1) := by decide +kernel
theorem dL_act_161 : decode cL_act 161 = .ok (.iastore, 1) := by decide +kernel
theorem dL_act_162 : decode cL_act 162 = .ok (.aload 5, 2) := by decide +kernel
theorem dL_act_164 : decode cL_act 164 = .ok (.aload_n 3, 1) := by decide +kernel
theorem dL_act_165 : decode cL_act 165 = .ok (.bipush 10, 2) := by decide +kernel
theorem dL_act_167 : decode cL_act 167 = .ok (.iaload, 1) := by decide +kernel
theorem dL_act_168 : decode cL_act 168 = .ok (.aload_n 3, 1) := by decide +kernel
theorem dL_act_169 : decode cL_act 169 = .ok (.iload 8, 2) := by decide +kernel
theorem dL_act_171 : decode cL_act 171 = .ok (.invokestatic 73, 3) := by decide +kernel
theorem dL_act_174 : decode cL_act 174 = .ok (.iastore, 1) := by decide +kernel
theorem dL_act_175 : decode cL_act 175 = .ok (.aload 6, 2) := by decide +kernel
theorem dL_act_177 : decode cL_act 177 = .ok (.aload_n 3, 1) := by decide +kernel
theorem dL_act_178 : decode cL_act 178 = .ok (.bipush 10, 2) := by decide +kernel
theorem dL_act_180 : decode cL_act 180 = .ok (.iaload, 1) := by decide +kernel
theorem dL_act_181 : decode cL_act 181 = .ok (.sipush 1000, 3) := by decide +kernel
theorem dL_act_184 : decode cL_act 184 = .ok (.aload_n 3, 1) := by decide +kernel
theorem dL_act_185 : decode cL_act 185 = .ok (.iload 8, 2) := by decide +kernel
theorem dL_act_187 : decode cL_act 187 = .ok (.invokestatic 66, 3) := by decide +kernel
theorem dL_act_190 : decode cL_act 190 = .ok (.imul, 1) := by decide +kernel
theorem dL_act_191 : decode cL_act 191 = .ok (.aload_n 3, 1) := by decide +kernel
theorem dL_act_192 : decode cL_act 192 = .ok (.iload 8, 2) := by decide +kernel
theorem dL_act_194 : decode cL_act 194 = .ok (.invokestatic 56, 3) := by decide +kernel
theorem dL_act_197 : decode cL_act 197 = .ok (.iadd, 1) := by decide +kernel
theorem dL_act_198 : decode cL_act 198 = .ok (.iastore, 1) := by decide +kernel
theorem dL_act_199 : decode cL_act 199 = .ok (.aload_n 3, 1) := by decide +kernel
theorem dL_act_200 : decode cL_act 200 = .ok (.bipush 10, 2) := by decide +kernel
theorem dL_act_202 : decode cL_act 202 = .ok (.dup2, 1) := by decide +kernel
theorem dL_act_203 : decode cL_act 203 = .ok (.iaload, 1) := by decide +kernel
theorem dL_act_204 : decode cL_act 204 = .ok (.iconst 1, 1) := by decide +kernel
theorem dL_act_205 : decode cL_act 205 = .ok (.iadd, 1) := by decide +kernel
theorem dL_act_206 : decode cL_act 206 = .ok (.iastore, 1) := by decide +kernel
theorem dL_act_207 : decode cL_act 207 = .ok (.aload_n 3, 1) := by decide +kernel
theorem dL_act_208 : decode cL_act 208 = .ok (.bipush 11, 2) := by decide +kernel
theorem dL_act_210 : decode cL_act 210 = .ok (.dup2, 1) := by decide +kernel
theorem dL_act_211 : decode cL_act 211 = .ok (.iaload, 1) := by decide +kernel
theorem dL_act_212 : decode cL_act 212 = .ok (.iconst 1, 1) := by decide +kernel
theorem dL_act_213 : decode cL_act 213 = .ok (.iadd, 1) := by decide +kernel
theorem dL_act_214 : decode cL_act 214 = .ok (.iastore, 1) := by decide +kernel
theorem dL_act_215 : decode cL_act 215 = .ok (.aload_n 0, 1) := by decide +kernel
theorem dL_act_216 : decode cL_act 216 = .ok (.iload 8, 2) := by decide +kernel
theorem dL_act_218 : decode cL_act 218 = .ok (.invokestatic 125, 3) := by decide +kernel
theorem dL_act_221 : decode cL_act 221 = .ok (.aload_n 3, 1) := by decide +kernel
theorem dL_act_222 : decode cL_act 222 = .ok (.iload 8, 2) := by decide +kernel
theorem dL_act_224 : decode cL_act 224 = .ok (.invokestatic 73, 3) := by decide +kernel
theorem dL_act_227 : decode cL_act 227 = .ok (.sipush 10000, 3) := by decide +kernel
theorem dL_act_230 : decode cL_act 230 = .ok (.iadd, 1) := by decide +kernel
theorem dL_act_231 : decode cL_act 231 = .ok (.if_icmp .ne 7, 3) := by decide +kernel
theorem dL_act_234 : decode cL_act 234 = .ok (.iconst 1, 1) := by decide +kernel
theorem dL_act_235 : decode cL_act 235 = .ok (.goto 4, 3) := by decide +kernel
theorem dL_act_238 : decode cL_act 238 = .ok (.iconst 0, 1) := by decide +kernel
theorem dL_act_239 : decode cL_act 239 = .ok (.ireturn, 1) := by decide +kernel
theorem dL_act_240 : decode cL_act 240 = .ok (.iload 7, 2) := by decide +kernel
theorem dL_act_242 : decode cL_act 242 = .ok (.bipush 14, 2) := by decide +kernel
theorem dL_act_244 : decode cL_act 244 = .ok (.if_icmp .ge 63, 3) := by decide +kernel
theorem dL_act_247 : decode cL_act 247 = .ok (.iconst 1, 1) := by decide +kernel
theorem dL_act_248 : decode cL_act 248 = .ok (.iload_n 2, 1) := by decide +kernel
theorem dL_act_249 : decode cL_act 249 = .ok (.iload_n 2, 1) := by decide +kernel
theorem dL_act_250 : decode cL_act 250 = .ok (.bipush 8, 2) := by decide +kernel
theorem dL_act_252 : decode cL_act 252 = .ok (.ishr, 1) := by decide +kernel
theorem dL_act_253 : decode cL_act 253 = .ok (.iconst 3, 1) := by decide +kernel
theorem dL_act_254 : decode cL_act 254 = .ok (.iand, 1) := by decide +kernel
theorem dL_act_255 : decode cL_act 255 = .ok (.ifCond .ne 8, 3) := by decide +kernel
theorem dL_act_258 : decode cL_act 258 = .ok (.bipush 99, 2) := by decide +kernel
theorem dL_act_260 : decode cL_act 260 = .ok (.goto 5, 3) := by decide +kernel
theorem dL_act_263 : decode cL_act 263 = .ok (.bipush 6, 2) := by decide +kernel
theorem dL_act_265 : decode cL_act 265 = .ok (.invokestatic 97, 3) := by decide +kernel
theorem dL_act_268 : decode cL_act 268 = .ok (.iadd, 1) := by decide +kernel
theorem dL_act_269 : decode cL_act 269 = .ok (.istore 8, 2) := by decide +kernel
theorem dL_act_271 : decode cL_act 271 = .ok (.aload_n 3, 1) := by decide +kernel
theorem dL_act_272 : decode cL_act 272 = .ok (.iload 8, 2) := by decide +kernel
theorem dL_act_274 : decode cL_act 274 = .ok (.invokestatic 100, 3) := by decide +kernel
theorem dL_act_277 : decode cL_act 277 = .ok (.istore 9, 2) := by decide +kernel
theorem dL_act_279 : decode cL_act 279 = .ok (.aload_n 0, 1) := by decide +kernel
theorem dL_act_280 : decode cL_act 280 = .ok (.iload 8, 2) := by decide +kernel
theorem dL_act_282 : decode cL_act 282 = .ok (.invokestatic 127, 3) := by decide +kernel
theorem dL_act_285 : decode cL_act 285 = .ok (.iload 9, 2) := by decide +kernel
theorem dL_act_287 : decode cL_act 287 = .ok (.if_icmp .ne 18, 3) := by decide +kernel
theorem dL_act_290 : decode cL_act 290 = .ok (.aload_n 0, 1) := by decide +kernel
theorem dL_act_291 : decode cL_act 291 = .ok (.bipush 100, 2) := by decide +kernel
theorem dL_act_293 : decode cL_act 293 = .ok (.invokestatic 127, 3) := by decide +kernel
theorem dL_act_296 : decode cL_act 296 = .ok (.bipush (-32), 2) := by decide +kernel
theorem dL_act_298 : decode cL_act 298 = .ok (.if_icmp .ne 7, 3) := by decide +kernel
theorem dL_act_301 : decode cL_act 301 = .ok (.iconst 1, 1) := by decide +kernel
theorem dL_act_302 : decode cL_act 302 = .ok (.goto 4, 3) := by decide +kernel
theorem dL_act_305 : decode cL_act 305 = .ok (.iconst 0, 1) := by decide +kernel
theorem dL_act_306 : decode cL_act 306 = .ok (.ireturn, 1) := by decide +kernel
theorem dL_act_307 : decode cL_act 307 = .ok (.iload 7, 2) := by decide +kernel
theorem dL_act_309 : decode cL_act 309 = .ok (.bipush 14, 2) := by decide +kernel
theorem dL_act_311 : decode cL_act 311 = .ok (.if_icmp .ne 89, 3) := by decide +kernel
theorem dL_act_314 : decode cL_act 314 = .ok (.iload_n 2, 1) := by decide +kernel
theorem dL_act_315 : decode cL_act 315 = .ok (.bipush 6, 2) := by decide +kernel
theorem dL_act_317 : decode cL_act 317 = .ok (.invokestatic 97, 3) := by decide +kernel
theorem dL_act_320 : decode cL_act 320 = .ok (.istore 8, 2) := by decide +kernel
theorem dL_act_322 : decode cL_act 322 = .ok (.aload_n 3, 1) := by decide +kernel
theorem dL_act_323 : decode cL_act 323 = .ok (.bipush 16, 2) := by decide +kernel
theorem dL_act_325 : decode cL_act 325 = .ok (.iload 8, 2) := by decide +kernel
theorem dL_act_327 : decode cL_act 327 = .ok (.iadd, 1) := by decide +kernel
theorem dL_act_328 : decode cL_act 328 = .ok (.iaload, 1) := by decide +kernel
theorem dL_act_329 : decode cL_act 329 = .ok (.istore 9, 2) := by decide +kernel
theorem dL_act_331 : decode cL_act 331 = .ok (.aload_n 3, 1) := by decide +kernel
theorem dL_act_332 : decode cL_act 332 = .ok (.bipush 16, 2) := by decide +kernel
theorem dL_act_334 : decode cL_act 334 = .ok (.iload 8, 2) := by decide +kernel
theorem dL_act_336 : decode cL_act 336 = .ok (.iadd, 1) := by decide +kernel
theorem dL_act_337 : decode cL_act 337 = .ok (.iload_n 2, 1) := by decide +kernel
theorem dL_act_338 : decode cL_act 338 = .ok (.iconst 3, 1) := by decide +kernel
theorem dL_act_339 : decode cL_act 339 = .ok (.ishr, 1) := by decide +kernel
theorem dL_act_340 : decode cL_act 340 = .ok (.bipush 121, 2) := by decide +kernel
theorem dL_act_342 : decode cL_act 342 = .ok (.invokestatic 97, 3) := by decide +kernel
theorem dL_act_345 : decode cL_act 345 = .ok (.bipush 60, 2) := by decide +kernel
theorem dL_act_347 : decode cL_act 347 = .ok (.isub, 1) := by decide +kernel
theorem dL_act_348 : decode cL_act 348 = .ok (.iastore, 1) := by decide +kernel
theorem dL_act_349 : decode cL_act 349 = .ok (.aload_n 0, 1) := by decide +kernel
theorem dL_act_350 : decode cL_act 350 = .ok (.iload 8, 2) := by decide +kernel
theorem dL_act_352 : decode cL_act 352 = .ok (.aload_n 3, 1) := by decide +kernel
theorem dL_act_353 : decode cL_act 353 = .ok (.bipush 16, 2) := by decide +kernel
theorem dL_act_355 : decode cL_act 355 = .ok (.iload 8, 2) := by decide +kernel
theorem dL_act_357 : decode cL_act 357 = .ok (.iadd, 1) := by decide +kernel
theorem dL_act_358 : decode cL_act 358 = .ok (.iaload, 1) := by decide +kernel
theorem dL_act_359 : decode cL_act 359 = .ok (.invokestatic 129, 3) := by decide +kernel
theorem dL_act_362 : decode cL_act 362 = .ok (.iload 9, 2) := by decide +kernel
theorem dL_act_364 : decode cL_act 364 = .ok (.bipush 100, 2) := by decide +kernel
theorem dL_act_366 : decode cL_act 366 = .ok (.iadd, 1) := by decide +kernel
theorem dL_act_367 : decode cL_act 367 = .ok (.if_icmp .ne 31, 3) := by decide +kernel
theorem dL_act_370 : decode cL_act 370 = .ok (.aload_n 0, 1) := by decide +kernel
theorem dL_act_371 : decode cL_act 371 = .ok (.bipush 6, 2) := by decide +kernel
theorem dL_act_373 : decode cL_act 373 = .ok (.iconst 0, 1) := by decide +kernel
theorem dL_act_374 : decode cL_act 374 = .ok (.invokestatic 129, 3) := by decide +kernel
theorem dL_act_377 : decode cL_act 377 = .ok (.bipush (-31), 2) := by decide +kernel
theorem dL_act_379 : decode cL_act 379 = .ok (.if_icmp .ne 19, 3) := by decide +kernel
theorem dL_act_382 : decode cL_act 382 = .ok (.aload_n 0, 1) := by decide +kernel
theorem dL_act_383 : decode cL_act 383 = .ok (.iconst 0, 1) := by decide +kernel
theorem dL_act_384 : decode cL_act 384 = .ok (.bipush 61, 2) := by decide +kernel
theorem dL_act_386 : decode cL_act 386 = .ok (.invokestatic 129, 3) := by decide +kernel
theorem dL_act_389 : decode cL_act 389 = .ok (.bipush (-32), 2) := by decide +kernel
theorem dL_act_391 : decode cL_act 391 = .ok (.if_icmp .ne 7, 3) := by decide +kernel
theorem dL_act_394 : decode cL_act 394 = .ok (.iconst 1, 1) := by decide +kernel
theorem dL_act_395 : decode cL_act 395 = .ok (.goto 4, 3) := by decide +kernel
theorem dL_act_398 : decode cL_act 398 = .ok (.iconst 0, 1) := by decide +kernel
theorem dL_act_399 : decode cL_act 399 = .ok (.ireturn, 1) := by decide +kernel
theorem dL_act_400 : decode cL_act 400 = .ok (.iload 7, 2) := by decide +kernel
theorem dL_act_402 : decode cL_act 402 = .ok (.bipush 15, 2) := by decide +kernel
theorem dL_act_404 : decode cL_act 404 = .ok (.if_icmp .ne 122, 3) := by decide +kernel
theorem dL_act_407 : decode cL_act 407 = .ok (.aload_n 3, 1) := by decide +kernel
theorem dL_act_408 : decode cL_act 408 = .ok (.iconst 2, 1) := by decide +kernel
theorem dL_act_409 : decode cL_act 409 = .ok (.iaload, 1) := by decide +kernel
theorem dL_act_410 : decode cL_act 410 = .ok (.istore 8, 2) := by decide +kernel
theorem dL_act_412 : decode cL_act 412 = .ok (.aload_n 3, 1) := by decide +kernel
theorem dL_act_413 : decode cL_act 413 = .ok (.iconst 2, 1) := by decide +kernel
theorem dL_act_414 : decode cL_act 414 = .ok (.iload_n 2, 1) := by decide +kernel
theorem dL_act_415 : decode cL_act 415 = .ok (.sipush 199, 3) := by decide +kernel
theorem dL_act_418 : decode cL_act 418 = .ok (.invokestatic 97, 3) := by decide +kernel
theorem dL_act_421 : decode cL_act 421 = .ok (.bipush 99, 2) := by decide +kernel
theorem dL_act_423 : decode cL_act 423 = .ok (.isub, 1) := by decide +kernel
theorem dL_act_424 : decode cL_act 424 = .ok (.iastore, 1) := by decide +kernel
theorem dL_act_425 : decode cL_act 425 = .ok (.aload_n 3, 1) := by decide +kernel
theorem dL_act_426 : decode cL_act 426 = .ok (.iconst 3, 1) := by decide +kernel
theorem dL_act_427 : decode cL_act 427 = .ok (.iload_n 2, 1) := by decide +kernel
theorem dL_act_428 : decode cL_act 428 = .ok (.bipush 8, 2) := by decide +kernel
theorem dL_act_430 : decode cL_act 430 = .ok (.ishr, 1) := by decide +kernel
theorem dL_act_431 : decode cL_act 431 = .ok (.iload_n 2, 1) := by decide +kernel
theorem dL_act_432 : decode cL_act 432 = .ok (.bipush 20, 2) := by decide +kernel
theorem dL_act_434 : decode cL_act 434 = .ok (.ishr, 1) := by decide +kernel
theorem dL_act_435 : decode cL_act 435 = .ok (.iconst 1, 1) := by decide +kernel
theorem dL_act_436 : decode cL_act 436 = .ok (.iand, 1) := by decide +kernel
theorem dL_act_437 : decode cL_act 437 = .ok (.ifCond .ne 8, 3) := by decide +kernel
theorem dL_act_440 : decode cL_act 440 = .ok (.bipush 101, 2) := by decide +kernel
theorem dL_act_442 : decode cL_act 442 = .ok (.goto 5, 3) := by decide +kernel
theorem dL_act_445 : decode cL_act 445 = .ok (.bipush 20, 2) := by decide +kernel
theorem dL_act_447 : decode cL_act 447 = .ok (.invokestatic 97, 3) := by decide +kernel
theorem dL_act_450 : decode cL_act 450 = .ok (.bipush 50, 2) := by decide +kernel
theorem dL_act_452 : decode cL_act 452 = .ok (.isub, 1) := by decide +kernel
theorem dL_act_453 : decode cL_act 453 = .ok (.iastore, 1) := by decide +kernel
theorem dL_act_454 : decode cL_act 454 = .ok (.aload_n 3, 1) := by decide +kernel
theorem dL_act_455 : decode cL_act 455 = .ok (.iconst 3, 1) := by decide +kernel
theorem dL_act_456 : decode cL_act 456 = .ok (.iload_n 2, 1) := by decide +kernel
theorem dL_act_457 : decode cL_act 457 = .ok (.bipush 20, 2) := by decide +kernel
theorem dL_act_459 : decode cL_act 459 = .ok (.ishr, 1) := by decide +kernel
theorem dL_act_460 : decode cL_act 460 = .ok (.iconst 1, 1) := by decide +kernel
theorem dL_act_461 : decode cL_act 461 = .ok (.iand, 1) := by decide +kernel
theorem dL_act_462 : decode cL_act 462 = .ok (.ifCond .ne 9, 3) := by decide +kernel
theorem dL_act_465 : decode cL_act 465 = .ok (.aload_n 3, 1) := by decide +kernel
theorem dL_act_466 : decode cL_act 466 = .ok (.iconst 3, 1) := by decide +kernel
theorem dL_act_467 : decode cL_act 467 = .ok (.iaload, 1) := by decide +kernel
theorem dL_act_468 : decode cL_act 468 = .ok (.goto 9, 3) := by decide +kernel
theorem dL_act_471 : decode cL_act 471 = .ok (.aload_n 3, 1) := by decide +kernel
theorem dL_act_472 : decode cL_act 472 = .ok (.iconst 3, 1) := by decide +kernel
theorem dL_act_473 : decode cL_act 473 = .ok (.iaload, 1) := by decide +kernel
theorem dL_act_474 : decode cL_act 474 = .ok (.bipush 40, 2) := by decide +kernel
theorem dL_act_476 : decode cL_act 476 = .ok (.iadd, 1) := by decide +kernel
theorem dL_act_477 : decode cL_act 477 = .ok (.iastore, 1) := by decide +kernel
theorem dL_act_478 : decode cL_act 478 = .ok (.aload_n 0, 1) := by decide +kernel
theorem dL_act_479 : decode cL_act 479 = .ok (.aload_n 3, 1) := by decide +kernel
theorem dL_act_480 : decode cL_act 480 = .ok (.iconst 2, 1) := by decide +kernel
theorem dL_act_481 : decode cL_act 481 = .ok (.iaload, 1) := by decide +kernel
theorem dL_act_482 : decode cL_act 482 = .ok (.aload_n 3, 1) := by decide +kernel
theorem dL_act_483 : decode cL_act 483 = .ok (.iconst 3, 1) := by decide +kernel
theorem dL_act_484 : decode cL_act 484 = .ok (.iaload, 1) := by decide +kernel
theorem dL_act_485 : decode cL_act 485 = .ok (.invokestatic 132, 3) := by decide +kernel
theorem dL_act_488 : decode cL_act 488 = .ok (.iload 8, 2) := by decide +kernel
theorem dL_act_490 : decode cL_act 490 = .ok (.bipush 100, 2) := by decide +kernel
theorem dL_act_492 : decode cL_act 492 = .ok (.iadd, 1) := by decide +kernel
theorem dL_act_493 : decode cL_act 493 = .ok (.if_icmp .ne 31, 3) := by decide +kernel
theorem dL_act_496 : decode cL_act 496 = .ok (.aload_n 0, 1) := by decide +kernel
theorem dL_act_497 : decode cL_act 497 = .ok (.bipush 100, 2) := by decide +kernel
theorem dL_act_499 : decode cL_act 499 = .ok (.iconst 0, 1) := by decide +kernel
theorem dL_act_500 : decode cL_act 500 = .ok (.invokestatic 132, 3) := by decide +kernel
theorem dL_act_503 : decode cL_act 503 = .ok (.bipush (-32), 2) := by decide +kernel
theorem dL_act_505 : decode cL_act 505 = .ok (.if_icmp .ne 19, 3) := by decide +kernel
theorem dL_act_508 : decode cL_act 508 = .ok (.aload_n 0, 1) := by decide +kernel
theorem dL_act_509 : decode cL_act 509 = .ok (.iconst 0, 1) := by decide +kernel
theorem dL_act_510 : decode cL_act 510 = .ok (.bipush (-51), 2) := by decide +kernel
theorem dL_act_512 : decode cL_act 512 = .ok (.invokestatic 132, 3) := by decide +kernel
theorem dL_act_515 : decode cL_act 515 = .ok (.bipush (-32), 2) := by decide +kernel
theorem dL_act_517 : decode cL_act 517 = .ok (.if_icmp .ne 7, 3) := by decide +kernel
theorem dL_act_520 : decode cL_act 520 = .ok (.iconst 1, 1) := by decide +kernel
theorem dL_act_521 : decode cL_act 521 = .ok (.goto 4, 3) := by decide +kernel
theorem dL_act_524 : decode cL_act 524 = .ok (.iconst 0, 1) := by decide +kernel
theorem dL_act_525 : decode cL_act 525 = .ok (.ireturn, 1) := by decide +kernel
theorem dL_act_526 : decode cL_act 526 = .ok (.iload 7, 2) := by decide +kernel
theorem dL_act_528 : decode cL_act 528 = .ok (.bipush 16, 2) := by decide +kernel
theorem dL_act_530 : decode cL_act 530 = .ok (.if_icmp .ne 112, 3) := by decide +kernel
theorem dL_act_533 : decode cL_act 533 = .ok (.iload_n 2, 1) := by decide +kernel
theorem dL_act_534 : decode cL_act 534 = .ok (.iconst 1, 1) := by decide +kernel
theorem dL_act_535 : decode cL_act 535 = .ok (.iand, 1) := by decide +kernel
theorem dL_act_536 : decode cL_act 536 = .ok (.ifCond .ne 82, 3) := by decide +kernel
theorem dL_act_539 : decode cL_act 539 = .ok (.iconst 1, 1) := by decide +kernel
theorem dL_act_540 : decode cL_act 540 = .ok (.iload_n 2, 1) := by decide +kernel
theorem dL_act_541 : decode cL_act 541 = .ok (.iconst 1, 1) := by decide +kernel
theorem dL_act_542 : decode cL_act 542 = .ok (.ishr, 1) := by decide +kernel
theorem dL_act_543 : decode cL_act 543 = .ok (.iload_n 2, 1) := by decide +kernel
theorem dL_act_544 : decode cL_act 544 = .ok (.bipush 9, 2) := by decide +kernel
theorem dL_act_546 : decode cL_act 546 = .ok (.ishr, 1) := by decide +kernel
theorem dL_act_547 : decode cL_act 547 = .ok (.iconst 1, 1) := by decide +kernel
theorem dL_act_548 : decode cL_act 548 = .ok (.iand, 1) := by decide +kernel
theorem dL_act_549 : decode cL_act 549 = .ok (.ifCond .ne 8, 3) := by decide +kernel
theorem dL_act_552 : decode cL_act 552 = .ok (.bipush 20, 2) := by decide +kernel
theorem dL_act_554 : decode cL_act 554 = .ok (.goto 5, 3) := by decide +kernel
theorem dL_act_557 : decode cL_act 557 = .ok (.bipush 100, 2) := by decide +kernel
theorem dL_act_559 : decode cL_act 559 = .ok (.invokestatic 97, 3) := by decide +kernel
theorem dL_act_562 : decode cL_act 562 = .ok (.iadd, 1) := by decide +kernel
theorem dL_act_563 : decode cL_act 563 = .ok (.istore 8, 2) := by decide +kernel
theorem dL_act_565 : decode cL_act 565 = .ok (.aload_n 3, 1) := by decide +kernel
theorem dL_act_566 : decode cL_act 566 = .ok (.iconst 4, 1) := by decide +kernel
theorem dL_act_567 : decode cL_act 567 = .ok (.aload_n 3, 1) := by decide +kernel
theorem dL_act_568 : decode cL_act 568 = .ok (.iconst 4, 1) := by decide +kernel
theorem dL_act_569 : decode cL_act 569 = .ok (.iaload, 1) := by decide +kernel
theorem dL_act_570 : decode cL_act 570 = .ok (.iload 8, 2) := by decide +kernel
end
section
theorem dL_act_572 : decode cL_act 572 = .ok (.iadd, 1) := by decide +kernel
theorem dL_act_573 : decode cL_act 573 = .ok (.bipush 100, 2) := by decide +kernel
theorem dL_act_575 : decode cL_act 575 = .ok (.if_icmp .le 8, 3) := by decide +kernel
theorem dL_act_578 : decode cL_act 578 = .ok (.bipush 100, 2) := by decide +kernel
theorem dL_act_580 : decode cL_act 580 = .ok (.goto 9, 3) := by decide +kernel
theorem dL_act_583 : decode cL_act 583 = .ok (.aload_n 3, 1) := by decide +kernel
theorem dL_act_584 : decode cL_act 584 = .ok (.iconst 4, 1) := by decide +kernel
theorem dL_act_585 : decode cL_act 585 = .ok (.iaload, 1) := by decide +kernel
theorem dL_act_586 : decode cL_act 586 = .ok (.iload 8, 2) := by decide +kernel
theorem dL_act_588 : decode cL_act 588 = .ok (.iadd, 1) := by decide +kernel
theorem dL_act_589 : decode cL_act 589 = .ok (.iastore, 1) := by decide +kernel
theorem dL_act_590 : decode cL_act 590 = .ok (.aload_n 0, 1) := by decide +kernel
theorem dL_act_591 : decode cL_act 591 = .ok (.iload 8, 2) := by decide +kernel
theorem dL_act_593 : decode cL_act 593 = .ok (.invokestatic 134, 3) := by decide +kernel
theorem dL_act_596 : decode cL_act 596 = .ok (.aload_n 3, 1) := by decide +kernel
theorem dL_act_597 : decode cL_act 597 = .ok (.iconst 4, 1) := by decide +kernel
theorem dL_act_598 : decode cL_act 598 = .ok (.iaload, 1) := by decide +kernel
theorem dL_act_599 : decode cL_act 599 = .ok (.if_icmp .ne 17, 3) := by decide +kernel
theorem dL_act_602 : decode cL_act 602 = .ok (.aload_n 0, 1) := by decide +kernel
theorem dL_act_603 : decode cL_act 603 = .ok (.iconst 0, 1) := by decide +kernel
theorem dL_act_604 : decode cL_act 604 = .ok (.invokestatic 134, 3) := by decide +kernel
theorem dL_act_607 : decode cL_act 607 = .ok (.bipush (-32), 2) := by decide +kernel
theorem dL_act_609 : decode cL_act 609 = .ok (.if_icmp .ne 7, 3) := by decide +kernel
theorem dL_act_612 : decode cL_act 612 = .ok (.iconst 1, 1) := by decide +kernel
theorem dL_act_613 : decode cL_act 613 = .ok (.goto 4, 3) := by decide +kernel
theorem dL_act_616 : decode cL_act 616 = .ok (.iconst 0, 1) := by decide +kernel
theorem dL_act_617 : decode cL_act 617 = .ok (.ireturn, 1) := by decide +kernel
theorem dL_act_618 : decode cL_act 618 = .ok (.aload_n 3, 1) := by decide +kernel
theorem dL_act_619 : decode cL_act 619 = .ok (.iconst 4, 1) := by decide +kernel
theorem dL_act_620 : decode cL_act 620 = .ok (.iaload, 1) := by decide +kernel
theorem dL_act_621 : decode cL_act 621 = .ok (.istore 8, 2) := by decide +kernel
theorem dL_act_623 : decode cL_act 623 = .ok (.aload_n 3, 1) := by decide +kernel
theorem dL_act_624 : decode cL_act 624 = .ok (.iconst 4, 1) := by decide +kernel
theorem dL_act_625 : decode cL_act 625 = .ok (.iconst 0, 1) := by decide +kernel
theorem dL_act_626 : decode cL_act 626 = .ok (.iastore, 1) := by decide +kernel
theorem dL_act_627 : decode cL_act 627 = .ok (.aload_n 0, 1) := by decide +kernel
theorem dL_act_628 : decode cL_act 628 = .ok (.invokevirtual 136, 3) := by decide +kernel
theorem dL_act_631 : decode cL_act 631 = .ok (.iload 8, 2) := by decide +kernel
theorem dL_act_633 : decode cL_act 633 = .ok (.if_icmp .ne 7, 3) := by decide +kernel
theorem dL_act_636 : decode cL_act 636 = .ok (.iconst 1, 1) := by decide +kernel
theorem dL_act_637 : decode cL_act 637 = .ok (.goto 4, 3) := by decide +kernel
theorem dL_act_640 : decode cL_act 640 = .ok (.iconst 0, 1) := by decide +kernel
theorem dL_act_641 : decode cL_act 641 = .ok (.ireturn, 1) := by decide +kernel
theorem dL_act_642 : decode cL_act 642 = .ok (.iload 7, 2) := by decide +kernel
theorem dL_act_644 : decode cL_act 644 = .ok (.bipush 17, 2) := by decide +kernel
theorem dL_act_646 : decode cL_act 646 = .ok (.if_icmp .ne 81, 3) := by decide +kernel
theorem dL_act_649 : decode cL_act 649 = .ok (.iload_n 2, 1) := by decide +kernel
theorem dL_act_650 : decode cL_act 650 = .ok (.bipush 7, 2) := by decide +kernel
theorem dL_act_652 : decode cL_act 652 = .ok (.iand, 1) := by decide +kernel
theorem dL_act_653 : decode cL_act 653 = .ok (.ifCond .ne 27, 3) := by decide +kernel
theorem dL_act_656 : decode cL_act 656 = .ok (.aload_n 3, 1) := by decide +kernel
theorem dL_act_657 : decode cL_act 657 = .ok (.iconst 5, 1) := by decide +kernel
theorem dL_act_658 : decode cL_act 658 = .ok (.iaload, 1) := by decide +kernel
theorem dL_act_659 : decode cL_act 659 = .ok (.istore 8, 2) := by decide +kernel
theorem dL_act_661 : decode cL_act 661 = .ok (.aload_n 3, 1) := by decide +kernel
theorem dL_act_662 : decode cL_act 662 = .ok (.iconst 5, 1) := by decide +kernel
theorem dL_act_663 : decode cL_act 663 = .ok (.iconst 0, 1) := by decide +kernel
theorem dL_act_664 : decode cL_act 664 = .ok (.iastore, 1) := by decide +kernel
theorem dL_act_665 : decode cL_act 665 = .ok (.aload_n 0, 1) := by decide +kernel
theorem dL_act_666 : decode cL_act 666 = .ok (.invokevirtual 139, 3) := by decide +kernel
theorem dL_act_669 : decode cL_act 669 = .ok (.iload 8, 2) := by decide +kernel
theorem dL_act_671 : decode cL_act 671 = .ok (.if_icmp .ne 7, 3) := by decide +kernel
theorem dL_act_674 : decode cL_act 674 = .ok (.iconst 1, 1) := by decide +kernel
theorem dL_act_675 : decode cL_act 675 = .ok (.goto 4, 3) := by decide +kernel
theorem dL_act_678 : decode cL_act 678 = .ok (.iconst 0, 1) := by decide +kernel
theorem dL_act_679 : decode cL_act 679 = .ok (.ireturn, 1) := by decide +kernel
theorem dL_act_680 : decode cL_act 680 = .ok (.aload_n 3, 1) := by decide +kernel
theorem dL_act_681 : decode cL_act 681 = .ok (.bipush 6, 2) := by decide +kernel
theorem dL_act_683 : decode cL_act 683 = .ok (.iaload, 1) := by decide +kernel
theorem dL_act_684 : decode cL_act 684 = .ok (.istore 8, 2) := by decide +kernel
theorem dL_act_686 : decode cL_act 686 = .ok (.aload_n 3, 1) := by decide +kernel
theorem dL_act_687 : decode cL_act 687 = .ok (.bipush 6, 2) := by decide +kernel
theorem dL_act_689 : decode cL_act 689 = .ok (.iload_n 2, 1) := by decide +kernel
theorem dL_act_690 : decode cL_act 690 = .ok (.iconst 3, 1) := by decide +kernel
theorem dL_act_691 : decode cL_act 691 = .ok (.ishr, 1) := by decide +kernel
theorem dL_act_692 : decode cL_act 692 = .ok (.bipush 6, 2) := by decide +kernel
theorem dL_act_694 : decode cL_act 694 = .ok (.invokestatic 97, 3) := by decide +kernel
theorem dL_act_697 : decode cL_act 697 = .ok (.iastore, 1) := by decide +kernel
theorem dL_act_698 : decode cL_act 698 = .ok (.aload_n 0, 1) := by decide +kernel
theorem dL_act_699 : decode cL_act 699 = .ok (.aload_n 3, 1) := by decide +kernel
theorem dL_act_700 : decode cL_act 700 = .ok (.bipush 6, 2) := by decide +kernel
theorem dL_act_702 : decode cL_act 702 = .ok (.iaload, 1) := by decide +kernel
theorem dL_act_703 : decode cL_act 703 = .ok (.invokestatic 142, 3) := by decide +kernel
theorem dL_act_706 : decode cL_act 706 = .ok (.iload 8, 2) := by decide +kernel
theorem dL_act_708 : decode cL_act 708 = .ok (.if_icmp .ne 17, 3) := by decide +kernel
theorem dL_act_711 : decode cL_act 711 = .ok (.aload_n 0, 1) := by decide +kernel
theorem dL_act_712 : decode cL_act 712 = .ok (.iconst (-1), 1) := by decide +kernel
theorem dL_act_713 : decode cL_act 713 = .ok (.invokestatic 142, 3) := by decide +kernel
theorem dL_act_716 : decode cL_act 716 = .ok (.bipush (-31), 2) := by decide +kernel
theorem dL_act_718 : decode cL_act 718 = .ok (.if_icmp .ne 7, 3) := by decide +kernel
theorem dL_act_721 : decode cL_act 721 = .ok (.iconst 1, 1) := by decide +kernel
theorem dL_act_722 : decode cL_act 722 = .ok (.goto 4, 3) := by decide +kernel
theorem dL_act_725 : decode cL_act 725 = .ok (.iconst 0, 1) := by decide +kernel
theorem dL_act_726 : decode cL_act 726 = .ok (.ireturn, 1) := by decide +kernel
theorem dL_act_727 : decode cL_act 727 = .ok (.iload 7, 2) := by decide +kernel
theorem dL_act_729 : decode cL_act 729 = .ok (.bipush 18, 2) := by decide +kernel
theorem dL_act_731 : decode cL_act 731 = .ok (.if_icmp .ne 36, 3) := by decide +kernel
theorem dL_act_734 : decode cL_act 734 = .ok (.iload_n 2, 1) := by decide +kernel
theorem dL_act_735 : decode cL_act 735 = .ok (.bipush 7, 2) := by decide +kernel
theorem dL_act_737 : decode cL_act 737 = .ok (.iand, 1) := by decide +kernel
theorem dL_act_738 : decode cL_act 738 = .ok (.ifCond .ne 29, 3) := by decide +kernel
theorem dL_act_741 : decode cL_act 741 = .ok (.aload_n 3, 1) := by decide +kernel
theorem dL_act_742 : decode cL_act 742 = .ok (.bipush 10, 2) := by decide +kernel
theorem dL_act_744 : decode cL_act 744 = .ok (.iaload, 1) := by decide +kernel
theorem dL_act_745 : decode cL_act 745 = .ok (.istore 8, 2) := by decide +kernel
theorem dL_act_747 : decode cL_act 747 = .ok (.aload_n 3, 1) := by decide +kernel
theorem dL_act_748 : decode cL_act 748 = .ok (.bipush 10, 2) := by decide +kernel
theorem dL_act_750 : decode cL_act 750 = .ok (.iconst 0, 1) := by decide +kernel
theorem dL_act_751 : decode cL_act 751 = .ok (.iastore, 1) := by decide +kernel
theorem dL_act_752 : decode cL_act 752 = .ok (.aload_n 0, 1) := by decide +kernel
theorem dL_act_753 : decode cL_act 753 = .ok (.invokevirtual 144, 3) := by decide +kernel
theorem dL_act_756 : decode cL_act 756 = .ok (.iload 8, 2) := by decide +kernel
theorem dL_act_758 : decode cL_act 758 = .ok (.if_icmp .ne 7, 3) := by decide +kernel
theorem dL_act_761 : decode cL_act 761 = .ok (.iconst 1, 1) := by decide +kernel
theorem dL_act_762 : decode cL_act 762 = .ok (.goto 4, 3) := by decide +kernel
theorem dL_act_765 : decode cL_act 765 = .ok (.iconst 0, 1) := by decide +kernel
theorem dL_act_766 : decode cL_act 766 = .ok (.ireturn, 1) := by decide +kernel
theorem dL_act_767 : decode cL_act 767 = .ok (.iload_n 2, 1) := by decide +kernel
theorem dL_act_768 : decode cL_act 768 = .ok (.iconst 4, 1) := by decide +kernel
theorem dL_act_769 : decode cL_act 769 = .ok (.invokestatic 97, 3) := by decide +kernel
theorem dL_act_772 : decode cL_act 772 = .ok (.istore 8, 2) := by decide +kernel
theorem dL_act_774 : decode cL_act 774 = .ok (.aload_n 3, 1) := by decide +kernel
theorem dL_act_775 : decode cL_act 775 = .ok (.bipush 12, 2) := by decide +kernel
theorem dL_act_777 : decode cL_act 777 = .ok (.iload 8, 2) := by decide +kernel
theorem dL_act_779 : decode cL_act 779 = .ok (.iadd, 1) := by decide +kernel
theorem dL_act_780 : decode cL_act 780 = .ok (.iaload, 1) := by decide +kernel
theorem dL_act_781 : decode cL_act 781 = .ok (.istore 9, 2) := by decide +kernel
theorem dL_act_783 : decode cL_act 783 = .ok (.aload_n 3, 1) := by decide +kernel
theorem dL_act_784 : decode cL_act 784 = .ok (.bipush 12, 2) := by decide +kernel
theorem dL_act_786 : decode cL_act 786 = .ok (.iload 8, 2) := by decide +kernel
theorem dL_act_788 : decode cL_act 788 = .ok (.iadd, 1) := by decide +kernel
theorem dL_act_789 : decode cL_act 789 = .ok (.iload 8, 2) := by decide +kernel
theorem dL_act_791 : decode cL_act 791 = .ok (.ifCond .ne 18, 3) := by decide +kernel
theorem dL_act_794 : decode cL_act 794 = .ok (.bipush 10, 2) := by decide +kernel
theorem dL_act_796 : decode cL_act 796 = .ok (.iload_n 2, 1) := by decide +kernel
theorem dL_act_797 : decode cL_act 797 = .ok (.iconst 2, 1) := by decide +kernel
theorem dL_act_798 : decode cL_act 798 = .ok (.ishr, 1) := by decide +kernel
theorem dL_act_799 : decode cL_act 799 = .ok (.sipush 191, 3) := by decide +kernel
theorem dL_act_802 : decode cL_act 802 = .ok (.invokestatic 97, 3) := by decide +kernel
theorem dL_act_805 : decode cL_act 805 = .ok (.iadd, 1) := by decide +kernel
theorem dL_act_806 : decode cL_act 806 = .ok (.goto 51, 3) := by decide +kernel
theorem dL_act_809 : decode cL_act 809 = .ok (.iload 8, 2) := by decide +kernel
theorem dL_act_811 : decode cL_act 811 = .ok (.iconst 1, 1) := by decide +kernel
theorem dL_act_812 : decode cL_act 812 = .ok (.if_icmp .ne 14, 3) := by decide +kernel
theorem dL_act_815 : decode cL_act 815 = .ok (.iload_n 2, 1) := by decide +kernel
theorem dL_act_816 : decode cL_act 816 = .ok (.iconst 2, 1) := by decide +kernel
theorem dL_act_817 : decode cL_act 817 = .ok (.ishr, 1) := by decide +kernel
theorem dL_act_818 : decode cL_act 818 = .ok (.bipush 101, 2) := by decide +kernel
theorem dL_act_820 : decode cL_act 820 = .ok (.invokestatic 97, 3) := by decide +kernel
theorem dL_act_823 : decode cL_act 823 = .ok (.goto 34, 3) := by decide +kernel
theorem dL_act_826 : decode cL_act 826 = .ok (.iload 8, 2) := by decide +kernel
theorem dL_act_828 : decode cL_act 828 = .ok (.iconst 2, 1) := by decide +kernel
theorem dL_act_829 : decode cL_act 829 = .ok (.if_icmp .ne 17, 3) := by decide +kernel
theorem dL_act_832 : decode cL_act 832 = .ok (.iconst 1, 1) := by decide +kernel
theorem dL_act_833 : decode cL_act 833 = .ok (.iload_n 2, 1) := by decide +kernel
theorem dL_act_834 : decode cL_act 834 = .ok (.iconst 2, 1) := by decide +kernel
theorem dL_act_835 : decode cL_act 835 = .ok (.ishr, 1) := by decide +kernel
theorem dL_act_836 : decode cL_act 836 = .ok (.sipush 200, 3) := by decide +kernel
theorem dL_act_839 : decode cL_act 839 = .ok (.invokestatic 97, 3) := by decide +kernel
theorem dL_act_842 : decode cL_act 842 = .ok (.iadd, 1) := by decide +kernel
theorem dL_act_843 : decode cL_act 843 = .ok (.goto 14, 3) := by decide +kernel
theorem dL_act_846 : decode cL_act 846 = .ok (.iconst 5, 1) := by decide +kernel
theorem dL_act_847 : decode cL_act 847 = .ok (.iload_n 2, 1) := by decide +kernel
theorem dL_act_848 : decode cL_act 848 = .ok (.iconst 2, 1) := by decide +kernel
theorem dL_act_849 : decode cL_act 849 = .ok (.ishr, 1) := by decide +kernel
theorem dL_act_850 : decode cL_act 850 = .ok (.sipush 896, 3) := by decide +kernel
theorem dL_act_853 : decode cL_act 853 = .ok (.invokestatic 97, 3) := by decide +kernel
theorem dL_act_856 : decode cL_act 856 = .ok (.iadd, 1) := by decide +kernel
theorem dL_act_857 : decode cL_act 857 = .ok (.iastore, 1) := by decide +kernel
theorem dL_act_858 : decode cL_act 858 = .ok (.aload_n 0, 1) := by decide +kernel
theorem dL_act_859 : decode cL_act 859 = .ok (.iload 8, 2) := by decide +kernel
theorem dL_act_861 : decode cL_act 861 = .ok (.aload_n 3, 1) := by decide +kernel
theorem dL_act_862 : decode cL_act 862 = .ok (.bipush 12, 2) := by decide +kernel
theorem dL_act_864 : decode cL_act 864 = .ok (.iload 8, 2) := by decide +kernel
theorem dL_act_866 : decode cL_act 866 = .ok (.iadd, 1) := by decide +kernel
theorem dL_act_867 : decode cL_act 867 = .ok (.iaload, 1) := by decide +kernel
theorem dL_act_868 : decode cL_act 868 = .ok (.invokestatic 147, 3) := by decide +kernel
theorem dL_act_871 : decode cL_act 871 = .ok (.iload 9, 2) := by decide +kernel
theorem dL_act_873 : decode cL_act 873 = .ok (.if_icmp .ne 42, 3) := by decide +kernel
theorem dL_act_876 : decode cL_act 876 = .ok (.aload_n 0, 1) := by decide +kernel
theorem dL_act_877 : decode cL_act 877 = .ok (.iconst 4, 1) := by decide +kernel
theorem dL_act_878 : decode cL_act 878 = .ok (.iconst 0, 1) := by decide +kernel
theorem dL_act_879 : decode cL_act 879 = .ok (.invokestatic 147, 3) := by decide +kernel
theorem dL_act_882 : decode cL_act 882 = .ok (.bipush (-31), 2) := by decide +kernel
theorem dL_act_884 : decode cL_act 884 = .ok (.if_icmp .ne 31, 3) := by decide +kernel
theorem dL_act_887 : decode cL_act 887 = .ok (.aload_n 0, 1) := by decide +kernel
theorem dL_act_888 : decode cL_act 888 = .ok (.iconst 3, 1) := by decide +kernel
theorem dL_act_889 : decode cL_act 889 = .ok (.iconst 4, 1) := by decide +kernel
theorem dL_act_890 : decode cL_act 890 = .ok (.invokestatic 147, 3) := by decide +kernel
theorem dL_act_893 : decode cL_act 893 = .ok (.bipush (-32), 2) := by decide +kernel
theorem dL_act_895 : decode cL_act 895 = .ok (.if_icmp .ne 20, 3) := by decide +kernel
theorem dL_act_898 : decode cL_act 898 = .ok (.aload_n 0, 1) := by decide +kernel
theorem dL_act_899 : decode cL_act 899 = .ok (.iconst 2, 1) := by decide +kernel
theorem dL_act_900 : decode cL_act 900 = .ok (.sipush 201, 3) := by decide +kernel
theorem dL_act_903 : decode cL_act 903 = .ok (.invokestatic 147, 3) := by decide +kernel
theorem dL_act_906 : decode cL_act 906 = .ok (.bipush (-32), 2) := by decide +kernel
theorem dL_act_908 : decode cL_act 908 = .ok (.if_icmp .ne 7, 3) := by decide +kernel
theorem dL_act_911 : decode cL_act 911 = .ok (.iconst 1, 1) := by decide +kernel
theorem dL_act_912 : decode cL_act 912 = .ok (.goto 4, 3) := by decide +kernel
theorem dL_act_915 : decode cL_act 915 = .ok (.iconst 0, 1) := by decide +kernel
theorem dL_act_916 : decode cL_act 916 = .ok (.ireturn, 1) := by decide +kernel
set_option maxRecDepth 20000 in
theorem ggL_law_X5_init : GoodIn wsL_law wsX5_init := goodIn_r _ [6, 7, 8, 9, 10, 11, 12, 13, 14, 15, 16, 17, 18, 19, 20, 21, 22, 23, 24, 25, 26, 27, 28, 29, 30, 31, 32, 33, 34, 35, 36, 37, 38, 39, 40, 41, 42, 43, 44, 45, 46, 47, 48, 49, 50, 51, 52, 53, 54, 55, 56, 57, 58, 59, 60, 61, 62, 63, 64, 65, 66, 67, 68, 3, 69, 70, 71, 72, 73, 74, 75, 76, 77, 78, 79, 80, 81, 82, 83, 84, 85, 86, 87, 88, 89, 90, 476, 477, 478, 479, 480, 481, 482, 470, 471, 472, 473, 474, 475, 483, 484, 485, 486, 487, 488, 489, 490, 491, 492, 493, 494, 495, 496, 497, 498, 499, 500, 501, 502, 503, 504, 505, 506, 507] (by decide +kernel) (by decide +kernel)
set_option maxRecDepth 20000 in
theorem gL_law_X5_init : GoodIn wsL_law (wsX5_init) := ggL_law_X5_init
end
section
set_option maxRecDepth 20000 in
theorem gp_ggL_law_L_isSo_wsL_isSo_r1 : GoodIn wsL_law wsL_isSo_r1 := goodIn_r _ [95, 96, 97, 98, 2, 99, 100, 101, 102, 103, 104, 105, 106, 107, 108, 13, 109, 110, 111, 112, 113, 35, 114, 70] (by decide +kernel) (by decide +kernel)
set_option maxRecDepth 20000 in
theorem gp_ggL_law_L_isSo_wsL_isSo_r2 : GoodIn wsL_law wsL_isSo_r2 := goodIn_r _ [69, 115, 116, 117, 118, 119, 120, 121, 122, 123, 124, 125, 126, 127, 128, 129, 130, 131, 132, 133, 134, 135, 136, 18] (by decide +kernel) (by decide +kernel)
set_option maxRecDepth 20000 in
theorem gp_ggL_law_L_isSo_wsL_isSo_r3 : GoodIn wsL_law wsL_isSo_r3 := goodIn_r _ [137, 138, 139, 140, 25, 141, 58, 61, 142, 143, 144, 145, 60, 146, 147, 148, 149, 150, 151, 152, 12, 153, 36, 154] (by decide +kernel) (by decide +kernel)
set_option maxRecDepth 20000 in
theorem gp_ggL_law_L_isSo_wsL_isSo_r4 : GoodIn wsL_law wsL_isSo_r4 := goodIn_r _ [155, 156, 157, 158, 159, 160, 161, 162, 163, 32, 164, 44, 165, 166, 167, 168, 169, 170, 171, 172, 173, 174, 175, 176] (by decide +kernel) (by decide +kernel)
set_option maxRecDepth 20000 in
theorem gp_ggL_law_L_isSo_wsL_isSo_r5 : GoodIn wsL_law wsL_isSo_r5 := goodIn_r _ [177, 178, 179, 180, 181, 182, 93, 183, 184, 185, 186, 187, 188, 189, 3, 190, 191, 192, 193, 194, 195, 196, 197, 198] (by decide +kernel) (by decide +kernel)
set_option maxRecDepth 20000 in
theorem gp_ggL_law_L_isSo_wsL_isSo_r6 : GoodIn wsL_law wsL_isSo_r6 := goodIn_r _ [199, 200, 201, 202, 203, 204, 205, 206, 207, 208, 209, 210, 211, 212, 213, 214, 215, 216, 217, 218, 219, 220, 221, 222] (by decide +kernel) (by decide +kernel)
set_option maxRecDepth 20000 in
theorem gp_ggL_law_L_isSo_wsL_isSo_r7 : GoodIn wsL_law wsL_isSo_r7 := goodIn_r _ [223, 224, 225, 226, 55, 227, 228, 229, 230, 231, 56, 59, 232, 233, 234, 235, 236, 237, 57, 238, 239, 240, 241, 242] (by decide +kernel) (by decide +kernel)
set_option maxRecDepth 20000 in
theorem gp_ggL_law_L_isSo_wsL_isSo_r8 : GoodIn wsL_law wsL_isSo_r8 := goodIn_r _ [243, 244, 245, 246, 247, 248, 249, 250, 251, 252, 253, 254, 255, 256, 257, 258, 259, 260, 261, 262, 263, 264, 265, 266] (by decide +kernel) (by decide +kernel)
set_option maxRecDepth 20000 in
theorem gp_ggL_law_L_isSo_wsL_isSo_r9 : GoodIn wsL_law wsL_isSo_r9 := goodIn_r _ [267, 268, 269, 270, 26, 271, 272, 273, 274, 275, 276, 277, 278, 62, 63, 64, 65, 279, 280, 281, 282, 283, 284, 285] (by decide +kernel) (by decide +kernel)
set_option maxRecDepth 20000 in
theorem gp_ggL_law_L_isSo_wsL_isSo_r10 : GoodIn wsL_law wsL_isSo_r10 := goodIn_r _ [286, 287, 288, 289, 290, 291, 292, 293] (by decide +kernel) (by decide +kernel)
set_option maxRecDepth 20000 in
theorem gp_ggL_law_L_isSo_wsX50 : GoodIn wsL_law wsX50 := goodIn_r _ [470, 471, 472, 473, 474, 475] (by decide +kernel) (by decide +kernel)
set_option maxRecDepth 20000 in
theorem gp_ggL_law_L_isSo_wsX30 : GoodIn wsL_law wsX30 := goodIn_r _ [476, 477, 478, 479, 480, 481, 482] (by decide +kernel) (by decide +kernel)
set_option maxRecDepth 20000 in
theorem gp_ggL_law_L_isSo_wsX10 : GoodIn wsL_law wsX10 := goodIn_r _ [506, 507] (by decide +kernel) (by decide +kernel)
set_option maxRecDepth 20000 in
theorem gp_ggL_law_L_isSo_wsX40 : GoodIn wsL_law wsX40 := goodIn_r _ [495, 496, 497, 498, 499, 500, 501, 502, 503, 504, 505] (by decide +kernel) (by decide +kernel)
set_option maxRecDepth 20000 in
theorem gp_ggL_law_L_isSo_wsX20 : GoodIn wsL_law wsX20 := goodIn_r _ [483, 484, 485] (by decide +kernel) (by decide +kernel)
set_option maxRecDepth 20000 in
theorem gp_ggL_law_L_isSo_h : GoodIn wsL_law [.code yL_isSo cL_isSo 7 (some .boolean)] := goodIn_r _ [94] (by decide +kernel) (by decide +kernel)
set_option maxRecDepth 20000 in
theorem ggL_law_L_isSo : GoodIn wsL_law wsL_isSo := goodIn_ca (goodIn_ca (goodIn_app (a := [.code yL_isSo cL_isSo 7 (some .boolean)]) gp_ggL_law_L_isSo_h (goodIn_app (goodIn_app (goodIn_app (goodIn_app (goodIn_app (goodIn_app gp_ggL_law_L_isSo_wsL_isSo_r1 (goodIn_app gp_ggL_law_L_isSo_wsL_isSo_r2 (goodIn_app gp_ggL_law_L_isSo_wsL_isSo_r3 (goodIn_app gp_ggL_law_L_isSo_wsL_isSo_r4 (goodIn_app gp_ggL_law_L_isSo_wsL_isSo_r5 (goodIn_app gp_ggL_law_L_isSo_wsL_isSo_r6 (goodIn_app gp_ggL_law_L_isSo_wsL_isSo_r7 (goodIn_app gp_ggL_law_L_isSo_wsL_isSo_r8 (goodIn_app gp_ggL_law_L_isSo_wsL_isSo_r9 gp_ggL_law_L_isSo_wsL_isSo_r10))))))))) gp_ggL_law_L_isSo_wsX50) gp_ggL_law_L_isSo_wsX30) gp_ggL_law_L_isSo_wsX10) gp_ggL_law_L_isSo_wsX40) gp_ggL_law_L_isSo_wsX20)) (goodIn_sub (fun _ h => List.mem_append_left _ (List.mem_append_left _ (List.mem_append_right _ h))) (by decide +kernel))) (goodIn_sub (fun _ h => List.mem_append_left _ (List.mem_append_right _ h)) (by decide +kernel))
end
section
set_option maxRecDepth 20000 in
theorem gL_law_L_isSo : GoodIn wsL_law (va_wsS RL 150 yL_isSo wsL_isSo) := goodIn_app (goodIn_of _ (by decide +kernel)) ggL_law_L_isSo
end
section
set_option maxRecDepth 20000 in
theorem gp_ggL_law_L_isAhead_wsL_isAhead_r1 : GoodIn wsL_law wsL_isAhead_r1 := goodIn_r _ [3, 205, 193, 194, 93, 195, 297, 298, 299, 300, 301, 302, 303, 196, 197, 198, 181, 182, 183, 184, 185, 186, 199, 200] (by decide +kernel) (by decide +kernel)
set_option maxRecDepth 20000 in
theorem gp_ggL_law_L_isAhead_wsL_isAhead_r2 : GoodIn wsL_law wsL_isAhead_r2 := goodIn_r _ [201, 202, 203, 204, 304, 305, 306, 2, 307, 210, 211, 212, 213, 214, 215, 216, 217, 102, 103, 104, 100, 101, 308, 309] (by decide +kernel) (by decide +kernel)
set_option maxRecDepth 20000 in
theorem gp_ggL_law_L_isAhead_wsL_isAhead_r3 : GoodIn wsL_law wsL_isAhead_r3 := goodIn_r _ [310, 311, 26, 13, 123, 130, 131, 312, 271, 272, 273, 25, 274, 55, 275, 276, 277, 278, 56, 57, 58, 59, 60, 61] (by decide +kernel) (by decide +kernel)
set_option maxRecDepth 20000 in
theorem gp_ggL_law_L_isAhead_wsL_isAhead_r4 : GoodIn wsL_law wsL_isAhead_r4 := goodIn_r _ [62, 63, 64, 65, 279, 280, 281, 282, 283, 284, 285, 286, 287, 161, 148, 162, 288, 139, 140, 141, 142, 143, 144, 145] (by decide +kernel) (by decide +kernel)
set_option maxRecDepth 20000 in
theorem gp_ggL_law_L_isAhead_wsL_isAhead_r5 : GoodIn wsL_law wsL_isAhead_r5 := goodIn_r _ [146, 147, 149, 289, 229, 230, 231, 232, 224, 225, 226, 233, 172, 173, 174, 313, 314, 315, 316, 317, 318, 239, 240, 319] (by decide +kernel) (by decide +kernel)
set_option maxRecDepth 20000 in
theorem gp_ggL_law_L_isAhead_wsL_isAhead_r6 : GoodIn wsL_law wsL_isAhead_r6 := goodIn_r _ [320, 321, 322, 126, 228] (by decide +kernel) (by decide +kernel)
set_option maxRecDepth 20000 in
theorem gp_ggL_law_L_isAhead_wsX50 : GoodIn wsL_law wsX50 := goodIn_r _ [470, 471, 472, 473, 474, 475] (by decide +kernel) (by decide +kernel)
set_option maxRecDepth 20000 in
theorem gp_ggL_law_L_isAhead_wsX30 : GoodIn wsL_law wsX30 := goodIn_r _ [476, 477, 478, 479, 480, 481, 482] (by decide +kernel) (by decide +kernel)
set_option maxRecDepth 20000 in
theorem gp_ggL_law_L_isAhead_wsX40 : GoodIn wsL_law wsX40 := goodIn_r _ [495, 496, 497, 498, 499, 500, 501, 502, 503, 504, 505] (by decide +kernel) (by decide +kernel)
set_option maxRecDepth 20000 in
theorem gp_ggL_law_L_isAhead_h : GoodIn wsL_law [.code yL_isAhead cL_isAhead 15 (some .boolean)] := goodIn_r _ [296] (by decide +kernel) (by decide +kernel)
set_option maxRecDepth 20000 in
theorem ggL_law_L_isAhead : GoodIn wsL_law wsL_isAhead := goodIn_ca (goodIn_ca (goodIn_app (a := [.code yL_isAhead cL_isAhead 15 (some .boolean)]) gp_ggL_law_L_isAhead_h (goodIn_app (goodIn_app (goodIn_app (goodIn_app gp_ggL_law_L_isAhead_wsL_isAhead_r1 (goodIn_app gp_ggL_law_L_isAhead_wsL_isAhead_r2 (goodIn_app gp_ggL_law_L_isAhead_wsL_isAhead_r3 (goodIn_app gp_ggL_law_L_isAhead_wsL_isAhead_r4 (goodIn_app gp_ggL_law_L_isAhead_wsL_isAhead_r5 gp_ggL_law_L_isAhead_wsL_isAhead_r6))))) gp_ggL_law_L_isAhead_wsX50) gp_ggL_law_L_isAhead_wsX30) gp_ggL_law_L_isAhead_wsX40)) (goodIn_sub (fun _ h => List.mem_append_left _ (List.mem_append_right _ h)) (by decide +kernel))) (goodIn_sub (fun _ h => List.mem_append_left _ (List.mem_append_left _ (List.mem_append_right _ h))) (by decide +kernel))
end
section
set_option maxRecDepth 20000 in
theorem gL_law_L_isAhead : GoodIn wsL_law (va_wsS RL 154 yL_isAhead wsL_isAhead) := goodIn_app (goodIn_of _ (by decide +kernel)) ggL_law_L_isAhead
set_option maxRecDepth 20000 in
theorem ggL_law_L_undo : GoodIn wsL_law wsL_undo := goodIn_ca (goodIn_r _ [325, 326, 327, 328, 329, 2, 330, 331, 332, 18, 137, 13, 333, 334, 335, 17, 336, 78, 77, 76, 337, 338, 339, 12, 340, 32, 36, 44, 341, 276, 277, 278, 45, 46, 47, 48, 342, 272, 273, 25, 274, 55, 275, 56, 57, 58, 59, 60, 61, 62, 63, 64, 65, 343, 344, 345, 35, 346, 69, 347, 70, 470, 471, 472, 473, 474, 475, 483, 484, 485, 476, 477, 478, 479, 480, 481, 482, 495, 496, 497, 498, 499, 500, 501, 502, 503, 504, 505, 506, 507] (by decide +kernel) (by decide +kernel)) (goodIn_sub (fun _ h => List.mem_append_right _ h) (by decide +kernel))
set_option maxRecDepth 20000 in
theorem gL_law_L_undo : GoodIn wsL_law (va_wsS RL 158 yL_undo wsL_undo) := goodIn_app (goodIn_of _ (by decide +kernel)) ggL_law_L_undo
set_option maxRecDepth 20000 in
theorem ggL_law_L_restore : GoodIn wsL_law wsL_restore := goodIn_ca (goodIn_r _ [350, 326, 351, 352, 353, 2, 354, 331, 332, 27, 18, 13, 14, 123, 124, 355, 356, 357, 17, 358, 76, 77, 78, 359, 161, 148, 162, 337, 338, 339, 12, 340, 32, 36, 44, 341, 276, 277, 278, 45, 46, 47, 48, 342, 272, 273, 25, 274, 55, 275, 56, 57, 58, 59, 60, 61, 62, 63, 64, 65, 343, 344, 345, 35, 346, 69, 347, 70, 360, 470, 471, 472, 473, 474, 475, 476, 477, 478, 479, 480, 481, 482, 495, 496, 497, 498, 499, 500, 501, 502, 503, 504, 505, 483, 484, 485, 506, 507] (by decide +kernel) (by decide +kernel)) (goodIn_sub (fun _ h => List.mem_append_right _ h) (by decide +kernel))
set_option maxRecDepth 20000 in
theorem gL_law_L_restore : GoodIn wsL_law (va_wsS RL 161 yL_restore wsL_restore) := goodIn_app (goodIn_of _ (by decide +kernel)) ggL_law_L_restore
set_option maxRecDepth 20000 in
theorem ggL_law_L_pose : GoodIn wsL_law wsL_pose := goodIn_ca (goodIn_ca (goodIn_r _ [363, 364, 365, 206, 207, 208, 2, 209, 210, 211, 212, 213, 214, 215, 216, 217, 102, 103, 104, 100, 101, 218, 219, 220, 221, 13, 109, 123, 222, 166, 167, 35, 168, 70, 169, 112, 113, 114, 69, 223, 224, 225, 25, 226, 55, 227, 143, 144, 145, 58, 60, 146, 147, 148, 149, 228, 229, 230, 231, 56, 59, 142, 232, 233, 172, 173, 174, 234, 235, 236, 237, 57, 238, 239, 240, 241, 242, 243, 12, 244, 32, 245, 44, 246, 36, 247, 248, 249, 250, 251, 252, 111, 253, 254, 255, 256, 470, 471, 472, 473, 474, 475, 476, 477, 478, 479, 480, 481, 482, 506, 507, 495, 496, 497, 498, 499, 500, 501, 502, 503, 504, 505] (by decide +kernel) (by decide +kernel)) (goodIn_sub (fun _ h => List.mem_append_left _ (List.mem_append_right _ h)) (by decide +kernel))) (goodIn_sub (fun _ h => List.mem_append_left _ (List.mem_append_left _ (List.mem_append_right _ h))) (by decide +kernel))
set_option maxRecDepth 20000 in
theorem gL_law_L_pose : GoodIn wsL_law (va_wsS RL 163 yL_pose wsL_pose) := goodIn_app (goodIn_of _ (by decide +kernel)) ggL_law_L_pose
set_option maxRecDepth 20000 in
theorem ggL_law_L_reading : GoodIn wsL_law wsL_reading := goodIn_ca (goodIn_r _ [368, 365, 96, 97, 98, 2, 99, 100, 101, 102, 103, 104, 105, 106, 107, 108, 13, 109, 110, 111, 112, 113, 35, 114, 70, 69, 470, 471, 472, 473, 474, 475, 476, 477, 478, 479, 480, 481, 482, 506, 507] (by decide +kernel) (by decide +kernel)) (goodIn_sub (fun _ h => List.mem_append_left _ (List.mem_append_left _ (List.mem_append_right _ h))) (by decide +kernel))
set_option maxRecDepth 20000 in
theorem gL_law_L_reading : GoodIn wsL_law (va_wsS RL 165 yL_reading wsL_reading) := goodIn_app (goodIn_of _ (by decide +kernel)) ggL_law_L_reading
set_option maxRecDepth 20000 in
theorem ggL_law_L_cell : GoodIn wsL_law wsL_cell := goodIn_r _ [371, 372] (by decide +kernel) (by decide +kernel)
set_option maxRecDepth 20000 in
theorem gL_law_L_cell : GoodIn wsL_law (va_wsS RL 167 yL_cell wsL_cell) := goodIn_app (goodIn_of _ (by decide +kernel)) ggL_law_L_cell
theorem goodIn_hd {big a : List Cond} {c : Cond} {n : Nat} (h1 : big[n]? = some c) (h2 : goodWord c = true) (ha : GoodIn big a) : GoodIn big (c :: a) := fun w h => (List.mem_cons.mp h).elim (fun e => e ▸ ⟨List.mem_of_getElem? h1, good_of_word h2⟩) (ha w)
end
section
set_option maxRecDepth 20000 in
theorem gp_ggL_law_L_act_wsL_act_r1 : GoodIn wsL_law wsL_act_r1 := goodIn_r _ [297, 298, 93, 299, 300, 376, 377, 378, 365, 379, 380, 381, 2, 382, 18, 13, 123, 125, 102, 103, 104, 100, 101, 355] (by decide +kernel) (by decide +kernel)
set_option maxRecDepth 20000 in
theorem gp_ggL_law_L_act_wsL_act_r2 : GoodIn wsL_law wsL_act_r2 := goodIn_r _ [356, 357, 17, 358, 76, 77, 78, 359, 161, 148, 162, 337, 338, 339, 12, 340, 32, 36, 44, 341, 276, 277, 278, 45] (by decide +kernel) (by decide +kernel)
set_option maxRecDepth 20000 in
theorem gp_ggL_law_L_act_wsL_act_r3 : GoodIn wsL_law wsL_act_r3 := goodIn_r _ [46, 47, 48, 342, 272, 273, 25, 274, 55, 275, 56, 57, 58, 59, 60, 61, 62, 63, 64, 65, 343, 344, 345, 35] (by decide +kernel) (by decide +kernel)
set_option maxRecDepth 20000 in
theorem gp_ggL_law_L_act_wsL_act_r4 : GoodIn wsL_law wsL_act_r4 := goodIn_r _ [346, 69, 347, 70, 383, 384, 385, 386, 287, 260, 261, 262, 184, 185, 186, 257, 258, 259, 387, 388, 389, 364, 326, 390] (by decide +kernel) (by decide +kernel)
set_option maxRecDepth 20000 in
theorem gp_ggL_law_L_act_wsL_act_r5 : GoodIn wsL_law wsL_act_r5 := goodIn_r _ [391, 392, 393, 331, 332, 210, 211, 212, 213, 214, 215, 216, 217, 241, 242, 243, 244, 245, 246, 247, 143, 144, 145, 146] (by decide +kernel) (by decide +kernel)
set_option maxRecDepth 20000 in
theorem gp_ggL_law_L_act_wsL_act_r6 : GoodIn wsL_law wsL_act_r6 := goodIn_r _ [147, 149, 248, 235, 236, 237, 238, 239, 240, 249, 250, 251, 252, 394, 395, 396, 397, 398, 399, 400, 401, 402, 403, 404] (by decide +kernel) (by decide +kernel)
set_option maxRecDepth 20000 in
theorem gp_ggL_law_L_act_wsL_act_r7 : GoodIn wsL_law wsL_act_r7 := goodIn_r _ [405, 406, 229, 230, 231, 142, 232, 224, 225, 226, 233, 172, 173, 174, 407, 408, 228, 199, 200, 201, 202, 203, 204, 205] (by decide +kernel) (by decide +kernel)
set_option maxRecDepth 20000 in
theorem gp_ggL_law_L_act_wsL_act_r8 : GoodIn wsL_law wsL_act_r8 := goodIn_r _ [301, 302, 303, 196, 197, 198, 181, 182, 183, 409, 410, 411, 412, 413, 414, 415, 279, 280, 281, 282, 283, 284, 285, 286] (by decide +kernel) (by decide +kernel)
set_option maxRecDepth 20000 in
theorem gp_ggL_law_L_act_wsL_act_r9 : GoodIn wsL_law wsL_act_r9 := goodIn_r _ [288, 139, 140, 141, 289, 416, 417, 418, 419, 420, 421, 422, 223, 423, 424, 425, 426, 427, 428, 429, 430, 431, 432, 433] (by decide +kernel) (by decide +kernel)
set_option maxRecDepth 20000 in
theorem gp_ggL_law_L_act_wsL_act_r10 : GoodIn wsL_law wsL_act_r10 := goodIn_r _ [126, 127, 434, 435, 436, 437, 438, 439, 440, 128, 441, 442, 443, 444, 445, 446, 447, 448, 449, 129, 450, 451, 452, 453] (by decide +kernel) (by decide +kernel)
set_option maxRecDepth 20000 in
theorem gp_ggL_law_L_act_wsL_act_r11 : GoodIn wsL_law wsL_act_r11 := goodIn_r _ [454, 455, 456, 130, 457, 458, 459, 460, 109, 110, 461, 462, 463, 464, 465, 466, 467, 468, 469, 136] (by decide +kernel) (by decide +kernel)
set_option maxRecDepth 20000 in
theorem gp_ggL_law_L_act_wsX50 : GoodIn wsL_law wsX50 := goodIn_r _ [470, 471, 472, 473, 474, 475] (by decide +kernel) (by decide +kernel)
set_option maxRecDepth 20000 in
theorem gp_ggL_law_L_act_wsX30 : GoodIn wsL_law wsX30 := goodIn_r _ [476, 477, 478, 479, 480, 481, 482] (by decide +kernel) (by decide +kernel)
set_option maxRecDepth 20000 in
theorem gp_ggL_law_L_act_wsX40 : GoodIn wsL_law wsX40 := goodIn_r _ [495, 496, 497, 498, 499, 500, 501, 502, 503, 504, 505] (by decide +kernel) (by decide +kernel)
set_option maxRecDepth 20000 in
theorem gp_ggL_law_L_act_wsX20 : GoodIn wsL_law wsX20 := goodIn_r _ [483, 484, 485] (by decide +kernel) (by decide +kernel)
set_option maxRecDepth 20000 in
theorem gp_ggL_law_L_act_wsX10 : GoodIn wsL_law wsX10 := goodIn_r _ [506, 507] (by decide +kernel) (by decide +kernel)
set_option maxRecDepth 200000 in
theorem ggL_law_L_act : GoodIn wsL_law wsL_act := goodIn_ca (goodIn_ca (goodIn_ca (goodIn_hd (n := 375) rfl rfl (goodIn_app (goodIn_app (goodIn_app (goodIn_app (goodIn_app (goodIn_app gp_ggL_law_L_act_wsL_act_r1 (goodIn_app gp_ggL_law_L_act_wsL_act_r2 (goodIn_app gp_ggL_law_L_act_wsL_act_r3 (goodIn_app gp_ggL_law_L_act_wsL_act_r4 (goodIn_app gp_ggL_law_L_act_wsL_act_r5 (goodIn_app gp_ggL_law_L_act_wsL_act_r6 (goodIn_app gp_ggL_law_L_act_wsL_act_r7 (goodIn_app gp_ggL_law_L_act_wsL_act_r8 (goodIn_app gp_ggL_law_L_act_wsL_act_r9 (goodIn_app gp_ggL_law_L_act_wsL_act_r10 gp_ggL_law_L_act_wsL_act_r11)))))))))) gp_ggL_law_L_act_wsX50) gp_ggL_law_L_act_wsX30) gp_ggL_law_L_act_wsX40) gp_ggL_law_L_act_wsX20) gp_ggL_law_L_act_wsX10)) (goodIn_sub (fun _ h => List.mem_append_left _ (List.mem_append_left _ (List.mem_append_right _ h))) (by decide +kernel))) (goodIn_sub (fun _ h => List.mem_append_right _ h) (by decide +kernel))) (goodIn_sub (fun _ h => List.mem_append_left _ (List.mem_append_right _ h)) (by decide +kernel))
end
section
set_option maxRecDepth 20000 in
theorem gL_law_L_act : GoodIn wsL_law (va_wsS RL 170 yL_act wsL_act) := goodIn_app (goodIn_of _ (by decide +kernel)) ggL_law_L_act
theorem dL_law_0 : decode cL_law 0 = .ok (.new 10, 3) := by decide +kernel
theorem dL_law_3 : decode cL_law 3 = .ok (.dup, 1) := by decide +kernel
theorem dL_law_4 : decode cL_law 4 = .ok (.invokespecial 149, 3) := by decide +kernel
theorem dL_law_7 : decode cL_law 7 = .ok (.astore_n 1, 1) := by decide +kernel
theorem dL_law_8 : decode cL_law 8 = .ok (.bipush 22, 2) := by decide +kernel
theorem dL_law_10 : decode cL_law 10 = .ok (.newarray .int, 2) := by decide +kernel
theorem dL_law_12 : decode cL_law 12 = .ok (.astore_n 2, 1) := by decide +kernel
theorem dL_law_13 : decode cL_law 13 = .ok (.bipush 40, 2) := by decide +kernel
theorem dL_law_15 : decode cL_law 15 = .ok (.newarray .int, 2) := by decide +kernel
theorem dL_law_17 : decode cL_law 17 = .ok (.astore_n 3, 1) := by decide +kernel
theorem dL_law_18 : decode cL_law 18 = .ok (.bipush 40, 2) := by decide +kernel
theorem dL_law_20 : decode cL_law 20 = .ok (.newarray .int, 2) := by decide +kernel
theorem dL_law_22 : decode cL_law 22 = .ok (.astore 4, 2) := by decide +kernel
theorem dL_law_24 : decode cL_law 24 = .ok (.bipush 40, 2) := by decide +kernel
theorem dL_law_26 : decode cL_law 26 = .ok (.newarray .int, 2) := by decide +kernel
theorem dL_law_28 : decode cL_law 28 = .ok (.astore 5, 2) := by decide +kernel
theorem dL_law_30 : decode cL_law 30 = .ok (.aload_n 2, 1) := by decide +kernel
theorem dL_law_31 : decode cL_law 31 = .ok (.iconst 3, 1) := by decide +kernel
theorem dL_law_32 : decode cL_law 32 = .ok (.bipush 10, 2) := by decide +kernel
theorem dL_law_34 : decode cL_law 34 = .ok (.iastore, 1) := by decide +kernel
theorem dL_law_35 : decode cL_law 35 = .ok (.aload_n 2, 1) := by decide +kernel
theorem dL_law_36 : decode cL_law 36 = .ok (.bipush 12, 2) := by decide +kernel
theorem dL_law_38 : decode cL_law 38 = .ok (.bipush 60, 2) := by decide +kernel
theorem dL_law_40 : decode cL_law 40 = .ok (.iastore, 1) := by decide +kernel
theorem dL_law_41 : decode cL_law 41 = .ok (.aload_n 2, 1) := by decide +kernel
theorem dL_law_42 : decode cL_law 42 = .ok (.bipush 13, 2) := by decide +kernel
theorem dL_law_44 : decode cL_law 44 = .ok (.bipush 40, 2) := by decide +kernel
theorem dL_law_46 : decode cL_law 46 = .ok (.iastore, 1) := by decide +kernel
theorem dL_law_47 : decode cL_law 47 = .ok (.aload_n 2, 1) := by decide +kernel
theorem dL_law_48 : decode cL_law 48 = .ok (.bipush 14, 2) := by decide +kernel
theorem dL_law_50 : decode cL_law 50 = .ok (.bipush 24, 2) := by decide +kernel
theorem dL_law_52 : decode cL_law 52 = .ok (.iastore, 1) := by decide +kernel
theorem dL_law_53 : decode cL_law 53 = .ok (.aload_n 2, 1) := by decide +kernel
theorem dL_law_54 : decode cL_law 54 = .ok (.bipush 15, 2) := by decide +kernel
theorem dL_law_56 : decode cL_law 56 = .ok (.bipush 60, 2) := by decide +kernel
theorem dL_law_58 : decode cL_law 58 = .ok (.iastore, 1) := by decide +kernel
theorem dL_law_59 : decode cL_law 59 = .ok (.iconst 0, 1) := by decide +kernel
theorem dL_law_60 : decode cL_law 60 = .ok (.istore 6, 2) := by decide +kernel
theorem dL_law_62 : decode cL_law 62 = .ok (.iload 6, 2) := by decide +kernel
theorem dL_law_64 : decode cL_law 64 = .ok (.bipush 6, 2) := by decide +kernel
theorem dL_law_66 : decode cL_law 66 = .ok (.if_icmp .ge 51, 3) := by decide +kernel
theorem dL_law_69 : decode cL_law 69 = .ok (.aload_n 2, 1) := by decide +kernel
theorem dL_law_70 : decode cL_law 70 = .ok (.bipush 16, 2) := by decide +kernel
theorem dL_law_72 : decode cL_law 72 = .ok (.iload 6, 2) := by decide +kernel
theorem dL_law_74 : decode cL_law 74 = .ok (.iadd, 1) := by decide +kernel
theorem dL_law_75 : decode cL_law 75 = .ok (.iload 6, 2) := by decide +kernel
theorem dL_law_77 : decode cL_law 77 = .ok (.iconst 2, 1) := by decide +kernel
theorem dL_law_78 : decode cL_law 78 = .ok (.if_icmp .ge 7, 3) := by decide +kernel
theorem dL_law_81 : decode cL_law 81 = .ok (.iconst 2, 1) := by decide +kernel
theorem dL_law_82 : decode cL_law 82 = .ok (.goto 15, 3) := by decide +kernel
theorem dL_law_85 : decode cL_law 85 = .ok (.iload 6, 2) := by decide +kernel
theorem dL_law_87 : decode cL_law 87 = .ok (.iconst 4, 1) := by decide +kernel
theorem dL_law_88 : decode cL_law 88 = .ok (.if_icmp .ge 8, 3) := by decide +kernel
theorem dL_law_91 : decode cL_law 91 = .ok (.bipush 8, 2) := by decide +kernel
theorem dL_law_93 : decode cL_law 93 = .ok (.goto 4, 3) := by decide +kernel
theorem dL_law_96 : decode cL_law 96 = .ok (.iconst 4, 1) := by decide +kernel
theorem dL_law_97 : decode cL_law 97 = .ok (.iload 6, 2) := by decide +kernel
theorem dL_law_99 : decode cL_law 99 = .ok (.iconst 2, 1) := by decide +kernel
theorem dL_law_100 : decode cL_law 100 = .ok (.irem, 1) := by decide +kernel
theorem dL_law_101 : decode cL_law 101 = .ok (.ifCond .ne 7, 3) := by decide +kernel
theorem dL_law_104 : decode cL_law 104 = .ok (.iconst 1, 1) := by decide +kernel
theorem dL_law_105 : decode cL_law 105 = .ok (.goto 4, 3) := by decide +kernel
theorem dL_law_108 : decode cL_law 108 = .ok (.iconst (-1), 1) := by decide +kernel
theorem dL_law_109 : decode cL_law 109 = .ok (.imul, 1) := by decide +kernel
theorem dL_law_110 : decode cL_law 110 = .ok (.iastore, 1) := by decide +kernel
theorem dL_law_111 : decode cL_law 111 = .ok (.iinc 6 1, 3) := by decide +kernel
theorem dL_law_114 : decode cL_law 114 = .ok (.goto (-52), 3) := by decide +kernel
theorem dL_law_117 : decode cL_law 117 = .ok (.aload_n 1, 1) := by decide +kernel
theorem dL_law_118 : decode cL_law 118 = .ok (.aload_n 2, 1) := by decide +kernel
theorem dL_law_119 : decode cL_law 119 = .ok (.aload_n 3, 1) := by decide +kernel
theorem dL_law_120 : decode cL_law 120 = .ok (.aload 4, 2) := by decide +kernel
theorem dL_law_122 : decode cL_law 122 = .ok (.aload 5, 2) := by decide +kernel
theorem dL_law_124 : decode cL_law 124 = .ok (.invokestatic 150, 3) := by decide +kernel
theorem dL_law_127 : decode cL_law 127 = .ok (.ifCond .eq 65, 3) := by decide +kernel
theorem dL_law_130 : decode cL_law 130 = .ok (.aload_n 1, 1) := by decide +kernel
theorem dL_law_131 : decode cL_law 131 = .ok (.aload_n 2, 1) := by decide +kernel
theorem dL_law_132 : decode cL_law 132 = .ok (.iconst 0, 1) := by decide +kernel
theorem dL_law_133 : decode cL_law 133 = .ok (.invokestatic 154, 3) := by decide +kernel
theorem dL_law_136 : decode cL_law 136 = .ok (.ifCond .eq 56, 3) := by decide +kernel
theorem dL_law_139 : decode cL_law 139 = .ok (.aload_n 1, 1) := by decide +kernel
theorem dL_law_140 : decode cL_law 140 = .ok (.invokestatic 158, 3) := by decide +kernel
theorem dL_law_143 : decode cL_law 143 = .ok (.bipush (-33), 2) := by decide +kernel
theorem dL_law_145 : decode cL_law 145 = .ok (.if_icmp .ne 47, 3) := by decide +kernel
theorem dL_law_148 : decode cL_law 148 = .ok (.aload_n 1, 1) := by decide +kernel
theorem dL_law_149 : decode cL_law 149 = .ok (.invokestatic 161, 3) := by decide +kernel
theorem dL_law_152 : decode cL_law 152 = .ok (.bipush (-33), 2) := by decide +kernel
theorem dL_law_154 : decode cL_law 154 = .ok (.if_icmp .ne 38, 3) := by decide +kernel
theorem dL_law_157 : decode cL_law 157 = .ok (.aload_n 1, 1) := by decide +kernel
theorem dL_law_158 : decode cL_law 158 = .ok (.bipush 6, 2) := by decide +kernel
theorem dL_law_160 : decode cL_law 160 = .ok (.iconst 0, 1) := by decide +kernel
theorem dL_law_161 : decode cL_law 161 = .ok (.invokestatic 163, 3) := by decide +kernel
theorem dL_law_164 : decode cL_law 164 = .ok (.bipush (-31), 2) := by decide +kernel
theorem dL_law_166 : decode cL_law 166 = .ok (.if_icmp .ne 26, 3) := by decide +kernel
theorem dL_law_169 : decode cL_law 169 = .ok (.aload_n 1, 1) := by decide +kernel
theorem dL_law_170 : decode cL_law 170 = .ok (.iconst 0, 1) := by decide +kernel
theorem dL_law_171 : decode cL_law 171 = .ok (.bipush 8, 2) := by decide +kernel
theorem dL_law_173 : decode cL_law 173 = .ok (.invokestatic 163, 3) := by decide +kernel
theorem dL_law_176 : decode cL_law 176 = .ok (.bipush (-32), 2) := by decide +kernel
theorem dL_law_178 : decode cL_law 178 = .ok (.if_icmp .ne 14, 3) := by decide +kernel
theorem dL_law_181 : decode cL_law 181 = .ok (.aload_n 1, 1) := by decide +kernel
theorem dL_law_182 : decode cL_law 182 = .ok (.iconst (-1), 1) := by decide +kernel
theorem dL_law_183 : decode cL_law 183 = .ok (.iconst 0, 1) := by decide +kernel
theorem dL_law_184 : decode cL_law 184 = .ok (.invokestatic 165, 3) := by decide +kernel
theorem dL_law_187 : decode cL_law 187 = .ok (.bipush (-32), 2) := by decide +kernel
theorem dL_law_189 : decode cL_law 189 = .ok (.if_icmp .eq 5, 3) := by decide +kernel
theorem dL_law_192 : decode cL_law 192 = .ok (.iconst 0, 1) := by decide +kernel
theorem dL_law_193 : decode cL_law 193 = .ok (.ireturn, 1) := by decide +kernel
theorem dL_law_194 : decode cL_law 194 = .ok (.iconst 0, 1) := by decide +kernel
theorem dL_law_195 : decode cL_law 195 = .ok (.istore 6, 2) := by decide +kernel
theorem dL_law_197 : decode cL_law 197 = .ok (.iload 6, 2) := by decide +kernel
theorem dL_law_199 : decode cL_law 199 = .ok (.bipush 56, 2) := by decide +kernel
theorem dL_law_201 : decode cL_law 201 = .ok (.if_icmp .ge 133, 3) := by decide +kernel
theorem dL_law_204 : decode cL_law 204 = .ok (.aload_n 0, 1) := by decide +kernel
theorem dL_law_205 : decode cL_law 205 = .ok (.iconst 2, 1) := by decide +kernel
theorem dL_law_206 : decode cL_law 206 = .ok (.iload 6, 2) := by decide +kernel
theorem dL_law_208 : decode cL_law 208 = .ok (.imul, 1) := by decide +kernel
theorem dL_law_209 : decode cL_law 209 = .ok (.invokestatic 167, 3) := by decide +kernel
theorem dL_law_212 : decode cL_law 212 = .ok (.istore 7, 2) := by decide +kernel
theorem dL_law_214 : decode cL_law 214 = .ok (.aload_n 0, 1) := by decide +kernel
theorem dL_law_215 : decode cL_law 215 = .ok (.iconst 2, 1) := by decide +kernel
theorem dL_law_216 : decode cL_law 216 = .ok (.iload 6, 2) := by decide +kernel
theorem dL_law_218 : decode cL_law 218 = .ok (.imul, 1) := by decide +kernel
theorem dL_law_219 : decode cL_law 219 = .ok (.iconst 1, 1) := by decide +kernel
theorem dL_law_220 : decode cL_law 220 = .ok (.iadd, 1) := by decide +kernel
theorem dL_law_221 : decode cL_law 221 = .ok (.invokestatic 167, 3) := by decide +kernel
theorem dL_law_224 : decode cL_law 224 = .ok (.istore 8, 2) := by decide +kernel
theorem dL_law_226 : decode cL_law 226 = .ok (.iload 6, 2) := by decide +kernel
theorem dL_law_228 : decode cL_law 228 = .ok (.ifCond .ne 19, 3) := by decide +kernel
theorem dL_law_231 : decode cL_law 231 = .ok (.aload_n 1, 1) := by decide +kernel
theorem dL_law_232 : decode cL_law 232 = .ok (.iconst 0, 1) := by decide +kernel
theorem dL_law_233 : decode cL_law 233 = .ok (.iload 8, 2) := by decide +kernel
theorem dL_law_235 : decode cL_law 235 = .ok (.aload_n 2, 1) := by decide +kernel
theorem dL_law_236 : decode cL_law 236 = .ok (.aload_n 3, 1) := by decide +kernel
theorem dL_law_237 : decode cL_law 237 = .ok (.aload 4, 2) := by decide +kernel
theorem dL_law_239 : decode cL_law 239 = .ok (.aload 5, 2) := by decide +kernel
theorem dL_law_241 : decode cL_law 241 = .ok (.invokestatic 170, 3) := by decide +kernel
theorem dL_law_244 : decode cL_law 244 = .ok (.goto 42, 3) := by decide +kernel
theorem dL_law_247 : decode cL_law 247 = .ok (.iload 6, 2) := by decide +kernel
theorem dL_law_249 : decode cL_law 249 = .ok (.bipush 7, 2) := by decide +kernel
theorem dL_law_251 : decode cL_law 251 = .ok (.if_icmp .ge 21, 3) := by decide +kernel
theorem dL_law_254 : decode cL_law 254 = .ok (.aload_n 1, 1) := by decide +kernel
theorem dL_law_255 : decode cL_law 255 = .ok (.iconst 3, 1) := by decide +kernel
theorem dL_law_256 : decode cL_law 256 = .ok (.iload 6, 2) := by decide +kernel
theorem dL_law_258 : decode cL_law 258 = .ok (.iconst 1, 1) := by decide +kernel
theorem dL_law_259 : decode cL_law 259 = .ok (.isub, 1) := by decide +kernel
theorem dL_law_260 : decode cL_law 260 = .ok (.aload_n 2, 1) := by decide +kernel
theorem dL_law_261 : decode cL_law 261 = .ok (.aload_n 3, 1) := by decide +kernel
theorem dL_law_262 : decode cL_law 262 = .ok (.aload 4, 2) := by decide +kernel
theorem dL_law_264 : decode cL_law 264 = .ok (.aload 5, 2) := by decide +kernel
theorem dL_law_266 : decode cL_law 266 = .ok (.invokestatic 170, 3) := by decide +kernel
theorem dL_law_269 : decode cL_law 269 = .ok (.goto 17, 3) := by decide +kernel
theorem dL_law_272 : decode cL_law 272 = .ok (.aload_n 1, 1) := by decide +kernel
theorem dL_law_273 : decode cL_law 273 = .ok (.iload 7, 2) := by decide +kernel
theorem dL_law_275 : decode cL_law 275 = .ok (.iload 8, 2) := by decide +kernel
theorem dL_law_277 : decode cL_law 277 = .ok (.aload_n 2, 1) := by decide +kernel
theorem dL_law_278 : decode cL_law 278 = .ok (.aload_n 3, 1) := by decide +kernel
theorem dL_law_279 : decode cL_law 279 = .ok (.aload 4, 2) := by decide +kernel
theorem dL_law_281 : decode cL_law 281 = .ok (.aload 5, 2) := by decide +kernel
theorem dL_law_283 : decode cL_law 283 = .ok (.invokestatic 170, 3) := by decide +kernel
theorem dL_law_286 : decode cL_law 286 = .ok (.istore 9, 2) := by decide +kernel
theorem dL_law_288 : decode cL_law 288 = .ok (.iload 9, 2) := by decide +kernel
theorem dL_law_290 : decode cL_law 290 = .ok (.ifCond .eq 36, 3) := by decide +kernel
theorem dL_law_293 : decode cL_law 293 = .ok (.aload_n 1, 1) := by decide +kernel
theorem dL_law_294 : decode cL_law 294 = .ok (.aload_n 2, 1) := by decide +kernel
theorem dL_law_295 : decode cL_law 295 = .ok (.aload_n 3, 1) := by decide +kernel
theorem dL_law_296 : decode cL_law 296 = .ok (.aload 4, 2) := by decide +kernel
theorem dL_law_298 : decode cL_law 298 = .ok (.aload 5, 2) := by decide +kernel
theorem dL_law_300 : decode cL_law 300 = .ok (.invokestatic 150, 3) := by decide +kernel
theorem dL_law_303 : decode cL_law 303 = .ok (.ifCond .eq 23, 3) := by decide +kernel
theorem dL_law_306 : decode cL_law 306 = .ok (.iload 6, 2) := by decide +kernel
theorem dL_law_308 : decode cL_law 308 = .ok (.iconst 4, 1) := by decide +kernel
theorem dL_law_309 : decode cL_law 309 = .ok (.irem, 1) := by decide +kernel
theorem dL_law_310 : decode cL_law 310 = .ok (.iconst 3, 1) := by decide +kernel
theorem dL_law_311 : decode cL_law 311 = .ok (.if_icmp .ne 17, 3) := by decide +kernel
theorem dL_law_314 : decode cL_law 314 = .ok (.aload_n 1, 1) := by decide +kernel
theorem dL_law_315 : decode cL_law 315 = .ok (.aload_n 2, 1) := by decide +kernel
theorem dL_law_316 : decode cL_law 316 = .ok (.iload 7, 2) := by decide +kernel
theorem dL_law_318 : decode cL_law 318 = .ok (.iconst 5, 1) := by decide +kernel
theorem dL_law_319 : decode cL_law 319 = .ok (.ishr, 1) := by decide +kernel
theorem dL_law_320 : decode cL_law 320 = .ok (.invokestatic 154, 3) := by decide +kernel
theorem dL_law_323 : decode cL_law 323 = .ok (.ifCond .ne 5, 3) := by decide +kernel
theorem dL_law_326 : decode cL_law 326 = .ok (.iconst 0, 1) := by decide +kernel
theorem dL_law_327 : decode cL_law 327 = .ok (.ireturn, 1) := by decide +kernel
theorem dL_law_328 : decode cL_law 328 = .ok (.iinc 6 1, 3) := by decide +kernel
theorem dL_law_331 : decode cL_law 331 = .ok (.goto (-134), 3) := by decide +kernel
theorem dL_law_334 : decode cL_law 334 = .ok (.iconst 1, 1) := by decide +kernel
theorem dL_law_335 : decode cL_law 335 = .ok (.ireturn, 1) := by decide +kernel
abbrev vwCl : List vw_C := [(RX0, TX0, 9), (RX1, TX1, 2), (RX2, TX2, 3), (RX3, TX3, 7), (RX4, TX4, 11), (RX5, TX5, 6)]
end
section
/-! The derived rows: one world word (wd), one fixed word (cx), contracts that say one answer and one world (CI, CV, CL, CD). -/

-- words of the tables that a method's own list can't hold
def txw : List Cond := [.methodLinkNest RX5 9 yX3_init RX5, .methodLinkNest RX3 11 yX4_init RX5, .methodLinkNest RX3 20 yX1_init RX5, .methodLinkNest RX2 22 yX3_init RX5, .methodLinkNest RX5 28 yX0_init RX5, .methodLinkNest RX5 35 yX4_init RX5, .methodLinkNest RX4 54 yX5_isPose RX5, .castable "[I" "java/lang/Cloneable", .castable "java/lang/IllegalArgumentException" "java/lang/IllegalArgumentException", .castable "java/lang/IllegalStateException" "java/lang/IllegalStateException", .castable "java/lang/IndexOutOfBoundsException" "java/lang/IndexOutOfBoundsException"]
def txg (w : Cond) : Prop := (∃ (a : String) (i : Nat) (x : MethodName) (h : String), w = .methodLinkNest a i x h) ∨ ∃ C T : String, w = .castable C T
theorem txw_good : ∀ w ∈ txw, txg w := by
  intro w hw
  simp only [txw, List.mem_cons, List.not_mem_nil, or_false] at hw
  rcases hw with rfl | rfl | rfl | rfl | rfl | rfl | rfl | rfl | rfl | rfl | rfl
  all_goals first | exact Or.inl ⟨_, _, _, _, rfl⟩ | exact Or.inr ⟨_, _, rfl⟩
def TX (U : State) : Prop := ∀ w ∈ txw, va_Nw w U
theorem TX.warm {s U : State} (hW : s.WarmedH U.vm) (h : TX s) : TX U := fun w hw => by
  rcases txw_good w hw with ⟨a, i, x, h1, rfl⟩ | ⟨C, T, rfl⟩
  · exact va_Nw.warmM hW (h _ hw)
  · exact va_Nw.warmC hW (h _ hw)
theorem TX.same {u U : State} (hv : u.vm = U.vm) (h : TX u) : TX U := fun w hw => by
  rcases txw_good w hw with ⟨a, i, x, h1, rfl⟩ | ⟨C, T, rfl⟩
  · exact va_Nw.same rfl hv (h _ hw)
  · exact va_Nw.same rfl hv (h _ hw)
section KITA
variable {p : Program} {l : Launch} {e : Env} {R : Room} {s : State} {m : MethodId} {args : Array Value} {below : List Frame} {meth : Method} {c : Code} {H H0 : Heap} {locs : List Loc} {cells slots : Nat} {Q : State → Prop} {A : Nat → Prop} {D : va_G} {tys : List (ClassId × FieldType)} {ws ws2 cin cout wr : va_W} {cc : ByteArray} {nL : Nat} {Ts : List Cond} {own : String} {pc : Nat} {ls : Array Slot} {rest : List Value} {a : Nat}
/-- the world: these cells in the heap, apart, and nothing old outside A written since H0 -/
def wd (D : va_G) (A : Nat → Prop) (H0 H : Heap) (locs : List Loc) (ws : va_W) : Prop := va_P D vwCl ws H ∧ va_D A ws ∧ va_S A H0 H locs
/-- what stays fixed in a method's walk -/
def cx (p : Program) (m : MethodId) (c : Code) (cc : ByteArray) (nL : Nat) (s : State) (args : Array Value) (Ts : List Cond) (own : String) (D : va_G) (tys : List (ClassId × FieldType)) : Prop := CallFix p m c cc nL s args Ts own ∧ va_K D vwCl tys s ∧ TX s
theorem wd.to (w : wd D A H0 H locs ws) (h : ws = ws2) : wd D A H0 H locs ws2 := h ▸ w
/-- the cells in another order -/
theorem wd.sub (w : wd D A H0 H locs ws) (is : List Nat) (hn : va_nd is = true) (hs : is.filterMap (fun i => ws[i]?) = ws2) (hs2 : is.map (fun i => ws[i]?) = ws2.map some) : wd D A H0 H locs ws2 := ⟨w.1.sub is hs, w.2.1.sub is hn hs2, w.2.2⟩
/-- a part of the ints f: n of them, from k on -/
def cut (n k : Nat) (f : Nat → Int32) : Nat → Int32 := fun j => if j < n then f (k + j) else 0
theorem cut_in {n k j : Nat} {f : Nat → Int32} (h : j < n) : cut n k f j = f (k + j) := if_pos h
theorem cut_eq {n k k2 : Nat} {f g : Nat → Int32} (h : ∀ j, j < n → f (k + j) = g (k2 + j)) : cut n k f = cut n k2 g := by
  funext j
  by_cases hj : j < n
  · rw [cut_in hj, cut_in hj, h j hj]
  · simp only [cut, if_neg hj]
theorem cut_upd {n k j kj : Nat} {f : Nat → Int32} {v : Int32} (h : j < n) (hk : k + j = kj) : upd (cut n k f) j v = cut n k (upd f kj v) := by
  subst hk
  funext i
  by_cases hi : i = j
  · subst hi
    simp only [upd, cut, if_pos h, if_true]
  · have h2 : ¬ k + i = k + j := by omega
    simp only [upd, cut, if_neg hi, if_neg h2]
theorem cut_0 {n k : Nat} : (fun _ => 0 : Nat → Int32) = cut n k (fun _ => 0) := by
  funext i
  simp only [cut, ite_self]
theorem cut_out {n k i : Nat} {f : Nat → Int32} {v : Int32} (h : i < k ∨ k + n ≤ i) : cut n k (upd f i v) = cut n k f := by
  refine cut_eq (fun j hj => ?_)
  have h2 : ¬ k + j = i := by omega
  simp only [upd, if_neg h2]
theorem cut_cpy {n k k2 : Nat} {f g : Nat → Int32} : va_cpy (cut n k f) (cut n k2 g) 0 0 n = cut n k f := by
  funext j
  show (if 0 ≤ j ∧ j < 0 + n then cut n k f (0 + (j - 0)) else cut n k2 g j) = cut n k f j
  by_cases hj : j < n
  · rw [if_pos (by omega), Nat.sub_zero, Nat.zero_add]
  · rw [if_neg (by omega)]
    simp only [cut, if_neg hj]
theorem upd_is (f : Nat → Int32) (k : Nat) (v : Int32) : upd f k v k = v := if_pos rfl
theorem upd_no {f : Nat → Int32} {k j : Nat} {v : Int32} (h : ¬ j = k) : upd f k v j = f j := if_neg h
theorem upd_id (f : Nat → Int32) (k : Nat) : upd f k (f k) = f := by
  funext j
  by_cases h : j = k
  · subst h; exact upd_is _ _ _
  · exact upd_no h
-- fields
theorem k_get (X : cx p m c cc nL s args Ts own D tys) (w : wd D A H0 H locs ws) (q0 : Nat) {ci : Nat} {C : String} {T : u_T} {N : Nat} {fs : List Value} (he : ws[q0]? = some (a, .inr (ci, fs))) (hc : vwCl[ci]? = some (C, T, N)) (k : Nat) (hk : k < N) {nm dsc : String} {fin : Bool} (hT : T k = (C, nm, dsc, fin)) {index : Nat} (hin : ∀ w ∈ u_ws C T N, w ∈ Ts) (hl : Cond.fieldLink own index C nm dsc ∈ Ts) {v : Value} (hv : fs[k]? = some v) (hdg : decode cc pc = .ok (.getfield index, 3))
    (kk : W p l e R s m args below meth c H locs cells slots Q (F0 m (pc + 3) ls (v :: rest))) : W p l e R s m args below meth c H locs cells slots Q (F0 m pc ls (.ref a :: rest)) := by
  obtain ⟨⟨hx, hb, hml, hown, hts⟩, hK, -⟩ := X
  refine va_get (D := D) (ci := ci) (C := C) (T := T) (N := N) (ref := C) hx hb hts hin hown hK w.1 q0 he hc k hk ?_ ?_ hv hdg kk
  · rw [hT]; exact hts _ hl
  · intro x h; rw [hT] at h ⊢; exact h
theorem k_put (X : cx p m c cc nL s args Ts own D tys) (w : wd D A H0 H locs ws) (q0 : Nat) {ci : Nat} {C : String} {T : u_T} {N : Nat} {fs : List Value} (he : ws[q0]? = some (a, .inr (ci, fs))) (hc : vwCl[ci]? = some (C, T, N)) (k : Nat) (hk : k < N) {nm dsc : String} (hT : T k = (C, nm, dsc, false)) {index : Nat} (hin : ∀ w ∈ u_ws C T N, w ∈ Ts) (hl : Cond.fieldLink own index C nm dsc ∈ Ts)
    {ty0 : Nat → FieldType} (hty : ∀ k, k < N → parseFieldDescriptor (T k).2.2.1 = some (ty0 k)) (hnm : ∀ a, a < N → ∀ b, b < N → a ≠ b → (T a).2.1 ≠ (T b).2.1) {v : Value} (hn : narrow (ty0 k) v = v) (hfit : Jvm.fits (ty0 k) v = true) (hlen : k < fs.length) (hws : ws.set q0 (a, .inr (ci, fs.set k v)) = ws2) (hdg : decode cc pc = .ok (.putfield index, 3))
    (kk : ∀ (H1 : Heap) (locs1 : List Loc), wd D A H0 H1 locs1 ws2 → W p l e R s m args below meth c H1 locs1 cells slots Q (F0 m (pc + 3) ls rest)) : W p l e R s m args below meth c H locs cells slots Q (F0 m pc ls (v :: .ref a :: rest)) := by
  obtain ⟨⟨hx, hb, hml, hown, hts⟩, hK, -⟩ := X
  refine va_put (D := D) (ci := ci) (C := C) (T := T) (N := N) (ref := C) (ty := ty0 k) hx hb hts hin ty0 hty hnm hown hK w.1 w.2.1 w.2.2 q0 he hc k hk ?_ ?_ ?_ (hty k hk) hn hfit hlen hdg ?_
  · rw [hT]; exact hts _ hl
  · intro x h; rw [hT] at h ⊢; exact h
  · rw [hT]
  · intro H1 locs1 h1 h2 h3
    rw [hws] at h1 h2
    exact kk H1 locs1 ⟨h1, h2, h3⟩
-- ints in rows
theorem k_in {n j : Nat} {i : Int32} (hj : j < n) (hn : n < 2 ^ 31) (hi : i = nI j) : vp_in i n := by
  subst hi
  exact vp_in_nI hj hn
theorem k_iald (X : cx p m c cc nL s args Ts own D tys) (w : wd D A H0 H locs ws) (q0 t0 : Nat) {cA : ClassId} {n k : Nat} {f : Nat → Int32} (he : ws[q0]? = some (a, .inl (cA, n, .inl (cut n k f)))) (ht : tys[t0]? = some (cA, .int)) (j : Nat) {kj : Nat} (hkj : k + j = kj) (hj : j < n) (hn : n < 2 ^ 31) {i : Int32} (hi : i = nI j) {v : Int32} (hv : f kj = v) (hdg : decode cc pc = .ok (.iaload, 1))
    (kk : W p l e R s m args below meth c H locs cells slots Q (F0 m (pc + 1) ls (.int v :: rest))) : W p l e R s m args below meth c H locs cells slots Q (F0 m pc ls (.int i :: .ref a :: rest)) := by
  obtain ⟨⟨hx, hb, hml, hown, hts⟩, hK, -⟩ := X
  refine va_iald hx hb hK w.1 q0 t0 he ht (k_in hj hn hi) hdg ?_
  rw [hi, nI_clamp (by omega), cut_in hj, hkj, hv]
  exact kk
theorem k_iast (X : cx p m c cc nL s args Ts own D tys) (w : wd D A H0 H locs ws) (q0 t0 : Nat) {cA : ClassId} {n k : Nat} {f : Nat → Int32} (he : ws[q0]? = some (a, .inl (cA, n, .inl (cut n k f)))) (ht : tys[t0]? = some (cA, .int)) (j : Nat) {kj : Nat} (hkj : k + j = kj) (hj : j < n) (hn : n < 2 ^ 31) {i x : Int32} (hi : i = nI j) (hws : ws.set q0 (a, .inl (cA, n, .inl (cut n k (upd f kj x)))) = ws2) (hdg : decode cc pc = .ok (.iastore, 1))
    (kk : ∀ (H1 : Heap) (locs1 : List Loc), wd D A H0 H1 locs1 ws2 → W p l e R s m args below meth c H1 locs1 cells slots Q (F0 m (pc + 1) ls rest)) : W p l e R s m args below meth c H locs cells slots Q (F0 m pc ls (.int x :: .int i :: .ref a :: rest)) := by
  obtain ⟨⟨hx, hb, hml, hown, hts⟩, hK, -⟩ := X
  refine va_iast hx hb hK w.1 w.2.1 w.2.2 q0 t0 he ht (k_in hj hn hi) hdg ?_
  intro H1 locs1 h1 h2 h3
  rw [hi, nI_clamp (by omega), cut_upd hj hkj, hws] at h1 h2
  exact kk H1 locs1 ⟨h1, h2, h3⟩
theorem k_alen (X : cx p m c cc nL s args Ts own D tys) (w : wd D A H0 H locs ws) (q0 t0 : Nat) {cA : ClassId} {n : Nat} {f : Nat → Int32} (he : ws[q0]? = some (a, .inl (cA, n, .inl f))) (ht : tys[t0]? = some (cA, .int)) {v : Int32} (hv : nI n = v) (hdg : decode cc pc = .ok (.arraylength, 1))
    (kk : W p l e R s m args below meth c H locs cells slots Q (F0 m (pc + 1) ls (.int v :: rest))) : W p l e R s m args below meth c H locs cells slots Q (F0 m pc ls (.ref a :: rest)) := by
  obtain ⟨⟨hx, hb, hml, hown, hts⟩, hK, -⟩ := X
  exact va_alen hx hb hK w.1 q0 t0 he ht hv hdg kk
theorem k_aldq (X : cx p m c cc nL s args Ts own D tys) (w : wd D A H0 H locs ws) (q0 t0 : Nat) {cA : ClassId} {C : String} {n : Nat} {f : Nat → Option Nat} (he : ws[q0]? = some (a, .inl (cA, n, .inr (.inr (.inr (.inr f)))))) (ht : tys[t0]? = some (cA, .object C)) (j : Nat) (hj : j < n) (hn : n < 2 ^ 31) {i : Int32} (hi : i = nI j) {b : Nat} (hb2 : f j = some b) (hdg : decode cc pc = .ok (.aaload, 1))
    (kk : W p l e R s m args below meth c H locs cells slots Q (F0 m (pc + 1) ls (.ref b :: rest))) : W p l e R s m args below meth c H locs cells slots Q (F0 m pc ls (.int i :: .ref a :: rest)) := by
  obtain ⟨⟨hx, hb, hml, hown, hts⟩, hK, -⟩ := X
  refine va_aldq hx hb hK w.1 q0 t0 he ht (k_in hj hn hi) hdg ?_
  rw [hi, nI_clamp (by omega), hb2]
  exact kk
-- Math
theorem k_max (X : cx p m c cc nL s args Ts own D tys) (hls : ls.size = nL) {index : Nat} (h1 : Cond.methodLink own index Lib.Math.max.name ∈ Ts) (h2 : Cond.static Lib.Math.max.name ∈ Ts) (h3 : Cond.initialized "java/lang/Math" ∈ Ts) (h4 : Cond.code Lib.Math.max.name Lib.Math.max.code 2 (some .int) ∈ Ts) (hframes : 1 ≤ R.frames) (hlocals : (rest.map fun v => v.category).sum + 13 ≤ R.locals) (hc : cells ≤ R.cells) (hs : slots ≤ R.slots) {x y : Int32} (hdg : decode cc pc = .ok (.invokestatic index, 3))
    (kk : W p l e R s m args below meth c H locs cells slots Q (F0 m (pc + 3) ls (.int (if x < y then y else x) :: rest))) : W p l e R s m args below meth c H locs cells slots Q (F0 m pc ls (.int y :: .int x :: rest)) := by
  obtain ⟨⟨hx, hb, hml, hown, hts⟩, hK, -⟩ := X
  exact va_mmax hx hb (by rw [hml, hls]) hown (hts _ h1) (hts _ h2) (hts _ h3) (hts _ h4) hframes hlocals hc hs hdg kk
theorem k_min (X : cx p m c cc nL s args Ts own D tys) (hls : ls.size = nL) {index : Nat} (h1 : Cond.methodLink own index Lib.Math.min.name ∈ Ts) (h2 : Cond.static Lib.Math.min.name ∈ Ts) (h3 : Cond.initialized "java/lang/Math" ∈ Ts) (h4 : Cond.code Lib.Math.min.name Lib.Math.min.code 2 (some .int) ∈ Ts) (hframes : 1 ≤ R.frames) (hlocals : (rest.map fun v => v.category).sum + 13 ≤ R.locals) (hc : cells ≤ R.cells) (hs : slots ≤ R.slots) {x y : Int32} (hdg : decode cc pc = .ok (.invokestatic index, 3))
    (kk : W p l e R s m args below meth c H locs cells slots Q (F0 m (pc + 3) ls (.int (if y < x then y else x) :: rest))) : W p l e R s m args below meth c H locs cells slots Q (F0 m pc ls (.int y :: .int x :: rest)) := by
  obtain ⟨⟨hx, hb, hml, hown, hts⟩, hK, -⟩ := X
  exact va_mmin hx hb (by rw [hml, hls]) hown (hts _ h1) (hts _ h2) (hts _ h3) (hts _ h4) hframes hlocals hc hs hdg kk
theorem k_abs (X : cx p m c cc nL s args Ts own D tys) (hls : ls.size = nL) {index : Nat} (h1 : Cond.methodLink own index Lib.Math.abs.name ∈ Ts) (h2 : Cond.static Lib.Math.abs.name ∈ Ts) (h3 : Cond.initialized "java/lang/Math" ∈ Ts) (h4 : Cond.code Lib.Math.abs.name Lib.Math.abs.code 1 (some .int) ∈ Ts) (hframes : 1 ≤ R.frames) (hlocals : (rest.map fun v => v.category).sum + 13 ≤ R.locals) (hc : cells ≤ R.cells) (hs : slots ≤ R.slots) {x : Int32} (hdg : decode cc pc = .ok (.invokestatic index, 3))
    (kk : W p l e R s m args below meth c H locs cells slots Q (F0 m (pc + 3) ls (.int (if 0 ≤ x then x else 0 - x) :: rest))) : W p l e R s m args below meth c H locs cells slots Q (F0 m pc ls (.int x :: rest)) := by
  obtain ⟨⟨hx, hb, hml, hown, hts⟩, hK, -⟩ := X
  exact va_mabs hx hb (by rw [hml, hls]) hown (hts _ h1) (hts _ h2) (hts _ h3) (hts _ h4) hframes hlocals hc hs hdg kk
end KITA
-- contracts
def cpre (D : va_G) (tys : List (ClassId × FieldType)) (cin : va_W) (sz : Nat) : State → Prop := fun U => U.heap.size = sz ∧ va_P D vwCl cin U.heap ∧ va_K D vwCl tys U ∧ TX U ∧ va_D (fun _ => True) cin
def cpost (D : va_G) (tys : List (ClassId × FieldType)) (cin : va_W) (sz : Nat) (cout : va_W) : Unit → State → Prop := fun _ t => va_P D vwCl cout t.heap ∧ va_K D vwCl tys t ∧ va_D (va_A cin sz) cout
def CI (l : Launch) (D : va_G) (tys : List (ClassId × FieldType)) (y : MethodName) (ws : List Cond) (rm : Room) (args : List Value) (cin : va_W) (r : Int32) (cout : va_W) : Prop := ∀ sz : Nat, Met l y ws rm (va_Pc args (cpre D tys cin sz)) (va_Qi (fun (r2 : Int32) (_ : Unit) => r2 = r) (cpost D tys cin sz cout) (va_A cin sz)) 0 0 (va_A cin sz)
def CL (l : Launch) (D : va_G) (tys : List (ClassId × FieldType)) (y : MethodName) (ws : List Cond) (rm : Room) (args : List Value) (cin : va_W) (r : Int64) (cout : va_W) : Prop := ∀ sz : Nat, Met l y ws rm (va_Pc args (cpre D tys cin sz)) (va_Ql (fun (r2 : Int64) (_ : Unit) => r2 = r) (cpost D tys cin sz cout) (va_A cin sz)) 0 0 (va_A cin sz)
def CD (l : Launch) (D : va_G) (tys : List (ClassId × FieldType)) (y : MethodName) (ws : List Cond) (rm : Room) (args : List Value) (cin : va_W) (r : UInt64) (cout : va_W) : Prop := ∀ sz : Nat, Met l y ws rm (va_Pc args (cpre D tys cin sz)) (va_Qd (fun (r2 : UInt64) (_ : Unit) => r2 = r) (cpost D tys cin sz cout) (va_A cin sz)) 0 0 (va_A cin sz)
def CV (l : Launch) (D : va_G) (tys : List (ClassId × FieldType)) (y : MethodName) (ws : List Cond) (rm : Room) (args : List Value) (cin : va_W) (cout : va_W) : Prop := ∀ sz : Nat, Met l y ws rm (va_Pc args (cpre D tys cin sz)) (va_Qv (fun (_ : Unit) => True) (cpost D tys cin sz cout) (va_A cin sz)) 0 0 (va_A cin sz)
theorem cpre_blind {D : va_G} {tys : List (ClassId × FieldType)} {cin : va_W} {sz : Nat} {av : List Value} : FrameBlind (va_Pc av (cpre D tys cin sz)) := fun a U g mk q => by
  obtain ⟨q0, q1, qP, qK, qT, qD⟩ := q
  exact ⟨q0, q1, qP, va_K.moved (u := U) (U := U.calling g mk a) (Vm.Alike.refl U.vm) qK, TX.same (u := U) (U := U.calling g mk a) rfl qT, qD⟩
/-- as Met.ofW, for a method of the JDK's too, where no entry runs in its bytecode's place -/
theorem Met.ofP {l : Launch} {y : MethodName} {ws ws' : List Cond} {rm : Room} {Pc : Array Value → State → Prop} {Qc : Array Value → State → Outcome → State → Prop} {mc ms : Nat} {free : Addr → Prop} {cc : ByteArray} {maxL : Nat} {ret : Option FieldType}
    (hy : plainFor y = true) (hw : ws = Cond.code y cc maxL ret :: ws')
    (body : ∀ p e s m args below meth c s₁, BodyLoose p l y (headSpec ws rm) cc maxL ret e s m args below meth c s₁ → c.maxLocals = maxL → Pc args s →
      W p l e (headSpec ws rm).room s m args below meth c s.heap [] 0 0 (MQ below Qc args s mc ms free) (entryFrame m args maxL)) : Met l y ws rm Pc Qc mc ms free := by
  refine MetFree.of_bodySF (code := cc) (maxLocals := maxL) (ret := ret) hy ?_ ?_
  · intro args s m h hn
    obtain ⟨meth, c, h1, h2, h3, h4, h5, h6, -, -⟩ := Cond.code_spec hn (atoms_spec (ws := ws) h _ (by rw [hw]; exact List.mem_cons_self))
    exact ⟨meth, c, h1, h2, h3, h4, h5, h6⟩
  · intro p e s m args below meth c s₁ B hml hP _
    have hh0 : s₁.heap = s.heap := by rw [B.state]; rfl
    obtain ⟨t, a1, o, b1, b2, b3⟩ := body p e s m args below meth c s₁ B hml hP s₁ hh0 (Stand.of_body B)
    exact ⟨t, o, a1, b1, b2, ⟨b3.1, b3.2⟩⟩
section KITB
variable {l : Launch} {D : va_G} {tys : List (ClassId × FieldType)} {y : MethodName} {ws ws9 : List Cond} {rm : Room} {av : List Value} {cin cout : va_W} {cc : ByteArray} {maxL : Nat}
/-- what a walk of a body starts with -/
theorem k_begin {p : Program} {e : Env} {s : State} {m : MethodId} {args : Array Value} {below : List Frame} {meth : Method} {c : Code} {s1 : State} {sz : Nat} {ret : Option FieldType} (B : BodyLoose p l y (headSpec ws rm) cc maxL ret e s m args below meth c s1) (hml : c.maxLocals = maxL) (hv : va_Pc av (cpre D tys cin sz) args s) :
    args = av.toArray ∧ s.heap.size = sz ∧ cx p m c cc maxL s args ws y.cls D tys ∧ wd D (va_A cin sz) s.heap s.heap [] cin := by
  obtain ⟨h1, hsz, hP, hK, hT, hD0⟩ := hv
  exact ⟨h1, hsz, ⟨⟨B.exec, B.bytes, hml, findClass_of_methodNamed B.named, atoms_spec (ws := ws) B.pre⟩, hK, hT⟩, hP, hD0.self, va_S.rf⟩
theorem CI.of {ty : FieldType} {r : Int32} (hy : plainFor y = true) (hw : ws = Cond.code y cc maxL (some ty) :: ws9) (hlen : (lg_sl av).length ≤ maxL) (hn : narrow ty (.int r) = .int r)
    (body : ∀ (p : Program) (e : Env) (s : State) (m : MethodId) (below : List Frame) (meth : Method) (c : Code) (A : Nat → Prop) (ls : Array Slot) (Q : State → Prop), cx p m c cc maxL s av.toArray ws y.cls D tys → (∀ q : Nat, s.heap.size ≤ q → A q) → wd D A s.heap s.heap [] cin → lv_has ls maxL (lv_args 0 av) →
      (∀ (H : Heap) (locs : List Loc) (pc : Nat) (ls : Array Slot) (v : Int32), wd D A s.heap H locs cout → v = r → decode cc pc = .ok (.ireturn, 1) → W p l e rm s m av.toArray below meth c H locs 0 0 Q (F0 m pc ls [.int v])) →
      W p l e rm s m av.toArray below meth c s.heap [] 0 0 Q (F0 m 0 ls [])) : CI l D tys y ws rm av cin r cout := by
  intro sz
  refine Met.ofP (cc := cc) (maxL := maxL) (ret := some ty) hy hw ?_
  intro p e s m args below meth c s1 B hml hv
  obtain ⟨rfl, rfl, X, w⟩ := k_begin B hml hv
  rw [lg_entry_eq]
  refine body p e s m below meth c (va_A cin s.heap.size) _ _ X (fun q h => Or.inr h) w (lv_entry av hlen) ?_
  intro H locs pc ls v w1 hv1 hdg
  subst hv1
  have hlocks := B.notSynchronized
  exact W.zret (ty := ty) X.1.1 X.1.2.1 B.returns hn (fun t ht hW => ⟨⟨v, (), rfl, rfl, by rw [ht]; exact w1.1, va_K.moved hW.alike X.2.1, w1.2.1⟩, w1.2.2.F ht⟩) w1.2.2.2.2 hdg
theorem CL.of {r : Int64} (hy : plainFor y = true) (hw : ws = Cond.code y cc maxL (some .long) :: ws9) (hlen : (lg_sl av).length ≤ maxL)
    (body : ∀ (p : Program) (e : Env) (s : State) (m : MethodId) (below : List Frame) (meth : Method) (c : Code) (A : Nat → Prop) (ls : Array Slot) (Q : State → Prop), cx p m c cc maxL s av.toArray ws y.cls D tys → (∀ q : Nat, s.heap.size ≤ q → A q) → wd D A s.heap s.heap [] cin → lv_has ls maxL (lv_args 0 av) →
      (∀ (H : Heap) (locs : List Loc) (pc : Nat) (ls : Array Slot) (v : Int64), wd D A s.heap H locs cout → v = r → decode cc pc = .ok (.lreturn, 1) → W p l e rm s m av.toArray below meth c H locs 0 0 Q (F0 m pc ls [.long v])) →
      W p l e rm s m av.toArray below meth c s.heap [] 0 0 Q (F0 m 0 ls [])) : CL l D tys y ws rm av cin r cout := by
  intro sz
  refine Met.ofP (cc := cc) (maxL := maxL) (ret := some .long) hy hw ?_
  intro p e s m args below meth c s1 B hml hv
  obtain ⟨rfl, rfl, X, w⟩ := k_begin B hml hv
  rw [lg_entry_eq]
  refine body p e s m below meth c (va_A cin s.heap.size) _ _ X (fun q h => Or.inr h) w (lv_entry av hlen) ?_
  intro H locs pc ls v w1 hv1 hdg
  subst hv1
  have hlocks := B.notSynchronized
  exact W.lret X.1.1 X.1.2.1 B.returns (fun t ht hW => ⟨⟨v, (), rfl, rfl, by rw [ht]; exact w1.1, va_K.moved hW.alike X.2.1, w1.2.1⟩, w1.2.2.F ht⟩) w1.2.2.2.2 hdg
theorem CD.of {r : UInt64} (hy : plainFor y = true) (hw : ws = Cond.code y cc maxL (some .double) :: ws9) (hlen : (lg_sl av).length ≤ maxL)
    (body : ∀ (p : Program) (e : Env) (s : State) (m : MethodId) (below : List Frame) (meth : Method) (c : Code) (A : Nat → Prop) (ls : Array Slot) (Q : State → Prop), cx p m c cc maxL s av.toArray ws y.cls D tys → (∀ q : Nat, s.heap.size ≤ q → A q) → wd D A s.heap s.heap [] cin → lv_has ls maxL (lv_args 0 av) →
      (∀ (H : Heap) (locs : List Loc) (pc : Nat) (ls : Array Slot) (v : UInt64), wd D A s.heap H locs cout → v = r → decode cc pc = .ok (.dreturn, 1) → W p l e rm s m av.toArray below meth c H locs 0 0 Q (F0 m pc ls [.double v])) →
      W p l e rm s m av.toArray below meth c s.heap [] 0 0 Q (F0 m 0 ls [])) : CD l D tys y ws rm av cin r cout := by
  intro sz
  refine Met.ofP (cc := cc) (maxL := maxL) (ret := some .double) hy hw ?_
  intro p e s m args below meth c s1 B hml hv
  obtain ⟨rfl, rfl, X, w⟩ := k_begin B hml hv
  rw [lg_entry_eq]
  refine body p e s m below meth c (va_A cin s.heap.size) _ _ X (fun q h => Or.inr h) w (lv_entry av hlen) ?_
  intro H locs pc ls v w1 hv1 hdg
  subst hv1
  have hlocks := B.notSynchronized
  exact W.dret X.1.1 X.1.2.1 B.returns (fun t ht hW => ⟨⟨v, (), rfl, rfl, by rw [ht]; exact w1.1, va_K.moved hW.alike X.2.1, w1.2.1⟩, w1.2.2.F ht⟩) w1.2.2.2.2 hdg
theorem CV.of (hy : plainFor y = true) (hw : ws = Cond.code y cc maxL none :: ws9) (hlen : (lg_sl av).length ≤ maxL)
    (body : ∀ (p : Program) (e : Env) (s : State) (m : MethodId) (below : List Frame) (meth : Method) (c : Code) (A : Nat → Prop) (ls : Array Slot) (Q : State → Prop), cx p m c cc maxL s av.toArray ws y.cls D tys → (∀ q : Nat, s.heap.size ≤ q → A q) → wd D A s.heap s.heap [] cin → lv_has ls maxL (lv_args 0 av) →
      (∀ (H : Heap) (locs : List Loc) (pc : Nat) (ls : Array Slot), wd D A s.heap H locs cout → decode cc pc = .ok (.return_, 1) → W p l e rm s m av.toArray below meth c H locs 0 0 Q (F0 m pc ls [])) →
      W p l e rm s m av.toArray below meth c s.heap [] 0 0 Q (F0 m 0 ls [])) : CV l D tys y ws rm av cin cout := by
  intro sz
  refine Met.ofP (cc := cc) (maxL := maxL) (ret := none) hy hw ?_
  intro p e s m args below meth c s1 B hml hv
  obtain ⟨rfl, rfl, X, w⟩ := k_begin B hml hv
  rw [lg_entry_eq]
  refine body p e s m below meth c (va_A cin s.heap.size) _ _ X (fun q h => Or.inr h) w (lv_entry av hlen) ?_
  intro H locs pc ls w1 hdg
  have hlocks := B.notSynchronized
  exact W.vret X.1.1 X.1.2.1 B.returns (fun t ht hW => ⟨⟨(), rfl, trivial, by rw [ht]; exact w1.1, va_K.moved hW.alike X.2.1, w1.2.1⟩, w1.2.2.F ht⟩) w1.2.2.2.2 hdg
end KITB

section KITC
variable {p : Program} {l : Launch} {e : Env} {R : Room} {s : State} {m : MethodId} {args : Array Value} {below : List Frame} {meth : Method} {c : Code} {H H0 : Heap} {locs : List Loc} {cells slots : Nat} {Q : State → Prop} {A : Nat → Prop} {D : va_G} {tys : List (ClassId × FieldType)} {ws ws2 cin cout wr : va_W} {cc : ByteArray} {nL : Nat} {Ts : List Cond} {own : String} {pc : Nat} {ls : Array Slot} {rest st0 : List Value} {a : Nat}
theorem sub_P {cl : List vw_C} (hP : va_P D cl ws H) {isC : List Nat} (hC : isC.map (fun i => ws[i]?) = cin.map some) : va_P D cl cin H := by
  intro k q hq
  have h1 : (cin.map some)[k]? = some (some q) := by rw [List.getElem?_map, hq]; rfl
  rw [← hC, List.getElem?_map] at h1
  cases hi : isC[k]? with
  | none => rw [hi] at h1; cases h1
  | some i => rw [hi] at h1; exact hP i q (Option.some.inj h1)
theorem in_of {isC : List Nat} (hC : isC.map (fun i => ws[i]?) = cin.map some) : ∀ (k : Nat) (q : Nat × va_E), cin[k]? = some q → ∃ i : Nat, ws[i]? = some q := by
  intro k q hq
  have h1 : (cin.map some)[k]? = some (some q) := by rw [List.getElem?_map, hq]; rfl
  rw [← hC, List.getElem?_map] at h1
  cases hi : isC[k]? with
  | none => rw [hi] at h1; cases h1
  | some i => rw [hi] at h1; exact ⟨i, Option.some.inj h1⟩
theorem at_congr {cl : List vw_C} {q : Nat × va_E} {H1 : Heap} (h : va_at D cl q H) (e : H1[q.1]? = H[q.1]?) : va_at D cl q H1 := by
  obtain ⟨a, x⟩ := q
  cases x with
  | inl a0 => exact Eq.trans e h
  | inr o =>
    obtain ⟨r, h1, cell, h2, h3⟩ := h
    exact ⟨r, h1, cell, e.trans h2, h3⟩
theorem at_lt {cl : List vw_C} {q : Nat × va_E} (h : va_at D cl q H) : q.1 < H.size := by
  obtain ⟨a, x⟩ := q
  cases x with
  | inl a0 => exact (Array.getElem?_eq_some_iff.mp h).1
  | inr o =>
    obtain ⟨r, h1, cell, h2, h3⟩ := h
    exact (Array.getElem?_eq_some_iff.mp h2).1
/-- what is left alone stays: the whole world, when the callee left its cells as they were -/
theorem same_P {cl : List vw_C} {H1 : Heap} (hP : va_P D cl ws H) (hD : va_D A ws) {isC : List Nat} (hC : isC.map (fun i => ws[i]?) = cin.map some) (hk : ∀ q : Nat, q < H.size → ¬ va_A cin H.size q → H1[q]? = H[q]?) (hP1 : va_P D cl cin H1) : va_P D cl ws H1 := by
  intro k q hq
  by_cases h : ∃ (j : Nat) (x : va_E), cin[j]? = some (q.1, x)
  · obtain ⟨j, x, hj⟩ := h
    obtain ⟨i, hi⟩ := in_of hC j _ hj
    have hik : i = k := hD.1 i k _ _ hi hq rfl
    subst hik
    rw [hi] at hq
    have hq := Option.some.inj hq
    rw [← hq]
    exact hP1 j _ hj
  · have hlt := at_lt (hP k q hq)
    refine at_congr (hP k q hq) (hk q.1 hlt ?_)
    rintro (⟨j, x, hj⟩ | h2)
    · exact h ⟨j, x, hj⟩
    · omega
-- behind a call: the answer and the world
theorem k_ci {av : Array Value} {r : Int32} (hr : va_Run p l e R s m args below meth c H locs cells slots 0 0 (F0 m pc ls st0) rest (va_Qi (fun (r2 : Int32) (_ : Unit) => r2 = r) (cpost D tys cin H.size cout) (va_A cin H.size) av) (va_A cin H.size)) (w : wd D A H0 H locs ws) (hA : ∀ q : Nat, H0.size ≤ q → A q) (isC isR : List Nat) (hC : isC.map (fun i => ws[i]?) = cin.map some) (hR : isR.map (fun i => ws[i]?) = wr.map some) (hn : va_nd isR = true) (hdis : ∀ i ∈ isR, i ∉ isC) (pm : List Nat) (hp1 : va_nd pm = true) (hp2 : pm.map (fun i => (wr ++ cout)[i]?) = ws2.map some)
    (kk : ∀ (H1 : Heap) (locs1 : List Loc), wd D A H0 H1 locs1 ws2 → W p l e R s m args below meth c H1 locs1 cells slots Q (F0 m (pc + 3) ls (.int r :: rest))) : W p l e R s m args below meth c H locs cells slots Q (F0 m pc ls st0) := by
  have hF := va_free w.2.1 w.2.2 hA isC hC
  refine va_calli hr w.2.2 (fun q _ h => hF q h) hF (fun r2 u t H1 locs1 ht hvm hw hB hz1 hk1 hS => ?_)
  obtain ⟨hP1, hK1, hD1⟩ := hB
  rw [ht] at hP1
  rw [hw]
  obtain ⟨hP, hD⟩ := va_join w.1 w.2.1 isC isR hC hR hn hdis hk1 hF hP1 hD1
  exact kk H1 locs1 ⟨sub_P hP hp2, hD.sub pm hp1 hp2, hS⟩
theorem k_ciR {av : Array Value} {r : Int32} (hr : va_Run p l e R s m args below meth c H locs cells slots 0 0 (F0 m pc ls st0) rest (va_Qi (fun (r2 : Int32) (_ : Unit) => r2 = r) (cpost D tys cin H.size cin) (va_A cin H.size) av) (va_A cin H.size)) (w : wd D A H0 H locs ws) (hA : ∀ q : Nat, H0.size ≤ q → A q) (isC : List Nat) (hC : isC.map (fun i => ws[i]?) = cin.map some)
    (kk : ∀ (H1 : Heap) (locs1 : List Loc), wd D A H0 H1 locs1 ws → W p l e R s m args below meth c H1 locs1 cells slots Q (F0 m (pc + 3) ls (.int r :: rest))) : W p l e R s m args below meth c H locs cells slots Q (F0 m pc ls st0) := by
  have hF := va_free w.2.1 w.2.2 hA isC hC
  refine va_calli hr w.2.2 (fun q _ h => hF q h) hF (fun r2 u t H1 locs1 ht hvm hw hB hz1 hk1 hS => ?_)
  obtain ⟨hP1, hK1, hD1⟩ := hB
  rw [ht] at hP1
  rw [hw]
  exact kk H1 locs1 ⟨same_P w.1 w.2.1 hC hk1 hP1, w.2.1, hS⟩
theorem k_cl {av : Array Value} {r : Int64} (hr : va_Run p l e R s m args below meth c H locs cells slots 0 0 (F0 m pc ls st0) rest (va_Ql (fun (r2 : Int64) (_ : Unit) => r2 = r) (cpost D tys cin H.size cout) (va_A cin H.size) av) (va_A cin H.size)) (w : wd D A H0 H locs ws) (hA : ∀ q : Nat, H0.size ≤ q → A q) (isC isR : List Nat) (hC : isC.map (fun i => ws[i]?) = cin.map some) (hR : isR.map (fun i => ws[i]?) = wr.map some) (hn : va_nd isR = true) (hdis : ∀ i ∈ isR, i ∉ isC) (pm : List Nat) (hp1 : va_nd pm = true) (hp2 : pm.map (fun i => (wr ++ cout)[i]?) = ws2.map some)
    (kk : ∀ (H1 : Heap) (locs1 : List Loc), wd D A H0 H1 locs1 ws2 → W p l e R s m args below meth c H1 locs1 cells slots Q (F0 m (pc + 3) ls (.long r :: rest))) : W p l e R s m args below meth c H locs cells slots Q (F0 m pc ls st0) := by
  have hF := va_free w.2.1 w.2.2 hA isC hC
  refine va_calll hr w.2.2 (fun q _ h => hF q h) hF (fun r2 u t H1 locs1 ht hvm hw hB hz1 hk1 hS => ?_)
  obtain ⟨hP1, hK1, hD1⟩ := hB
  rw [ht] at hP1
  rw [hw]
  obtain ⟨hP, hD⟩ := va_join w.1 w.2.1 isC isR hC hR hn hdis hk1 hF hP1 hD1
  exact kk H1 locs1 ⟨sub_P hP hp2, hD.sub pm hp1 hp2, hS⟩
theorem k_clR {av : Array Value} {r : Int64} (hr : va_Run p l e R s m args below meth c H locs cells slots 0 0 (F0 m pc ls st0) rest (va_Ql (fun (r2 : Int64) (_ : Unit) => r2 = r) (cpost D tys cin H.size cin) (va_A cin H.size) av) (va_A cin H.size)) (w : wd D A H0 H locs ws) (hA : ∀ q : Nat, H0.size ≤ q → A q) (isC : List Nat) (hC : isC.map (fun i => ws[i]?) = cin.map some)
    (kk : ∀ (H1 : Heap) (locs1 : List Loc), wd D A H0 H1 locs1 ws → W p l e R s m args below meth c H1 locs1 cells slots Q (F0 m (pc + 3) ls (.long r :: rest))) : W p l e R s m args below meth c H locs cells slots Q (F0 m pc ls st0) := by
  have hF := va_free w.2.1 w.2.2 hA isC hC
  refine va_calll hr w.2.2 (fun q _ h => hF q h) hF (fun r2 u t H1 locs1 ht hvm hw hB hz1 hk1 hS => ?_)
  obtain ⟨hP1, hK1, hD1⟩ := hB
  rw [ht] at hP1
  rw [hw]
  exact kk H1 locs1 ⟨same_P w.1 w.2.1 hC hk1 hP1, w.2.1, hS⟩
theorem k_cdR {av : Array Value} {r : UInt64} (hr : va_Run p l e R s m args below meth c H locs cells slots 0 0 (F0 m pc ls st0) rest (va_Qd (fun (r2 : UInt64) (_ : Unit) => r2 = r) (cpost D tys cin H.size cin) (va_A cin H.size) av) (va_A cin H.size)) (w : wd D A H0 H locs ws) (hA : ∀ q : Nat, H0.size ≤ q → A q) (isC : List Nat) (hC : isC.map (fun i => ws[i]?) = cin.map some)
    (kk : ∀ (H1 : Heap) (locs1 : List Loc), wd D A H0 H1 locs1 ws → W p l e R s m args below meth c H1 locs1 cells slots Q (F0 m (pc + 3) ls (.double r :: rest))) : W p l e R s m args below meth c H locs cells slots Q (F0 m pc ls st0) := by
  have hF := va_free w.2.1 w.2.2 hA isC hC
  refine va_calld hr w.2.2 (fun q _ h => hF q h) hF (fun r2 u t H1 locs1 ht hvm hw hB hz1 hk1 hS => ?_)
  obtain ⟨hP1, hK1, hD1⟩ := hB
  rw [ht] at hP1
  rw [hw]
  exact kk H1 locs1 ⟨same_P w.1 w.2.1 hC hk1 hP1, w.2.1, hS⟩
theorem k_cd {av : Array Value} {r : UInt64} (hr : va_Run p l e R s m args below meth c H locs cells slots 0 0 (F0 m pc ls st0) rest (va_Qd (fun (r2 : UInt64) (_ : Unit) => r2 = r) (cpost D tys cin H.size cout) (va_A cin H.size) av) (va_A cin H.size)) (w : wd D A H0 H locs ws) (hA : ∀ q : Nat, H0.size ≤ q → A q) (isC isR : List Nat) (hC : isC.map (fun i => ws[i]?) = cin.map some) (hR : isR.map (fun i => ws[i]?) = wr.map some) (hn : va_nd isR = true) (hdis : ∀ i ∈ isR, i ∉ isC) (pm : List Nat) (hp1 : va_nd pm = true) (hp2 : pm.map (fun i => (wr ++ cout)[i]?) = ws2.map some)
    (kk : ∀ (H1 : Heap) (locs1 : List Loc), wd D A H0 H1 locs1 ws2 → W p l e R s m args below meth c H1 locs1 cells slots Q (F0 m (pc + 3) ls (.double r :: rest))) : W p l e R s m args below meth c H locs cells slots Q (F0 m pc ls st0) := by
  have hF := va_free w.2.1 w.2.2 hA isC hC
  refine va_calld hr w.2.2 (fun q _ h => hF q h) hF (fun r2 u t H1 locs1 ht hvm hw hB hz1 hk1 hS => ?_)
  obtain ⟨hP1, hK1, hD1⟩ := hB
  rw [ht] at hP1
  rw [hw]
  obtain ⟨hP, hD⟩ := va_join w.1 w.2.1 isC isR hC hR hn hdis hk1 hF hP1 hD1
  exact kk H1 locs1 ⟨sub_P hP hp2, hD.sub pm hp1 hp2, hS⟩
theorem k_cv {av : Array Value} (hr : va_Run p l e R s m args below meth c H locs cells slots 0 0 (F0 m pc ls st0) rest (va_Qv (fun (_ : Unit) => True) (cpost D tys cin H.size cout) (va_A cin H.size) av) (va_A cin H.size)) (w : wd D A H0 H locs ws) (hA : ∀ q : Nat, H0.size ≤ q → A q) (isC isR : List Nat) (hC : isC.map (fun i => ws[i]?) = cin.map some) (hR : isR.map (fun i => ws[i]?) = wr.map some) (hn : va_nd isR = true) (hdis : ∀ i ∈ isR, i ∉ isC) (pm : List Nat) (hp1 : va_nd pm = true) (hp2 : pm.map (fun i => (wr ++ cout)[i]?) = ws2.map some)
    (kk : ∀ (H1 : Heap) (locs1 : List Loc), wd D A H0 H1 locs1 ws2 → W p l e R s m args below meth c H1 locs1 cells slots Q (F0 m (pc + 3) ls rest)) : W p l e R s m args below meth c H locs cells slots Q (F0 m pc ls st0) := by
  have hF := va_free w.2.1 w.2.2 hA isC hC
  refine va_callv hr w.2.2 (fun q _ h => hF q h) hF (fun u t H1 locs1 ht hvm hw hB hz1 hk1 hS => ?_)
  obtain ⟨hP1, hK1, hD1⟩ := hB
  rw [ht] at hP1
  obtain ⟨hP, hD⟩ := va_join w.1 w.2.1 isC isR hC hR hn hdis hk1 hF hP1 hD1
  exact kk H1 locs1 ⟨sub_P hP hp2, hD.sub pm hp1 hp2, hS⟩
theorem k_cvR {av : Array Value} (hr : va_Run p l e R s m args below meth c H locs cells slots 0 0 (F0 m pc ls st0) rest (va_Qv (fun (_ : Unit) => True) (cpost D tys cin H.size cin) (va_A cin H.size) av) (va_A cin H.size)) (w : wd D A H0 H locs ws) (hA : ∀ q : Nat, H0.size ≤ q → A q) (isC : List Nat) (hC : isC.map (fun i => ws[i]?) = cin.map some)
    (kk : ∀ (H1 : Heap) (locs1 : List Loc), wd D A H0 H1 locs1 ws → W p l e R s m args below meth c H1 locs1 cells slots Q (F0 m (pc + 3) ls rest)) : W p l e R s m args below meth c H locs cells slots Q (F0 m pc ls st0) := by
  have hF := va_free w.2.1 w.2.2 hA isC hC
  refine va_callv hr w.2.2 (fun q _ h => hF q h) hF (fun u t H1 locs1 ht hvm hw hB hz1 hk1 hS => ?_)
  obtain ⟨hP1, hK1, hD1⟩ := hB
  rw [ht] at hP1
  exact kk H1 locs1 ⟨same_P w.1 w.2.1 hC hk1 hP1, w.2.1, hS⟩
-- the calls
theorem k_pre (X : cx p m c cc nL s args Ts own D tys) (w : wd D A H0 H locs ws) {isC : List Nat} (hC : isC.map (fun i => ws[i]?) = cin.map some) (hnd : va_nd isC = true) {av : List Value} : PreS s H (va_Pc av (cpre D tys cin H.size)) av :=
  ⟨cpre_blind, fun U hU hW => ⟨rfl, by rw [hU], by rw [hU]; exact sub_P w.1 hC, va_K.moved hW.alike X.2.1, TX.warm hW X.2.2, (w.2.1.sub isC hnd hC).weaken (fun _ _ _ _ => trivial)⟩⟩
theorem k_runV (X : cx p m c cc nL s args Ts own D tys) (w : wd D A H0 H locs ws) {y : MethodName} {wsy ws9 : List Cond} {rm : Room} {b : Nat} {As : List Value} {Qc : Array Value → State → Outcome → State → Prop} {free : Addr → Prop} (hM : Met l y wsy rm (va_Pc (.ref b :: As) (cpre D tys cin H.size)) Qc 0 0 free) {C : String} {index : Nat} {bytes : ByteArray} {maxL : Nat} {ret : Option FieldType} (hG : GoodIn Ts (wsV own index C y wsy)) (hw : wsy = Cond.code y bytes maxL ret :: ws9) (hrc : rm.cells = 0) (hrs : rm.slots = 0) (n : Nat) (hd : y.cls = C ∧ y.cls ≠ "java/lang/invoke/MethodHandle" ∧ y.cls ≠ "java/lang/invoke/VarHandle" ∧ (parseMethodDescriptor y.desc).map (fun d => d.parameters.length) = some n) (hR : rm.frames + 1 ≤ R.frames ∧ 8 + (maxL + 11) + rm.locals ≤ R.locals)
    (isC : List Nat) (hC : isC.map (fun i => ws[i]?) = cin.map some) (hnd : va_nd isC = true) (q0 ci : Nat) {q : vw_C} {fs : List Value} (hc : vwCl[ci]? = some q) (hq : q.1 = C) (he : ws[q0]? = some (b, .inr (ci, fs))) (hn : As.length = n) (hls : ls.size = nL) (hstack : st0 = As.reverse ++ .ref b :: rest) (hst : (rest.map fun v => v.category).sum ≤ 8) (hdg : decode cc pc = .ok (.invokevirtual index, 3)) (hf : cells + 0 ≤ R.cells ∧ slots + 0 ≤ R.slots) :
    va_Run p l e R s m args below meth c H locs cells slots 0 0 (F0 m pc ls st0) rest (Qc (Value.ref b :: As).toArray) free := by
  have hp := k_pre X w hC hnd (av := .ref b :: As)
  refine va_runV X.1 hM (cwV n X.1.2.2.2.2 hG hw hrc hrs hd hR) ⟨hp.1, ?_, hp.2⟩ rfl hn hls hstack (lv_room hst) hdg hf
  have h := va_recv X.2.1 w.1 hc he
  rw [hq] at h
  exact h
theorem k_runS (X : cx p m c cc nL s args Ts own D tys) (w : wd D A H0 H locs ws) {y : MethodName} {wsy ws9 : List Cond} {rm : Room} {As : List Value} {Qc : Array Value → State → Outcome → State → Prop} {free : Addr → Prop} (hM : Met l y wsy rm (va_Pc As (cpre D tys cin H.size)) Qc 0 0 free) {index : Nat} {bytes : ByteArray} {maxL : Nat} {ret : Option FieldType} (hG : GoodIn Ts (va_wsS own index y wsy)) (hw : wsy = Cond.code y bytes maxL ret :: ws9) (hrc : rm.cells = 0) (hrs : rm.slots = 0) (n : Nat) {C : String} (hd : y.cls = C ∧ y.cls ≠ "java/lang/invoke/MethodHandle" ∧ y.cls ≠ "java/lang/invoke/VarHandle" ∧ (parseMethodDescriptor y.desc).map (fun d => d.parameters.length) = some n) (hR : rm.frames + 1 ≤ R.frames ∧ 8 + (maxL + 11) + rm.locals ≤ R.locals)
    (isC : List Nat) (hC : isC.map (fun i => ws[i]?) = cin.map some) (hnd : va_nd isC = true) (hn : As.length = n) (hls : ls.size = nL) (hstack : st0 = As.reverse ++ rest) (hst : (rest.map fun v => v.category).sum ≤ 8) (hdg : decode cc pc = .ok (.invokestatic index, 3)) (hf : cells + 0 ≤ R.cells ∧ slots + 0 ≤ R.slots) :
    va_Run p l e R s m args below meth c H locs cells slots 0 0 (F0 m pc ls st0) rest (Qc As.toArray) free :=
  va_runS X.1 hM (va_cwS n X.1.2.2.2.2 hG hw hrc hrs hd.2 hR) (k_pre X w hC hnd) rfl hn hls hstack (lv_room hst) hdg hf
theorem k_runSN (X : cx p m c cc nL s args Ts own D tys) (w : wd D A H0 H locs ws) {y : MethodName} {wsy ws9 : List Cond} {rm : Room} {As : List Value} {Qc : Array Value → State → Outcome → State → Prop} {free : Addr → Prop} (hM : Met l y wsy rm (va_Pc As (cpre D tys cin H.size)) Qc 0 0 free) {index : Nat} {host : String} {bytes : ByteArray} {maxL : Nat} {ret : Option FieldType} (hG : GoodIn Ts wsy) (hl : Cond.methodLinkNest own index y host ∈ txw) (hstat : Cond.static y ∈ Ts) (hini : Cond.initialized y.cls ∈ Ts) (hw : wsy = Cond.code y bytes maxL ret :: ws9) (hrc : rm.cells = 0) (hrs : rm.slots = 0) (n : Nat) {C : String} (hd : y.cls = C ∧ y.cls ≠ "java/lang/invoke/MethodHandle" ∧ y.cls ≠ "java/lang/invoke/VarHandle" ∧ (parseMethodDescriptor y.desc).map (fun d => d.parameters.length) = some n) (hR : rm.frames + 1 ≤ R.frames ∧ 8 + (maxL + 11) + rm.locals ≤ R.locals)
    (isC : List Nat) (hC : isC.map (fun i => ws[i]?) = cin.map some) (hnd : va_nd isC = true) (hn : As.length = n) (hls : ls.size = nL) (hstack : st0 = As.reverse ++ rest) (hst : (rest.map fun v => v.category).sum ≤ 8) (hdg : decode cc pc = .ok (.invokestatic index, 3)) (hf : cells + 0 ≤ R.cells ∧ slots + 0 ≤ R.slots) :
    va_Run p l e R s m args below meth c H locs cells slots 0 0 (F0 m pc ls st0) rest (Qc As.toArray) free :=
  va_runSN X.1 hM ⟨va_cnB n X.1.2.2.2.2 hG hw hrc hrs (X.2.2 _ hl) (X.1.2.2.2.2 _ hini) hd.2 hR, X.1.2.2.2.2 _ hstat, trivial⟩ (k_pre X w hC hnd) rfl hn hls hstack (lv_room hst) hdg hf
theorem k_copy (X : cx p m c cc nL s args Ts own D tys) (hls : ls.size = nL) {index : Nat} (h1 : Cond.methodLink own index arraycopyName ∈ Ts) (h2 : Cond.native arraycopyName ∈ Ts) (h3 : Cond.static arraycopyName ∈ Ts) (h4 : Cond.initialized "java/lang/System" ∈ Ts) (w : wd D A H0 H locs ws) (q0 q1 t0 : Nat) {a0 : Nat} {cA : ClassId} {n k k2 : Nat} {f g : Nat → Int32} (he0 : ws[q0]? = some (a0, .inl (cA, n, .inl (cut n k f)))) (he1 : ws[q1]? = some (a, .inl (cA, n, .inl (cut n k2 g)))) (ht : tys[t0]? = some (cA, .int)) {n' : Int32} (hn : n' = nI n) (hn2 : n < 2 ^ 31) (hframes : 1 ≤ R.frames) (hlocals : (rest.map fun v => v.category).sum + (nativeFrameWords "java/lang/System" "arraycopy" 5 + 11) ≤ R.locals) (hws : ws.set q1 (a, .inl (cA, n, .inl (cut n k f))) = ws2) (hdg : decode cc pc = .ok (.invokestatic index, 3))
    (kk : ∀ (H1 : Heap) (locs1 : List Loc), wd D A H0 H1 locs1 ws2 → W p l e R s m args below meth c H1 locs1 cells slots Q (F0 m (pc + 3) ls rest)) : W p l e R s m args below meth c H locs cells slots Q (F0 m pc ls (.int n' :: .int 0 :: .ref a :: .int 0 :: .ref a0 :: rest)) := by
  obtain ⟨⟨hx, hb, hml, hown, hts⟩, hK, -⟩ := X
  have e0 : (0 : Int32).toNatClampNeg = 0 := by decide
  have en : n'.toNatClampNeg = n := by rw [hn, nI_clamp hn2]
  refine va_copyi hx hb (by rw [hml, hls]) hown (hts _ h1) (hts _ h2) (hts _ h3) (hts _ h4) hK w.1 w.2.1 w.2.2 q0 q1 t0 t0 he0 he1 ht ht rfl (by decide) (by decide) (by rw [hn]; exact nI_pos hn2) (by rw [e0, en]; omega) (by rw [e0, en]; omega) (fun i _ => rfl) hframes hlocals hdg ?_
  intro H1 locs1 h1 h2 h3
  rw [e0, en, cut_cpy, hws] at h1 h2
  exact kk H1 locs1 ⟨h1, h2, h3⟩
end KITC
end
section
/-! The cells of both sides in words of one row of ints: z is the row of the reference (0 hour, 1 left, 2 regulator, 3 stud, 4 magnetism, 5 dirt, 6 lies, 7 error, 8 stood, 9 went, 10 printed, 11 so far, 12 to 15 settings, 16 to 18 stop, 19 to 24 weights, from 25 on the paper); a State of the class holds the same numbers. -/
abbrev TY (cI cJ cO : ClassId) : List (ClassId × FieldType) := [(cI, .int), (cO, .object RX3)]
abbrev oW (a wa : Nat) (z : Nat → Int32) : Nat × va_E := (a, .inr (4, [.ref wa, .int (z 2), .int (z 3), .int (z 1), .int (z 4), .int (z 5), .int (z 6), .int (z 0), .int (z 7), .int (z 8), .int (z 9)]))
abbrev aI (cI : ClassId) (a n k : Nat) (f : Nat → Int32) : Nat × va_E := (a, .inl (cI, n, .inl (cut n k f)))
abbrev oP (pa ra : Nat) (z : Nat → Int32) : Nat × va_E := (pa, .inr (1, [.ref ra, .int (z 10)]))
abbrev oS (a w pa sa : Nat) (z : Nat → Int32) : Nat × va_E := (a, .inr (3, [.ref w, .ref pa, .ref sa, .int (z 11), .int (z 16), .int (z 17), .int (z 18)]))
abbrev oT (a c k n : Nat) (x : Nat → Int32) : Nat × va_E := (a, .inr (0, [.ref c, .int (x 0), .ref k, .ref n, .int (x 1), .int (x 2), .int (x 3), .int (x 4), .int (x 5)]))
abbrev oV (a r : Nat) (x : Nat → Int32) : Nat × va_E := (a, .inr (2, [.ref r, .int (x 0), .int (x 1)]))
abbrev aO (cO : ClassId) (r : Nat) (f : Nat → Option Nat) : Nat × va_E := (r, .inl (cO, 6, .inr (.inr (.inr (.inr f)))))
abbrev oX (a n sn sv t tr : Nat) (h : Int32) : Nat × va_E := (a, .inr (5, [.ref n, .ref sn, .ref sv, .ref t, .ref tr, .int h]))
abbrev oM (a za as sv ka ta : Nat) (y : Nat → Int32) : Nat × va_E := (a, .inr (6, [.int (y 0), .ref za, .ref as, .ref sv, .int (y 1), .ref ka, .int (y 2), .ref ta, .int (y 3), .int (y 4), .int (y 5)]))
theorem oW_c {a wa : Nat} {f g : Nat → Int32} (h : ∀ k, 0 ≤ k → k < 10 → f k = g k) : oW a wa f = oW a wa g := by
  simp only [oW, h 0 (by decide) (by decide), h 1 (by decide) (by decide), h 2 (by decide) (by decide), h 3 (by decide) (by decide), h 4 (by decide) (by decide), h 5 (by decide) (by decide), h 6 (by decide) (by decide), h 7 (by decide) (by decide), h 8 (by decide) (by decide), h 9 (by decide) (by decide)]
theorem aI_c {cI : ClassId} {a n k : Nat} {f g : Nat → Int32} (h : ∀ i, k ≤ i → i < k + n → f i = g i) : aI cI a n k f = aI cI a n k g := by
  have e : cut n k f = cut n k g := cut_eq (fun j hj => h (k + j) (Nat.le_add_right _ _) (Nat.add_lt_add_left hj _))
  simp only [aI, e]
theorem oP_c {pa ra : Nat} {f g : Nat → Int32} (h : ∀ k, 10 ≤ k → k < 11 → f k = g k) : oP pa ra f = oP pa ra g := by
  simp only [oP, h 10 (by decide) (by decide)]
theorem oS_c {a w pa sa : Nat} {f g : Nat → Int32} (h : ∀ k, 11 ≤ k → k < 19 → f k = g k) : oS a w pa sa f = oS a w pa sa g := by
  simp only [oS, h 11 (by decide) (by decide), h 16 (by decide) (by decide), h 17 (by decide) (by decide), h 18 (by decide) (by decide)]
theorem oT_c {a c k n : Nat} {f g : Nat → Int32} (h : ∀ k, 0 ≤ k → k < 6 → f k = g k) : oT a c k n f = oT a c k n g := by
  simp only [oT, h 0 (by decide) (by decide), h 1 (by decide) (by decide), h 2 (by decide) (by decide), h 3 (by decide) (by decide), h 4 (by decide) (by decide), h 5 (by decide) (by decide)]
-- facts of ints (kit/laws NUMBERS and COUNTS, pasted)
theorem fa_lt (a b : Int32) : a < b ↔ a.toInt < b.toInt := Int32.lt_iff_toInt_lt
theorem fa_le (a b : Int32) : a ≤ b ↔ a.toInt ≤ b.toInt := Int32.le_iff_toInt_le
theorem fa_eq (a b : Int32) : a = b ↔ a.toInt = b.toInt := Int32.toInt_inj.symm
theorem fa_lt64 (a b : Int64) : a < b ↔ a.toInt < b.toInt := Int64.lt_iff_toInt_lt
theorem fa_le64 (a b : Int64) : a ≤ b ↔ a.toInt ≤ b.toInt := Int64.le_iff_toInt_le
theorem fa_eq64 (a b : Int64) : a = b ↔ a.toInt = b.toInt := Int64.toInt_inj.symm
theorem fa_of_nlt {a b : Int32} (h : ¬ a < b) : b ≤ a := by
  rw [fa_lt] at h
  rw [fa_le]
  omega
theorem fa_of_nle {a b : Int32} (h : ¬ a ≤ b) : b < a := by
  rw [fa_le] at h
  rw [fa_lt]
  omega
theorem fa_three (a b : Int32) : a < b ∨ a = b ∨ b < a := by
  rw [fa_lt, fa_lt, fa_eq]
  omega
theorem fb_rng (x : Int32) : -2147483648 ≤ x.toInt ∧ x.toInt < 2147483648 := by
  have h1 := Int32.le_toInt x
  have h2 := Int32.toInt_lt x
  omega
theorem fb_bmod {z : Int} (h1 : -2147483648 ≤ z) (h2 : z < 2147483648) : z.bmod (2 ^ 32) = z := by
  rw [Int.bmod_eq_of_le (by omega) (by omega)]
theorem fb_addI {x y : Int32} (h1 : -2147483648 ≤ x.toInt + y.toInt) (h2 : x.toInt + y.toInt < 2147483648) : (x + y).toInt = x.toInt + y.toInt := by
  rw [Int32.toInt_add, fb_bmod h1 h2]
theorem fb_subI {x y : Int32} (h1 : -2147483648 ≤ x.toInt - y.toInt) (h2 : x.toInt - y.toInt < 2147483648) : (x - y).toInt = x.toInt - y.toInt := by
  rw [Int32.toInt_sub, fb_bmod h1 h2]
theorem fb_mulI {x y : Int32} (h1 : -2147483648 ≤ x.toInt * y.toInt) (h2 : x.toInt * y.toInt < 2147483648) : (x * y).toInt = x.toInt * y.toInt := by
  rw [Int32.toInt_mul, fb_bmod h1 h2]
theorem fb_negI {x : Int32} (h : x.toInt ≠ -2147483648) : (-x).toInt = -x.toInt := by
  have := fb_rng x
  rw [Int32.toInt_neg, fb_bmod (by omega) (by omega)]
theorem fb_ofI {z : Int} (h1 : -2147483648 ≤ z) (h2 : z < 2147483648) : (Int32.ofInt z).toInt = z := by
  rw [Int32.toInt_ofInt, fb_bmod h1 h2]
theorem fb_asI (x : Int32) : Int32.ofInt x.toInt = x := Int32.ofInt_toInt x
theorem fb_rngL (x : Int64) : -9223372036854775808 ≤ x.toInt ∧ x.toInt < 9223372036854775808 := by
  have h1 := Int64.le_toInt x
  have h2 := Int64.toInt_lt x
  omega
theorem fb_bmodL {z : Int} (h1 : -9223372036854775808 ≤ z) (h2 : z < 9223372036854775808) : z.bmod (2 ^ 64) = z := by
  rw [Int.bmod_eq_of_le (by omega) (by omega)]
theorem fb_addL {x y : Int64} (h1 : -9223372036854775808 ≤ x.toInt + y.toInt) (h2 : x.toInt + y.toInt < 9223372036854775808) : (x + y).toInt = x.toInt + y.toInt := by
  rw [Int64.toInt_add, fb_bmodL h1 h2]
theorem fb_subL {x y : Int64} (h1 : -9223372036854775808 ≤ x.toInt - y.toInt) (h2 : x.toInt - y.toInt < 9223372036854775808) : (x - y).toInt = x.toInt - y.toInt := by
  rw [Int64.toInt_sub, fb_bmodL h1 h2]
theorem fb_mulL {x y : Int64} (h1 : -9223372036854775808 ≤ x.toInt * y.toInt) (h2 : x.toInt * y.toInt < 9223372036854775808) : (x * y).toInt = x.toInt * y.toInt := by
  rw [Int64.toInt_mul, fb_bmodL h1 h2]
theorem nI_addp {x y : Int32} {a b : Nat} (hx : x = nI a) (hy : y = nI b) : x + y = nI (a + b) := by rw [hx, hy, nI_add]
theorem nI_mulp {x y : Int32} {a b : Nat} (hx : x = nI a) (hy : y = nI b) : x * y = nI (a * b) := by rw [hx, hy, pk_mul]
-- truth as an int
def bI (b : Bool) : Int32 := if b then 1 else 0
theorem bI_n (b : Bool) : narrow .boolean (.int (bI b)) = .int (bI b) := by cases b <;> rfl
theorem bI_t {b : Bool} (h : ¬ bI b = 0) : b = true := by cases b <;> first | rfl | exact absurd rfl h
theorem bI_f {b : Bool} (h : bI b = 0) : b = false := by cases b <;> first | rfl | exact absurd h (by decide)
-- numbers
def am (v : Int32) : Int32 := if 0 ≤ v then v else -v
def fdv (x y : Int32) : Int32 := if 0 ≤ (x ^^^ y) then x / y else if x / y * y = x then x / y else x / y - 1
def dvd (v b : Int32) : Int32 := if 0 ≤ v then v / b else -((b - 1 - v) / b)
def rem (x y : Int32) : Int32 := x - x / y * y
-- the watch
def sw0 (z : Nat → Int32) (x : Int32) : Int32 := 320 - 3 * (48 - z 1) - z 5 - (if x ≤ 1 then 0 else 20)
def swing (z : Nat → Int32) (x : Int32) : Int32 := if 0 ≤ sw0 z x then sw0 z x else 0
def rt0 (z : Nat → Int32) (k : Nat) : Int32 := z 2 + fdv (z (19 + k) * (360 - swing z (nI k))) 100 + 2 * z 4
def rate (z : Nat → Int32) (k : Nat) : Int32 := if z 4 ≤ 50 then (if swing z (nI k) ≤ 300 then rt0 z k else rt0 z k + 600) else rt0 z k + 300
def beat (z : Nat → Int32) (x : Int32) : Int32 := am (z 3) + z 5 / 10 + (if x ≤ 1 then 0 else 2)
def goes (z : Nat → Int32) (x : Int32) : Bool := !decide (z 1 ≤ 0) && !decide (swing z x < 120)
def tick (z : Nat → Int32) : Nat → Int32 := upd z 0 (z 0 + 1)
def goneF (z : Nat → Int32) (k : Nat) : Nat → Int32 := upd (upd (upd (tick z) 7 (z 7 + fdv (rate (tick z) k) 24)) 1 (z 1 - 1)) 9 (z 9 + 1)
def hourF (z : Nat → Int32) (k : Nat) : Nat → Int32 := if goes (tick z) (nI k) then (if rem (z 9 + 1) 24 = 0 then upd (goneF z k) 5 (if z 5 + 1 ≤ 100 then z 5 + 1 else 100) else goneF z k) else upd (tick z) 8 (z 8 + 1)
def hoursF : Nat → (Nat → Int32) → Nat → Nat → Int32
  | 0, z, _ => z
  | n + 1, z, k => hoursF n (hourF z k) k

def mn48 (v : Int32) : Int32 := if v ≤ 48 then v else 48
theorem mn48_c (v : Int32) : (if v < 48 then v else 48) = mn48 v := by
  unfold mn48
  by_cases h : v < 48
  · have h2 : v ≤ 48 := by rw [fa_lt] at h; rw [fa_le]; omega
    rw [if_pos h, if_pos h2]
  · by_cases h2 : v ≤ 48
    · rw [if_neg h, if_pos h2]
      rw [fa_eq]
      rw [fa_lt] at h
      rw [fa_le] at h2
      omega
    · rw [if_neg h, if_neg h2]
def isP (x : Int32) : Bool := !decide (x < 0) && !decide (6 ≤ x)
theorem isP_b {k : Nat} (h : k < 6) : ¬ bI (isP (nI k)) = 0 := by
  rcases (show k = 0 ∨ k = 1 ∨ k = 2 ∨ k = 3 ∨ k = 4 ∨ k = 5 by omega) with rfl | rfl | rfl | rfl | rfl | rfl <;> decide
theorem mx0 (v : Int32) : (if 0 < v then v else 0) = if 0 ≤ v then v else 0 := by
  by_cases h : 0 < v
  · have h2 : 0 ≤ v := by rw [fa_lt] at h; rw [fa_le]; omega
    rw [if_pos h, if_pos h2]
  · by_cases h2 : 0 ≤ v
    · rw [if_neg h, if_pos h2]
      rw [fa_eq]
      rw [fa_lt] at h
      rw [fa_le] at h2
      have e : (0 : Int32).toInt = 0 := by decide
      omega
    · rw [if_neg h, if_neg h2]
theorem lt_2 (x : Int32) : x < 2 ↔ x ≤ 1 := by
  rw [fa_lt, fa_le, show (2 : Int32).toInt = 2 by decide, show (1 : Int32).toInt = 1 by decide]
  omega
theorem sub_m (x y : Int32) : x + -y = x - y := (Int32.sub_eq_add_neg x y).symm
theorem sub_z (x : Int32) : x - 0 = x := by rw [Int32.sub_eq_add_neg]; simp
theorem add_z (x : Int32) : x + 0 = x := by simp
theorem z_sub (x : Int32) : 0 - x = -x := by simp
theorem sw_a {z : Nat → Int32} {x : Int32} (c : x < 2) : (if 0 < 320 - 3 * (48 - z 1) - z 5 then 320 - 3 * (48 - z 1) - z 5 else 0) = swing z x := by
  rw [mx0, swing, sw0, if_pos ((lt_2 x).mp c), sub_z]
theorem sw_b {z : Nat → Int32} {x : Int32} (c : ¬ x < 2) : (if 0 < 320 - 3 * (48 - z 1) - z 5 + (-20) then 320 - 3 * (48 - z 1) - z 5 + (-20) else 0) = swing z x := by
  have h : ¬ x ≤ 1 := fun h => c ((lt_2 x).mpr h)
  rw [mx0, swing, sw0, if_neg h, sub_m]
theorem bt_a {z : Nat → Int32} {x : Int32} (c : x < 2) : (if 0 ≤ z 3 then z 3 else 0 - z 3) + z 5 / 10 = beat z x := by
  rw [beat, am, if_pos ((lt_2 x).mp c), add_z, z_sub]
theorem bt_b {z : Nat → Int32} {x : Int32} (c : ¬ x < 2) : (if 0 ≤ z 3 then z 3 else 0 - z 3) + z 5 / 10 + 2 = beat z x := by
  have h : ¬ x ≤ 1 := fun h => c ((lt_2 x).mpr h)
  rw [beat, am, if_neg h, z_sub]
theorem mn_le (v : Int32) : (if v < 100 then v else 100) = if v ≤ 100 then v else 100 := by
  by_cases h : v < 100
  · have h2 : v ≤ 100 := by rw [fa_lt] at h; rw [fa_le]; omega
    rw [if_pos h, if_pos h2]
  · by_cases h2 : v ≤ 100
    · rw [if_neg h, if_pos h2]
      rw [fa_eq]
      rw [fa_lt] at h
      rw [fa_le] at h2
      omega
    · rw [if_neg h, if_neg h2]
theorem tick_o (z : Nat → Int32) (k : Nat) (h1 : 1 ≤ k) (_ : k < 225) : tick z k = z k := upd_no (by omega)
theorem goneF_o (z : Nat → Int32) (j k : Nat) (h0 : ¬ k = 7) (h1 : ¬ k = 1) (h2 : ¬ k = 9) (h3 : ¬ k = 0) : goneF z j k = z k := by
  rw [goneF, upd_no h2, upd_no h1, upd_no h0, tick, upd_no h3]
theorem hourF_q (z : Nat → Int32) (j k : Nat) (h0 : ¬ k = 7) (h1 : ¬ k = 1) (h2 : ¬ k = 9) (h3 : ¬ k = 0) (h4 : ¬ k = 5) (h5 : ¬ k = 8) : hourF z j k = z k := by
  unfold hourF
  split
  · split
    · rw [upd_no h4, goneF_o z j k h0 h1 h2 h3]
    · rw [goneF_o z j k h0 h1 h2 h3]
  · rw [upd_no h5, tick, upd_no h3]
theorem hourF_o (z : Nat → Int32) (j k : Nat) (h1 : 10 ≤ k) (_ : k < 225) : hourF z j k = z k := hourF_q z j k (by omega) (by omega) (by omega) (by omega) (by omega) (by omega)
theorem hourF_6 (z : Nat → Int32) (j : Nat) : hourF z j 6 = z 6 := hourF_q z j 6 (by decide) (by decide) (by decide) (by decide) (by decide) (by decide)
theorem hoursF_o : ∀ (n : Nat) (z : Nat → Int32) (j k : Nat) (_ : 10 ≤ k) (_ : k < 225), hoursF n z j k = z k
  | 0, _, _, _, _, _ => rfl
  | n + 1, z, j, k, h1, h2 => (hoursF_o n (hourF z j) j k h1 h2).trans (hourF_o z j k h1 h2)
theorem hoursF_6 : ∀ (n : Nat) (z : Nat → Int32) (j : Nat), hoursF n z j 6 = z 6
  | 0, _, _ => rfl
  | n + 1, z, j => (hoursF_6 n (hourF z j) j).trans (hourF_6 z j)
-- the paper
def lat (z : Nat → Int32) (x : Int32) : Nat → Int32
  | 0 => -1
  | n + 1 => if z (25 + (n * 5 + 1)) = x then nI n else lat z x n
def latj (z : Nat → Int32) (x : Int32) : Nat → Nat
  | 0 => 0
  | n + 1 => if z (25 + (n * 5 + 1)) = x then n else latj z x n
theorem lat_yes {z : Nat → Int32} {x : Int32} {n : Nat} (c : z (25 + (n * 5 + 1)) = x) : lat z x (n + 1) = nI n := if_pos c
theorem lat_no {z : Nat → Int32} {x : Int32} {n : Nat} (c : ¬ z (25 + (n * 5 + 1)) = x) : lat z x (n + 1) = lat z x n := if_neg c
theorem nI_m1 {n : Nat} (h : n < 2 ^ 31) : ¬ nI n = -1 := fun e => by
  have h1 := nI_toInt h
  rw [e, show (-1 : Int32).toInt = -1 by decide] at h1
  omega
theorem lat_j {z : Nat → Int32} {x : Int32} : ∀ {n : Nat}, ¬ lat z x n = -1 → lat z x n = nI (latj z x n) ∧ latj z x n < n ∧ z (25 + (latj z x n * 5 + 1)) = x
  | 0, h => absurd rfl h
  | n + 1, h => by
    by_cases c : z (25 + (n * 5 + 1)) = x
    · rw [lat_yes c, show latj z x (n + 1) = n from if_pos c]
      exact ⟨rfl, Nat.lt_succ_self n, c⟩
    · rw [lat_no c] at h ⊢
      rw [show latj z x (n + 1) = latj z x n from if_neg c]
      obtain ⟨h1, h2, h3⟩ := lat_j h
      exact ⟨h1, Nat.lt_succ_of_lt h2, h3⟩
def cnt (z : Nat → Int32) (x : Int32) : Nat → Int32
  | 0 => 0
  | n + 1 => if z (25 + (n * 5 + 1)) = x then cnt z x n + 1 else cnt z x n
def full (z : Nat → Int32) : Bool := !decide (z 10 < 40)
theorem full_0 {z : Nat → Int32} {n : Nat} (hn : z 10 = nI n) (h : n < 40) : bI (full z) = 0 := by
  have h2 : z 10 < 40 := by rw [hn]; exact nI_lt h (by decide)
  simp [full, h2, bI]
def printF (z : Nat → Int32) (n k : Nat) : Nat → Int32 := upd (upd (upd (upd (upd (upd z (25 + (n * 5 + 0)) (z 0)) (25 + (n * 5 + 1)) (nI k)) (25 + (n * 5 + 2)) (rate z k)) (25 + (n * 5 + 3)) (beat z (nI k))) (25 + (n * 5 + 4)) (swing z (nI k))) 10 (nI n + 1)
theorem printF_q (z : Nat → Int32) (n j k : Nat) (h : k < 25) (h2 : ¬ k = 10) : printF z n j k = z k := by
  have e : ∀ {f : Nat → Int32} {i : Nat} {v : Int32}, upd f (25 + i) v k = f k := upd_no (by omega)
  rw [printF, upd_no h2, e, e, e, e, e]
theorem printF_l (z : Nat → Int32) (n j k : Nat) (_ : 0 ≤ k) (h : k < 10) : printF z n j k = z k := printF_q z n j k (by omega) (by omega)
theorem printF_m (z : Nat → Int32) (n j k : Nat) (_ : 11 ≤ k) (h : k < 25) : printF z n j k = z k := printF_q z n j k (by omega) (by omega)
def readF (z : Nat → Int32) (n k : Nat) : Nat → Int32 := upd (printF (upd z 6 (nI k)) n k) 11 (z 11 + 1)
def why (z : Nat → Int32) (k : Nat) : Int32 := if 0 < z 1 then (if 120 ≤ swing z (nI k) then (if beat z (nI k) ≤ z 12 then (if z 4 ≤ z 13 then (if full z = false then 0 else 5) else 4) else 3) else 2) else 1
theorem dec1 (x : Int32) : x + Int32.ofInt (-1) = x - 1 := sub_m x 1
-- the text: t holds 0 length, 1 parts, 2 kind, 3 negative, 4 digits, 5 value, from 100 on the kinds, from 200 on the numbers, from 300 on the codes
def bgn (t : Nat → Int32) : Nat → Int32 := upd (upd (upd (upd t 2 0) 3 0) 4 0) 5 0
def whole (t : Nat → Int32) : Bool := decide (t 2 = 100) || !decide (t 4 ≤ 0)
def pq (t : Nat → Int32) : Nat := (t 1).toNatClampNeg
def endF (t : Nat → Int32) : Nat → Int32 := bgn (upd (upd (upd t (100 + pq t) (t 2)) (200 + pq t) (if t 3 = 0 then t 5 else -(t 5))) 1 (nI (pq t) + 1))
theorem pq_eq {t : Nat → Int32} {q : Nat} (h : t 1 = nI q) (h2 : q < 60) : pq t = q := by rw [pq, h, nI_clamp (by omega)]
def isK (c : Int32) : Bool := decide (c = 43) || decide (c = 100) || decide (c = 103) || decide (c = 112) || decide (c = 114) || decide (c = 119)
def kF (t : Nat → Int32) (c : Int32) : Nat → Int32 := if isK c then upd t 2 c else t
def sF (t : Nat → Int32) : Nat → Int32 := if whole t then endF t else t
def mB (t : Nat → Int32) : Bool := decide (t 2 = 103) && (decide (t 3 = 0) && decide (t 4 ≤ 0))
def mF (t : Nat → Int32) : Nat → Int32 := if mB t then upd t 3 1 else t
def lst (t : Nat → Int32) : Int32 := if t 2 = 119 then 1 else if t 2 = 43 then 1 else if t 3 = 0 then 0 else 1
def mst (t : Nat → Int32) : Int32 := if t 2 = 43 then 99 else if t 2 = 103 then 99 else if t 2 = 112 then 5 else if t 2 = 114 then 5 else if t 2 = 119 then 48 else -1
def dB (t : Nat → Int32) (d : Int32) : Bool := !decide (d < 0) && (!decide (9 < d) && (!(!decide (t 4 ≤ 0) && decide (t 5 = 0)) && (!decide (10 * t 5 + d < lst t) && decide (10 * t 5 + d ≤ mst t))))
def dF (t : Nat → Int32) (d : Int32) : Nat → Int32 := if dB t d then upd (upd t 4 (t 4 + 1)) 5 (10 * t 5 + d) else t
def tkB (t : Nat → Int32) (c : Int32) : Bool := if t 2 = 0 then isK c else if c = 59 then whole t else if c = 45 then mB t else dB t (c - 48)
def tkF (t : Nat → Int32) (c : Int32) : Nat → Int32 := if t 2 = 0 then kF t c else if c = 59 then sF t else if c = 45 then mF t else dF t (c - 48)
def scF : Nat → (Nat → Int32) → Nat → Nat → Int32
  | 0, t, _ => t
  | m + 1, t, i => if tkB t (t (300 + i)) then scF m (tkF t (t (300 + i))) (i + 1) else tkF t (t (300 + i))
def scR : Nat → (Nat → Int32) → Nat → Int32
  | 0, _, i => nI i
  | m + 1, t, i => if tkB t (t (300 + i)) then scR m (tkF t (t (300 + i))) (i + 1) else nI i
theorem bgn_l (t : Nat → Int32) (k : Nat) (_ : 0 ≤ k) (h : k < 2) : bgn t k = t k := by
  rw [bgn, upd_no (by omega), upd_no (by omega), upd_no (by omega), upd_no (by omega)]
theorem bgn_h (t : Nat → Int32) (k : Nat) (h : 6 ≤ k) (_ : k < 400) : bgn t k = t k := by
  rw [bgn, upd_no (by omega), upd_no (by omega), upd_no (by omega), upd_no (by omega)]
theorem kF_q (t : Nat → Int32) (c : Int32) (k : Nat) (h : ¬ k = 2) : kF t c k = t k := by
  unfold kF
  split
  · exact upd_no h
  · rfl
theorem kF_h (t : Nat → Int32) (c : Int32) (k : Nat) (h : 6 ≤ k) (_ : k < 400) : kF t c k = t k := kF_q t c k (by omega)
theorem mF_q (t : Nat → Int32) (k : Nat) (h : ¬ k = 3) : mF t k = t k := by
  unfold mF
  split
  · exact upd_no h
  · rfl
theorem mF_h (t : Nat → Int32) (k : Nat) (h : 6 ≤ k) (_ : k < 400) : mF t k = t k := mF_q t k (by omega)
theorem dF_q (t : Nat → Int32) (d : Int32) (k : Nat) (h : ¬ k = 4) (h2 : ¬ k = 5) : dF t d k = t k := by
  unfold dF
  split
  · exact (upd_no h2).trans (upd_no h)
  · rfl
theorem dF_h (t : Nat → Int32) (d : Int32) (k : Nat) (h : 6 ≤ k) (_ : k < 400) : dF t d k = t k := dF_q t d k (by omega) (by omega)
theorem endF_q (t : Nat → Int32) (k : Nat) (h : k = 0 ∨ 100 + pq t < k ∧ k < 200 ∨ 200 + pq t < k) (_ : pq t < 60) : endF t k = t k := by
  rw [endF, bgn, upd_no (by omega), upd_no (by omega), upd_no (by omega), upd_no (by omega), upd_no (by omega), upd_no (by omega), upd_no (by omega)]
theorem sF_q {t : Nat → Int32} (k : Nat) (h : k = 0 ∨ 300 ≤ k) (h2 : pq t < 60) : sF t k = t k := by
  unfold sF
  split
  · exact endF_q t k (by omega) h2
  · rfl
theorem tkF_q {t : Nat → Int32} {c : Int32} (k : Nat) (h : k = 0 ∨ 300 ≤ k) (h2 : pq t < 60) : tkF t c k = t k := by
  unfold tkF
  split
  · exact kF_q t c k (by omega)
  · split
    · exact sF_q k h h2
    · split
      · exact mF_q t k (by omega)
      · exact dF_q t _ k (by omega) (by omega)
/-- parts so far, and the part that is being read, are at most the characters so far -/
def pinv (t : Nat → Int32) (i : Nat) : Prop := ∃ q : Nat, t 1 = nI q ∧ q + (if t 2 = 0 then 0 else 1) ≤ i ∧ (t 2 = 0 → t 4 = 0)
theorem pinv_lt {t : Nat → Int32} {i : Nat} (h : pinv t i) (h2 : i < 60) : pq t < 60 := by
  obtain ⟨q, hq, hq2, -⟩ := h
  rw [pq, hq, nI_clamp (by omega)]
  omega
theorem pinv_0 {t : Nat → Int32} : pinv (bgn (upd t 1 0)) 0 := ⟨0, rfl, by simp [bgn, upd], by simp [bgn, upd]⟩
theorem tk_pinv {t : Nat → Int32} {i : Nat} {c : Int32} (hp : pinv t i) (hi : i < 60) (c1 : tkB t c = true) : pinv (tkF t c) (i + 1) := by
  have hlt := pinv_lt hp hi
  obtain ⟨q, hq, hq2, hq4⟩ := hp
  unfold tkF
  split
  · rename_i h0
    rw [if_pos h0] at hq2
    refine ⟨q, by rw [kF_q t c 1 (by decide), hq], ?_, fun _ => by rw [kF_q t c 4 (by decide)]; exact hq4 h0⟩
    split <;> omega
  · rename_i h0
    rw [if_neg h0] at hq2
    split
    · rename_i h1
      have hw : whole t = true := by
        rw [tkB, if_neg h0, if_pos h1] at c1
        exact c1
      have e2 : endF t 2 = 0 := by
        rw [endF, bgn, upd_no (by decide), upd_no (by decide), upd_no (by decide), upd_is]
      have e1 : endF t 1 = nI q + 1 := by
        rw [endF, bgn, upd_no (by decide), upd_no (by decide), upd_no (by decide), upd_no (by decide), upd_is, pq, hq, nI_clamp (by omega)]
      rw [sF, if_pos hw]
      exact ⟨q + 1, by rw [e1, nI_1], by rw [if_pos e2]; omega, fun _ => by rw [endF, bgn, upd_no (by decide), upd_is]⟩
    · split
      · exact ⟨q, by rw [mF_q t 1 (by decide), hq], by rw [mF_q t 2 (by decide), if_neg h0]; omega, fun h => absurd ((mF_q t 2 (by decide)).symm.trans h) h0⟩
      · exact ⟨q, by rw [dF_q t _ 1 (by decide) (by decide), hq], by rw [dF_q t _ 2 (by decide) (by decide), if_neg h0]; omega, fun h => absurd ((dF_q t _ 2 (by decide) (by decide)).symm.trans h) h0⟩
theorem scF_yes {m : Nat} {t : Nat → Int32} {i : Nat} (c : tkB t (t (300 + i)) = true) : scF (m + 1) t i = scF m (tkF t (t (300 + i))) (i + 1) := if_pos c
theorem scF_no {m : Nat} {t : Nat → Int32} {i : Nat} (c : tkB t (t (300 + i)) = false) : scF (m + 1) t i = tkF t (t (300 + i)) := if_neg (by rw [c]; decide)
theorem scR_yes {m : Nat} {t : Nat → Int32} {i : Nat} (c : tkB t (t (300 + i)) = true) : scR (m + 1) t i = scR m (tkF t (t (300 + i))) (i + 1) := if_pos c
theorem scR_no {m : Nat} {t : Nat → Int32} {i : Nat} (c : tkB t (t (300 + i)) = false) : scR (m + 1) t i = nI i := if_neg (by rw [c]; decide)
end
section
/-! The day's rate, the ring of saved states, the whole object: pure words. -/
def mn (a b : Int32) : Int32 := if b < a then b else a
def mx (a b : Int32) : Int32 := if a < b then b else a
def rtj (z : Nat → Int32) (n p : Nat) : Int32 := z (25 + (latj z (nI p) n * 5 + 2))
def hrj (z : Nat → Int32) (n p : Nat) : Int32 := z (25 + (latj z (nI p) n * 5 + 0))
def wdl (z : Nat → Int32) (n : Nat) : Nat → Nat → Int32 → Int32 → Int32 → Int32
  | 0, _, o, l, g => if z 0 - o ≤ z 14 then (if g - l ≤ z 15 then 0 else 8) else 7
  | m + 1, p, o, l, g => if lat z (nI p) n = -1 then 6 else wdl z n m (p + 1) (mn o (hrj z n p)) (mn l (rtj z n p)) (mx g (rtj z n p))
def whyDay (z : Nat → Int32) (n : Nat) : Int32 := wdl z n 6 0 2000000000 2000000000 (-2000000000)
theorem wdl_s {z : Nat → Int32} {n m p : Nat} {o l g : Int32} (c : ¬ lat z (nI p) n = -1) : wdl z n (m + 1) p o l g = wdl z n m (p + 1) (mn o (hrj z n p)) (mn l (rtj z n p)) (mx g (rtj z n p)) := if_neg c
theorem wdl_6 {z : Nat → Int32} {n m p : Nat} {o l g : Int32} (c : lat z (nI p) n = -1) : wdl z n (m + 1) p o l g = 6 := if_pos c
theorem wdl_ok {z : Nat → Int32} {n : Nat} : ∀ (m p : Nat) (o l g : Int32), ¬ wdl z n m p o l g = 6 → ∀ q, p ≤ q → q < p + m → ¬ lat z (nI q) n = -1
  | 0, p, _, _, _, _, q, h1, h2 => by omega
  | m + 1, p, o, l, g, h, q, h1, h2 => by
    by_cases c : lat z (nI p) n = -1
    · exact absurd (wdl_6 c) h
    · rw [wdl_s c] at h
      rcases Nat.eq_or_lt_of_le h1 with e | e
      · subst e; exact c
      · exact wdl_ok m (p + 1) _ _ _ h q e (by omega)
theorem day_ok {z : Nat → Int32} {n : Nat} (c : whyDay z n = 0) (q : Nat) (h : q < 6) : ¬ lat z (nI q) n = -1 := wdl_ok 6 0 _ _ _ (by show ¬ whyDay z n = 6; rw [c]; decide) q (Nat.zero_le _) (by omega)
def sm (z : Nat → Int32) (n : Nat) : Nat → Int32
  | 0 => 0
  | p + 1 => sm z n p + rtj z n p
def dr1 (z : Nat → Int32) (n : Nat) : Int32 := if whyDay z n = 0 then fdv (sm z n 6) 6 + 10000 else -1
def dpe (z : Nat → Int32) (seen s l g : Int32) : Int32 := if seen < 6 then -1 else if g - l ≤ z 15 then fdv s 6 + 10000 else -1
def dpl (z : Nat → Int32) : Nat → Int32 → Int32 → Int32 → Int32 → Int32 → Int32
  | 0, _, seen, s, l, g => dpe z seen s l g
  | i + 1, mask, seen, s, l, g => if 6 ≤ seen then dpe z seen s l g else if mask &&& (1 <<< (z (25 + (i * 5 + 1)) &&& 31)) = 0 then (if z 0 - z (25 + (i * 5 + 0)) ≤ z 14 then dpl z i (mask ||| (1 <<< (z (25 + (i * 5 + 1)) &&& 31))) (seen + 1) (s + z (25 + (i * 5 + 2))) (mn l (z (25 + (i * 5 + 2)))) (mx g (z (25 + (i * 5 + 2)))) else -1) else dpl z i mask seen s l g
def dr2 (z : Nat → Int32) (n : Nat) : Int32 := dpl z n 0 0 0 2000000000 (-2000000000)
theorem dpl_e {z : Nat → Int32} {i : Nat} {mask seen s l g : Int32} (c : 6 ≤ seen) : dpl z (i + 1) mask seen s l g = dpe z seen s l g := if_pos c
theorem dpl_o {z : Nat → Int32} {i : Nat} {mask seen s l g : Int32} (c : ¬ 6 ≤ seen) (c2 : mask &&& (1 <<< (z (25 + (i * 5 + 1)) &&& 31)) = 0) (c3 : ¬ z 0 - z (25 + (i * 5 + 0)) ≤ z 14) : dpl z (i + 1) mask seen s l g = -1 := by
  rw [dpl, if_neg c, if_pos c2, if_neg c3]
theorem dpl_y {z : Nat → Int32} {i : Nat} {mask seen s l g : Int32} (c : ¬ 6 ≤ seen) (c2 : mask &&& (1 <<< (z (25 + (i * 5 + 1)) &&& 31)) = 0) (c3 : z 0 - z (25 + (i * 5 + 0)) ≤ z 14) : dpl z (i + 1) mask seen s l g = dpl z i (mask ||| (1 <<< (z (25 + (i * 5 + 1)) &&& 31))) (seen + 1) (s + z (25 + (i * 5 + 2))) (mn l (z (25 + (i * 5 + 2)))) (mx g (z (25 + (i * 5 + 2)))) := by
  rw [dpl, if_neg c, if_pos c2, if_pos c3]
theorem dpl_n {z : Nat → Int32} {i : Nat} {mask seen s l g : Int32} (c : ¬ 6 ≤ seen) (c2 : ¬ mask &&& (1 <<< (z (25 + (i * 5 + 1)) &&& 31)) = 0) : dpl z (i + 1) mask seen s l g = dpl z i mask seen s l g := by
  rw [dpl, if_neg c, if_neg c2]
-- the ring
abbrev S6 (cI : ClassId) (ad : Nat → Nat) (z : Nat → Int32) : va_W := [oS (ad 0) (ad 1) (ad 3) (ad 5) z, aI cI (ad 5) 4 12 z, oW (ad 1) (ad 2) z, aI cI (ad 2) 6 19 z, oP (ad 3) (ad 4) z, aI cI (ad 4) 200 25 z]
abbrev rgS (cI : ClassId) (rg : Nat → Nat → Nat) (zs : Nat → Nat → Int32) : va_W := S6 cI (rg 0) (zs 0) ++ (S6 cI (rg 1) (zs 1) ++ (S6 cI (rg 2) (zs 2) ++ (S6 cI (rg 3) (zs 3) ++ (S6 cI (rg 4) (zs 4) ++ S6 cI (rg 5) (zs 5)))))
def rgA (rg : Nat → Nat → Nat) : Nat → Option Nat := fun i => if i < 6 then some (rg i 0) else none
def pushY (y : Nat → Int32) : Nat → Int32 := upd (upd y 0 (rem (y 0 + 1) 6)) 1 (if y 1 + 1 < 6 then y 1 + 1 else 6)
def popY (y : Nat → Int32) : Nat → Int32 := upd (upd y 0 (rem (y 0 + 6 - 1) 6)) 1 (y 1 - 1)
-- the whole object
def inR (v lo hi : Int32) : Prop := ¬ v < lo ∧ v ≤ hi
def mn100 (v : Int32) : Int32 := if v ≤ 100 then v else 100
def pnum (z : Nat → Int32) (n k : Nat) : Nat → Int32
  | 0 => z (19 + k) + 100
  | 1 => swing z (nI k)
  | 2 => rate z k + 10000
  | 3 => beat z (nI k)
  | 4 => why z k
  | 5 => if lat z (nI k) n = -1 then -1 else hrj z n k
  | 6 => if lat z (nI k) n = -1 then -1 else rtj z n k + 10000
  | _ => cnt z (nI k) n
def rnum (z : Nat → Int32) (n i wh : Nat) : Int32 := if i < n then (if wh = 2 then z (25 + (i * 5 + wh)) + 10000 else z (25 + (i * 5 + wh))) else -1
def cnum (z : Nat → Int32) (n k : Nat) (sz : Int32) : Nat → Int32
  | 0 => z 0
  | 1 => z 1
  | 2 => z 2 + 100
  | 3 => z 3 + 100
  | 4 => z 4
  | 5 => z 5
  | 6 => z 6
  | 7 => bI (goes z (nI k))
  | 8 => z 7 + 1000000
  | 9 => z 8
  | 10 => z 10
  | 11 => z 11
  | 12 => dr1 z n
  | 13 => dr2 z n
  | 14 => whyDay z n
  | 15 => z 9
  | 16 => z 12
  | 17 => z 13
  | 18 => z 14
  | 19 => z 15
  | _ => sz
def wz1 (z : Nat → Int32) (i : Nat) : Nat → Int32 := hoursF 8 (upd z 6 (nI i)) i
def wz2 (z : Nat → Int32) (i j : Nat) : Nat → Int32 := hoursF 8 (upd (wz1 z i) 6 (nI j)) j
def wz3 (z : Nat → Int32) (i j k : Nat) : Nat → Int32 := hoursF 8 (upd (wz2 z i j) 6 (nI k)) k
def wornN (z : Nat → Int32) (i j k : Nat) : Nat → Int32
  | 0 => wz3 z i j k 7 - z 7 + 100000
  | _ => (wz1 z i 9 - z 9) + (wz2 z i j 9 - wz1 z i 9) + (wz3 z i j k 9 - wz2 z i j 9)
def utr (z : Nat → Int32) (k : Nat) : Nat → Int32 := hoursF 48 (upd z 6 (nI k)) k
def untilN (z : Nat → Int32) (k : Nat) : Int32 := utr z k 9 - z 9
def ntr (z zt : Nat → Int32) : Nat → Nat → Int32
  | 0 => zt
  | p + 1 => wz1 z p
def utrs (z zt : Nat → Int32) : Nat → Nat → Int32
  | 0 => zt
  | p + 1 => utr z p
def oth (z : Nat → Int32) : Nat → Int32
  | 0 => 0
  | p + 1 => oth z p + (rate z p - z 2)
def brl (o : Int32) : Nat → Nat → Int32 → Int32
  | 0, _, b => b
  | n + 1, i, b => brl o n (i + 1) (if am (o + 6 * b) ≤ am (o + 6 * (nI i - 99)) then b else nI i - 99)
def bestN (z : Nat → Int32) : Int32 := brl (oth z 6) 199 0 (-99) + 100
def ngl (z : Nat → Int32) : Nat → Nat → Int32 → Int32 → Int32
  | 0, _, b, _ => b
  | n + 1, p, b, l => if l ≤ am (wz1 z p 7) then ngl z n (p + 1) b l else ngl z n (p + 1) (nI p) (am (wz1 z p 7))
def nightN (z : Nat → Int32) : Int32 := ngl z 6 0 0 2000000000
theorem abs_am (v : Int32) : (if 0 ≤ v then v else 0 - v) = am v := by rw [am, z_sub]
theorem i99 (i : Nat) : nI i - 99 + Int32.ofInt 1 = nI (i + 1) - 99 := by
  rw [← nI_1, show Int32.ofInt 1 = 1 by decide, Int32.sub_eq_add_neg, Int32.sub_eq_add_neg, Int32.add_assoc, Int32.add_assoc, Int32.add_comm (-99) 1]
theorem toI_99 {i : Nat} (h : i < 1000) : (nI i - 99).toInt = (i : Int) - 99 := by
  rw [fb_subI (by rw [nI_toInt (by omega), show (99 : Int32).toInt = 99 by decide]; omega) (by rw [nI_toInt (by omega), show (99 : Int32).toInt = 99 by decide]; omega), nI_toInt (by omega), show (99 : Int32).toInt = 99 by decide]
theorem brl_s {o : Int32} {n i : Nat} {b : Int32} (c : ¬ am (o + 6 * b) ≤ am (o + 6 * (nI i - 99))) : brl o (n + 1) i b = brl o n (i + 1) (nI i - 99) := by rw [brl, if_neg c]
theorem brl_k {o : Int32} {n i : Nat} {b : Int32} (c : am (o + 6 * b) ≤ am (o + 6 * (nI i - 99))) : brl o (n + 1) i b = brl o n (i + 1) b := by rw [brl, if_pos c]
theorem ngl_k {z : Nat → Int32} {n p : Nat} {b l : Int32} (c : l ≤ am (wz1 z p 7)) : ngl z (n + 1) p b l = ngl z n (p + 1) b l := by rw [ngl, if_pos c]
theorem ngl_s {z : Nat → Int32} {n p : Nat} {b l : Int32} (c : ¬ l ≤ am (wz1 z p 7)) : ngl z (n + 1) p b l = ngl z n (p + 1) (nI p) (am (wz1 z p 7)) := by rw [ngl, if_neg c]
theorem gt99 {i : Nat} (h : i < 199) : ¬ 99 < nI i - 99 := by
  rw [fa_lt, toI_99 (by omega), show (99 : Int32).toInt = 99 by decide]
  omega
theorem gt99y : 99 < nI 199 - 99 := by decide
def mixL (h v : Int64) : Int64 := 31 * h + v
def share (z : Nat → Int32) : UInt64 := if z 0 ≤ 0 then FP.dconst1 else FP.ddiv (FP.i2d (z 9)) (FP.i2d (z 0))
end
section
/-! Worlds with a tail that is looked at as a whole: es ++ B. -/
section TAIL
variable {p : Program} {l : Launch} {e : Env} {R : Room} {s : State} {m : MethodId} {args : Array Value} {below : List Frame} {meth : Method} {c : Code} {H H0 H1 : Heap} {locs : List Loc} {cells slots : Nat} {Q : State → Prop} {A : Nat → Prop} {D : va_G} {tys : List (ClassId × FieldType)} {ws ws2 cin cout wr es es2 B B2 ce co : va_W} {cc : ByteArray} {nL : Nat} {Ts : List Cond} {own : String} {pc : Nat} {ls : Array Slot} {rest st0 : List Value} {a : Nat} {cl : List vw_C}
theorem P_mem : va_P D cl ws H ↔ ∀ q ∈ ws, va_at D cl q H := by
  constructor
  · intro h q hq
    obtain ⟨k, hk⟩ := List.mem_iff_getElem?.mp hq
    exact h k q hk
  · intro h k q hk
    exact h q (List.mem_of_getElem? hk)
theorem nd_ix {α : Type} {xs : List α} : xs.Nodup ↔ ∀ (i j : Nat) (p q : α), xs[i]? = some p → xs[j]? = some q → p = q → i = j := by
  rw [List.nodup_iff_pairwise_ne, List.pairwise_iff_getElem]
  constructor
  · intro h i j p q hi hj he
    obtain ⟨hi1, hi2⟩ := List.getElem?_eq_some_iff.mp hi
    obtain ⟨hj1, hj2⟩ := List.getElem?_eq_some_iff.mp hj
    rcases Nat.lt_trichotomy i j with q1 | q1 | q1
    · exact absurd (by rw [hi2, hj2, he]) (h i j hi1 hj1 q1)
    · exact q1
    · exact absurd (by rw [hi2, hj2, he]) (h j i hj1 hi1 q1)
  · intro h i j hi hj hij he
    have := h i j _ _ (List.getElem?_eq_getElem hi) (List.getElem?_eq_getElem hj) he
    omega
theorem D_nodup : va_D A ws ↔ (ws.map Prod.fst).Nodup ∧ ∀ q ∈ ws, A q.1 := by
  constructor
  · intro h
    refine ⟨nd_ix.mpr fun i j p q hi hj he => ?_, fun q hq => ?_⟩
    · rw [List.getElem?_map, Option.map_eq_some_iff] at hi hj
      obtain ⟨x, hx1, hx2⟩ := hi
      obtain ⟨y, hy1, hy2⟩ := hj
      exact h.1 i j x y hx1 hy1 (by rw [hx2, hy2, he])
    · obtain ⟨k, hk⟩ := List.mem_iff_getElem?.mp hq
      exact h.2 k q hk
  · intro h
    refine ⟨fun i j p q hi hj he => ?_, fun k q hk => h.2 q (List.mem_of_getElem? hk)⟩
    exact nd_ix.mp h.1 i j p.1 q.1 (by rw [List.getElem?_map, hi]; rfl) (by rw [List.getElem?_map, hj]; rfl) he
theorem wd.perm (w : wd D A H0 H locs ws) (h : ws.Perm ws2) : wd D A H0 H locs ws2 := by
  refine ⟨P_mem.mpr fun q hq => P_mem.mp w.1 q (h.mem_iff.mpr hq), D_nodup.mpr ⟨?_, fun q hq => (D_nodup.mp w.2.1).2 q (h.mem_iff.mpr hq)⟩, w.2.2⟩
  exact (h.map Prod.fst).nodup_iff.mp (D_nodup.mp w.2.1).1
theorem tl_at {i : Nat} {q : Nat × va_E} (h : es[i]? = some q) : (es ++ B)[i]? = some q := by
  rw [List.getElem?_append_left (List.getElem?_eq_some_iff.mp h).1, h]
theorem map_some {is : List Nat} (h : is.map (fun i => es[i]?) = cin.map some) : ∀ i ∈ is, ∃ q, es[i]? = some q := by
  intro i hi
  have h1 : es[i]? ∈ cin.map some := by rw [← h]; exact List.mem_map_of_mem hi
  obtain ⟨q, -, hq⟩ := List.mem_map.mp h1
  exact ⟨q, hq.symm⟩
theorem tl_C {isC : List Nat} (hC : isC.map (fun i => es[i]?) = cin.map some) : isC.map (fun i => (es ++ B)[i]?) = cin.map some := by
  rw [← hC]
  refine List.map_congr_left fun i hi => ?_
  obtain ⟨q, hq⟩ := map_some hC i hi
  rw [hq, tl_at hq]
theorem tl_B : ((List.range B.length).map (fun i => es.length + i)).map (fun i => (es ++ B)[i]?) = B.map some := by
  refine List.ext_getElem? fun k => ?_
  rw [List.getElem?_map, List.getElem?_map, List.getElem?_map]
  by_cases hk : k < B.length
  · rw [List.getElem?_range hk, List.getElem?_eq_getElem hk]
    show some ((es ++ B)[es.length + k]?) = some (some B[k])
    rw [List.getElem?_append_right (Nat.le_add_right _ _), Nat.add_sub_cancel_left, List.getElem?_eq_getElem hk]
  · rw [List.getElem?_eq_none (by rw [List.length_range]; omega), List.getElem?_eq_none (by omega)]
    rfl
theorem tl_R {isR : List Nat} (hR : isR.map (fun i => es[i]?) = wr.map some) : (isR ++ (List.range B.length).map (fun i => es.length + i)).map (fun i => (es ++ B)[i]?) = (wr ++ B).map some := by
  rw [List.map_append, List.map_append, tl_C hR, tl_B]
theorem nd_iff : ∀ {is : List Nat}, va_nd is = true ↔ is.Nodup
  | [] => by simp [va_nd]
  | a :: is => by simp [va_nd, nd_iff (is := is)]
theorem tl_lt {isR : List Nat} (hR : isR.map (fun i => es[i]?) = wr.map some) : ∀ i ∈ isR, i < es.length := fun i hi => by
  obtain ⟨q, hq⟩ := map_some hR i hi
  exact (List.getElem?_eq_some_iff.mp hq).1
theorem tl_n {isR : List Nat} (hn : va_nd isR = true) (hR : isR.map (fun i => es[i]?) = wr.map some) : va_nd (isR ++ (List.range B.length).map (fun i => es.length + i)) = true := by
  rw [nd_iff, List.nodup_append]
  refine ⟨nd_iff.mp hn, ?_, ?_⟩
  · rw [List.nodup_iff_pairwise_ne, List.pairwise_map]
    exact (List.nodup_iff_pairwise_ne.mp List.nodup_range).imp fun h => by omega
  · intro i hi j hj
    obtain ⟨k, -, rfl⟩ := List.mem_map.mp hj
    have := tl_lt hR i hi
    omega
theorem tl_d {isC isR : List Nat} (hdis : ∀ i ∈ isR, i ∉ isC) (hC : isC.map (fun i => es[i]?) = cin.map some) : ∀ i ∈ isR ++ (List.range B.length).map (fun i => es.length + i), i ∉ isC := by
  intro i hi
  rcases List.mem_append.mp hi with h | h
  · exact hdis i h
  · obtain ⟨k, -, rfl⟩ := List.mem_map.mp h
    intro h2
    have := tl_lt hC _ h2
    omega
theorem tl_d2 {isC isR : List Nat} (hdis : ∀ i ∈ isR, i ∉ isC) (hR : isR.map (fun i => es[i]?) = wr.map some) : ∀ i ∈ isR, i ∉ isC ++ (List.range B.length).map (fun i => es.length + i) := by
  intro i hi h
  rcases List.mem_append.mp h with h | h
  · exact hdis i hi h
  · obtain ⟨k, -, rfl⟩ := List.mem_map.mp h
    have := tl_lt hR _ hi
    omega
/-- the cells of a part, in another order, before the same rest -/
theorem reorder {xs ys B : va_W} {pm : List Nat} (hp1 : va_nd pm = true) (hp2 : pm.map (fun i => xs[i]?) = ys.map some) (hP : va_P D cl (xs ++ B) H) (hD : va_D A (xs ++ B)) : va_P D cl (ys ++ B) H ∧ va_D A (ys ++ B) := by
  have hsub : ∀ q ∈ ys, q ∈ xs := fun q hq => by
    have h1 : some q ∈ ys.map some := List.mem_map_of_mem hq
    rw [← hp2] at h1
    obtain ⟨i, -, hi⟩ := List.mem_map.mp h1
    exact List.mem_of_getElem? hi
  have hD' := D_nodup.mp hD
  have hx : va_D A xs := by
    have h2 := hD'.1
    rw [List.map_append, List.nodup_append] at h2
    exact D_nodup.mpr ⟨h2.1, fun q hq => hD'.2 q (List.mem_append_left _ hq)⟩
  have hy := D_nodup.mp (hx.sub pm hp1 hp2)
  refine ⟨P_mem.mpr fun q hq => ?_, D_nodup.mpr ⟨?_, fun q hq => ?_⟩⟩
  · rcases List.mem_append.mp hq with h | h
    · exact P_mem.mp hP q (List.mem_append_left _ (hsub q h))
    · exact P_mem.mp hP q (List.mem_append_right _ h)
  · have h2 := hD'.1
    rw [List.map_append, List.nodup_append] at h2 ⊢
    refine ⟨hy.1, h2.2.1, fun x hx1 y hy1 => ?_⟩
    obtain ⟨q, hq, rfl⟩ := List.mem_map.mp hx1
    exact h2.2.2 _ (List.mem_map_of_mem (hsub q hq)) y hy1
  · rcases List.mem_append.mp hq with h | h
    · exact hD'.2 q (List.mem_append_left _ (hsub q h))
    · exact hD'.2 q (List.mem_append_right _ h)
theorem swap_mid {x y z : va_W} (hP : va_P D cl ((x ++ y) ++ z) H) (hD : va_D A ((x ++ y) ++ z)) : va_P D cl ((x ++ z) ++ y) H ∧ va_D A ((x ++ z) ++ y) := by
  have h : ((x ++ y) ++ z).Perm ((x ++ z) ++ y) := by
    rw [List.append_assoc, List.append_assoc]
    exact List.Perm.append_left x List.perm_append_comm
  refine ⟨P_mem.mpr fun q hq => P_mem.mp hP q (h.mem_iff.mpr hq), D_nodup.mpr ⟨?_, fun q hq => (D_nodup.mp hD).2 q (h.mem_iff.mpr hq)⟩⟩
  exact (h.map Prod.fst).nodup_iff.mp (D_nodup.mp hD).1
/-- behind a call that leaves the tail alone -/
theorem tl_join (w : wd D A H0 H locs (es ++ B)) (hA : ∀ q : Nat, H0.size ≤ q → A q) {isC isR : List Nat} (hC : isC.map (fun i => es[i]?) = cin.map some) (hR : isR.map (fun i => es[i]?) = wr.map some) (hn : va_nd isR = true) (hdis : ∀ i ∈ isR, i ∉ isC) {pm : List Nat} (hp1 : va_nd pm = true) (hp2 : pm.map (fun i => (wr ++ cout)[i]?) = es2.map some)
    (hk : ∀ q : Nat, q < H.size → ¬ va_A cin H.size q → H1[q]? = H[q]?) (hP1 : va_P D vwCl cout H1) (hD1 : va_D (va_A cin H.size) cout) : va_P D vwCl (es2 ++ B) H1 ∧ va_D A (es2 ++ B) := by
  have hF := va_free w.2.1 w.2.2 hA isC (tl_C hC)
  obtain ⟨hP, hD⟩ := va_join w.1 w.2.1 isC _ (tl_C hC) (tl_R hR) (tl_n hn hR) (tl_d hdis hC) hk hF hP1 hD1
  obtain ⟨hP, hD⟩ := swap_mid hP hD
  exact reorder hp1 hp2 hP hD
/-- behind a call that takes the tail along -/
theorem tl_joinB (w : wd D A H0 H locs (es ++ B)) (hA : ∀ q : Nat, H0.size ≤ q → A q) {isC isR : List Nat} (hC : isC.map (fun i => es[i]?) = ce.map some) (hR : isR.map (fun i => es[i]?) = wr.map some) (hn : va_nd isR = true) (hdis : ∀ i ∈ isR, i ∉ isC) {pm : List Nat} (hp1 : va_nd pm = true) (hp2 : pm.map (fun i => (wr ++ co)[i]?) = es2.map some)
    (hk : ∀ q : Nat, q < H.size → ¬ va_A (ce ++ B) H.size q → H1[q]? = H[q]?) (hP1 : va_P D vwCl (co ++ B2) H1) (hD1 : va_D (va_A (ce ++ B) H.size) (co ++ B2)) : va_P D vwCl (es2 ++ B2) H1 ∧ va_D A (es2 ++ B2) := by
  have hF := va_free w.2.1 w.2.2 hA _ (tl_R hC)
  obtain ⟨hP, hD⟩ := va_join w.1 w.2.1 _ isR (tl_R hC) (tl_C hR) hn (tl_d2 hdis hR) hk hF hP1 hD1
  rw [← List.append_assoc] at hP hD
  exact reorder hp1 hp2 hP hD
theorem k_ciT {av : Array Value} {r : Int32} (hr : va_Run p l e R s m args below meth c H locs cells slots 0 0 (F0 m pc ls st0) rest (va_Qi (fun (r2 : Int32) (_ : Unit) => r2 = r) (cpost D tys cin H.size cout) (va_A cin H.size) av) (va_A cin H.size)) (w : wd D A H0 H locs (es ++ B)) (hA : ∀ q : Nat, H0.size ≤ q → A q) (isC isR : List Nat) (hC : isC.map (fun i => es[i]?) = cin.map some) (hR : isR.map (fun i => es[i]?) = wr.map some) (hn : va_nd isR = true) (hdis : ∀ i ∈ isR, i ∉ isC) (pm : List Nat) (hp1 : va_nd pm = true) (hp2 : pm.map (fun i => (wr ++ cout)[i]?) = es2.map some)
    (kk : ∀ (H1 : Heap) (locs1 : List Loc), wd D A H0 H1 locs1 (es2 ++ B) → W p l e R s m args below meth c H1 locs1 cells slots Q (F0 m (pc + 3) ls (.int r :: rest))) : W p l e R s m args below meth c H locs cells slots Q (F0 m pc ls st0) := by
  have hF := va_free w.2.1 w.2.2 hA isC (tl_C hC)
  refine va_calli hr w.2.2 (fun q _ h => hF q h) hF (fun r2 u t H1 locs1 ht hvm hw hB hz1 hk1 hS => ?_)
  obtain ⟨hP1, hK1, hD1⟩ := hB
  rw [ht] at hP1
  rw [hw]
  obtain ⟨hP, hD⟩ := tl_join w hA hC hR hn hdis hp1 hp2 hk1 hP1 hD1
  exact kk H1 locs1 ⟨hP, hD, hS⟩
theorem k_cvT {av : Array Value} (hr : va_Run p l e R s m args below meth c H locs cells slots 0 0 (F0 m pc ls st0) rest (va_Qv (fun (_ : Unit) => True) (cpost D tys cin H.size cout) (va_A cin H.size) av) (va_A cin H.size)) (w : wd D A H0 H locs (es ++ B)) (hA : ∀ q : Nat, H0.size ≤ q → A q) (isC isR : List Nat) (hC : isC.map (fun i => es[i]?) = cin.map some) (hR : isR.map (fun i => es[i]?) = wr.map some) (hn : va_nd isR = true) (hdis : ∀ i ∈ isR, i ∉ isC) (pm : List Nat) (hp1 : va_nd pm = true) (hp2 : pm.map (fun i => (wr ++ cout)[i]?) = es2.map some)
    (kk : ∀ (H1 : Heap) (locs1 : List Loc), wd D A H0 H1 locs1 (es2 ++ B) → W p l e R s m args below meth c H1 locs1 cells slots Q (F0 m (pc + 3) ls rest)) : W p l e R s m args below meth c H locs cells slots Q (F0 m pc ls st0) := by
  have hF := va_free w.2.1 w.2.2 hA isC (tl_C hC)
  refine va_callv hr w.2.2 (fun q _ h => hF q h) hF (fun u t H1 locs1 ht hvm hw hB hz1 hk1 hS => ?_)
  obtain ⟨hP1, hK1, hD1⟩ := hB
  rw [ht] at hP1
  obtain ⟨hP, hD⟩ := tl_join w hA hC hR hn hdis hp1 hp2 hk1 hP1 hD1
  exact kk H1 locs1 ⟨hP, hD, hS⟩
theorem k_ciB {av : Array Value} {r : Int32} (hr : va_Run p l e R s m args below meth c H locs cells slots 0 0 (F0 m pc ls st0) rest (va_Qi (fun (r2 : Int32) (_ : Unit) => r2 = r) (cpost D tys (ce ++ B) H.size (co ++ B2)) (va_A (ce ++ B) H.size) av) (va_A (ce ++ B) H.size)) (w : wd D A H0 H locs (es ++ B)) (hA : ∀ q : Nat, H0.size ≤ q → A q) (isC isR : List Nat) (hC : isC.map (fun i => es[i]?) = ce.map some) (hR : isR.map (fun i => es[i]?) = wr.map some) (hn : va_nd isR = true) (hdis : ∀ i ∈ isR, i ∉ isC) (pm : List Nat) (hp1 : va_nd pm = true) (hp2 : pm.map (fun i => (wr ++ co)[i]?) = es2.map some)
    (kk : ∀ (H1 : Heap) (locs1 : List Loc), wd D A H0 H1 locs1 (es2 ++ B2) → W p l e R s m args below meth c H1 locs1 cells slots Q (F0 m (pc + 3) ls (.int r :: rest))) : W p l e R s m args below meth c H locs cells slots Q (F0 m pc ls st0) := by
  have hF := va_free w.2.1 w.2.2 hA _ (tl_R hC)
  refine va_calli hr w.2.2 (fun q _ h => hF q h) hF (fun r2 u t H1 locs1 ht hvm hw hB hz1 hk1 hS => ?_)
  obtain ⟨hP1, hK1, hD1⟩ := hB
  rw [ht] at hP1
  rw [hw]
  obtain ⟨hP, hD⟩ := tl_joinB w hA hC hR hn hdis hp1 hp2 hk1 hP1 hD1
  exact kk H1 locs1 ⟨hP, hD, hS⟩
theorem k_cvB {av : Array Value} (hr : va_Run p l e R s m args below meth c H locs cells slots 0 0 (F0 m pc ls st0) rest (va_Qv (fun (_ : Unit) => True) (cpost D tys (ce ++ B) H.size (co ++ B2)) (va_A (ce ++ B) H.size) av) (va_A (ce ++ B) H.size)) (w : wd D A H0 H locs (es ++ B)) (hA : ∀ q : Nat, H0.size ≤ q → A q) (isC isR : List Nat) (hC : isC.map (fun i => es[i]?) = ce.map some) (hR : isR.map (fun i => es[i]?) = wr.map some) (hn : va_nd isR = true) (hdis : ∀ i ∈ isR, i ∉ isC) (pm : List Nat) (hp1 : va_nd pm = true) (hp2 : pm.map (fun i => (wr ++ co)[i]?) = es2.map some)
    (kk : ∀ (H1 : Heap) (locs1 : List Loc), wd D A H0 H1 locs1 (es2 ++ B2) → W p l e R s m args below meth c H1 locs1 cells slots Q (F0 m (pc + 3) ls rest)) : W p l e R s m args below meth c H locs cells slots Q (F0 m pc ls st0) := by
  have hF := va_free w.2.1 w.2.2 hA _ (tl_R hC)
  refine va_callv hr w.2.2 (fun q _ h => hF q h) hF (fun u t H1 locs1 ht hvm hw hB hz1 hk1 hS => ?_)
  obtain ⟨hP1, hK1, hD1⟩ := hB
  rw [ht] at hP1
  obtain ⟨hP, hD⟩ := tl_joinB w hA hC hR hn hdis hp1 hp2 hk1 hP1 hD1
  exact kk H1 locs1 ⟨hP, hD, hS⟩
theorem tl_nR {isC : List Nat} (hn : va_nd isC = true) (hC : isC.map (fun i => es[i]?) = ce.map some) : va_nd (isC ++ (List.range B.length).map (fun i => es.length + i)) = true := tl_n hn hC
end TAIL
-- the ring, one of its states in front
def rgO (cI : ClassId) (rg : Nat → Nat → Nat) (zs : Nat → Nat → Int32) : Nat → va_W
  | 0 => S6 cI (rg 1) (zs 1) ++ (S6 cI (rg 2) (zs 2) ++ (S6 cI (rg 3) (zs 3) ++ (S6 cI (rg 4) (zs 4) ++ S6 cI (rg 5) (zs 5))))
  | 1 => S6 cI (rg 0) (zs 0) ++ (S6 cI (rg 2) (zs 2) ++ (S6 cI (rg 3) (zs 3) ++ (S6 cI (rg 4) (zs 4) ++ S6 cI (rg 5) (zs 5))))
  | 2 => S6 cI (rg 0) (zs 0) ++ (S6 cI (rg 1) (zs 1) ++ (S6 cI (rg 3) (zs 3) ++ (S6 cI (rg 4) (zs 4) ++ S6 cI (rg 5) (zs 5))))
  | 3 => S6 cI (rg 0) (zs 0) ++ (S6 cI (rg 1) (zs 1) ++ (S6 cI (rg 2) (zs 2) ++ (S6 cI (rg 4) (zs 4) ++ S6 cI (rg 5) (zs 5))))
  | 4 => S6 cI (rg 0) (zs 0) ++ (S6 cI (rg 1) (zs 1) ++ (S6 cI (rg 2) (zs 2) ++ (S6 cI (rg 3) (zs 3) ++ S6 cI (rg 5) (zs 5))))
  | _ => S6 cI (rg 0) (zs 0) ++ (S6 cI (rg 1) (zs 1) ++ (S6 cI (rg 2) (zs 2) ++ (S6 cI (rg 3) (zs 3) ++ S6 cI (rg 4) (zs 4))))
theorem pf_1 {x y t : va_W} : (x ++ (y ++ t)).Perm (y ++ (x ++ t)) := List.perm_append_comm_assoc _ _ _
theorem pf_2 {x0 x1 y t : va_W} : (x0 ++ (x1 ++ (y ++ t))).Perm (y ++ (x0 ++ (x1 ++ t))) := (List.Perm.append_left x0 pf_1).trans pf_1
theorem pf_3 {x0 x1 x2 y t : va_W} : (x0 ++ (x1 ++ (x2 ++ (y ++ t)))).Perm (y ++ (x0 ++ (x1 ++ (x2 ++ t)))) := (List.Perm.append_left x0 pf_2).trans pf_1
theorem pf_4 {x0 x1 x2 x3 y t : va_W} : (x0 ++ (x1 ++ (x2 ++ (x3 ++ (y ++ t))))).Perm (y ++ (x0 ++ (x1 ++ (x2 ++ (x3 ++ t))))) := (List.Perm.append_left x0 pf_3).trans pf_1
theorem pf_5 {x0 x1 x2 x3 x4 y : va_W} : (x0 ++ (x1 ++ (x2 ++ (x3 ++ (x4 ++ y))))).Perm (y ++ (x0 ++ (x1 ++ (x2 ++ (x3 ++ x4))))) := by
  have h := pf_4 (x0 := x0) (x1 := x1) (x2 := x2) (x3 := x3) (y := y) (t := x4)
  exact (List.Perm.append_left x0 (List.Perm.append_left x1 (List.Perm.append_left x2 (List.Perm.append_left x3 List.perm_append_comm)))).trans h
theorem ring_out {cI : ClassId} {rg : Nat → Nat → Nat} {zs : Nat → Nat → Int32} {i : Nat} (hi : i < 6) : (rgS cI rg zs).Perm (S6 cI (rg i) (zs i) ++ rgO cI rg zs i) := by
  rcases (show i = 0 ∨ i = 1 ∨ i = 2 ∨ i = 3 ∨ i = 4 ∨ i = 5 by omega) with rfl | rfl | rfl | rfl | rfl | rfl
  · exact List.Perm.refl _
  · exact pf_1
  · exact pf_2
  · exact pf_3
  · exact pf_4
  · exact pf_5
theorem rgO_up {cI : ClassId} {rg : Nat → Nat → Nat} {zs : Nat → Nat → Int32} {z : Nat → Int32} {i : Nat} (hi : i < 6) : rgO cI rg (va_up zs i z) i = rgO cI rg zs i := by
  rcases (show i = 0 ∨ i = 1 ∨ i = 2 ∨ i = 3 ∨ i = 4 ∨ i = 5 by omega) with rfl | rfl | rfl | rfl | rfl | rfl <;> rfl
theorem ring_in {cI : ClassId} {rg : Nat → Nat → Nat} {zs : Nat → Nat → Int32} {z : Nat → Int32} {i : Nat} (hi : i < 6) : (S6 cI (rg i) z ++ rgO cI rg zs i).Perm (rgS cI rg (va_up zs i z)) := by
  have h := (ring_out (cI := cI) (rg := rg) (zs := va_up zs i z) hi).symm
  rw [rgO_up hi, show va_up zs i z i = z from if_pos rfl] at h
  exact h
theorem ring_same {cI : ClassId} {rg : Nat → Nat → Nat} {zs : Nat → Nat → Int32} {i : Nat} (hi : i < 6) : (S6 cI (rg i) (zs i) ++ rgO cI rg zs i).Perm (rgS cI rg zs) := (ring_out hi).symm
theorem rgA_at {rg : Nat → Nat → Nat} {i : Nat} (h : i < 6) : rgA rg i = some (rg i 0) := if_pos h
theorem pop_j {i : Nat} (h : i < 6) : nI i + 6 - 1 - (nI i + 6 - 1) / 6 * 6 = nI ((i + 5) % 6) := by
  rcases (show i = 0 ∨ i = 1 ∨ i = 2 ∨ i = 3 ∨ i = 4 ∨ i = 5 by omega) with rfl | rfl | rfl | rfl | rfl | rfl <;> decide
theorem push_j {i : Nat} (h : i < 6) : nI i + 1 - (nI i + 1) / 6 * 6 = nI ((i + 1) % 6) := by
  rcases (show i = 0 ∨ i = 1 ∨ i = 2 ∨ i = 3 ∨ i = 4 ∨ i = 5 by omega) with rfl | rfl | rfl | rfl | rfl | rfl <;> decide
end
section
/-! More pure words: the whole object's looks, its hash, its text. -/
theorem in_02 {k : Nat} (h : k < 3) : inR (nI k) 0 2 := ⟨nI_pos (by omega), nI_le (a := k) (b := 2) (by omega) (by decide)⟩
theorem in_07 {k : Nat} (h : k < 8) : inR (nI k) 0 7 := ⟨nI_pos (by omega), nI_le (a := k) (b := 7) (by omega) (by decide)⟩
theorem in_04 {k : Nat} (h : k < 5) : inR (nI k) 0 4 := ⟨nI_pos (by omega), nI_le (a := k) (b := 4) (by omega) (by decide)⟩
theorem in_01 {k : Nat} (h : k < 2) : inR (nI k) 0 1 := ⟨nI_pos (by omega), nI_le (a := k) (b := 1) (by omega) (by decide)⟩
theorem in_20 {k : Nat} (h : k < 21) : inR (nI k) 0 20 := ⟨nI_pos (by omega), nI_le (a := k) (b := 20) (by omega) (by decide)⟩
def cq (z : Nat → Int32) (n k : Nat) (sz : Int32) (h : Int64) : Nat → Int64
  | 0 => h
  | j + 1 => mixL (cq z n k sz h j) (cnum z n k sz j).toInt64
def mp (z : Nat → Int32) (n p : Nat) (h : Int64) : Nat → Int64
  | 0 => h
  | j + 1 => mixL (mp z n p h j) (pnum z n p j).toInt64
def mqa (z : Nat → Int32) (n : Nat) (h : Int64) : Nat → Int64
  | 0 => h
  | p + 1 => mixL (mp z n p (mqa z n h p) 8) (untilN z p).toInt64
def mr (z : Nat → Int32) (n i : Nat) (h : Int64) : Nat → Int64
  | 0 => h
  | j + 1 => mixL (mr z n i h j) (rnum z n i j).toInt64
def mra (z : Nat → Int32) (n : Nat) (h : Int64) : Nat → Int64
  | 0 => h
  | i + 1 => mr z n i (mra z n h i) 5
def sq (z : Nat → Int32) (h : Int64) : Nat → Int64
  | 0 => h
  | j + 1 => mixL (sq z h j) (z (16 + j)).toInt64
def wq (z : Nat → Int32) (i j k : Nat) (h : Int64) : Nat → Int64
  | 0 => h
  | w + 1 => mixL (wq z i j k h w) (wornN z i j k w).toInt64
def wtr (z zt : Nat → Int32) (i j k : Nat) : Nat → Nat → Int32
  | 0 => zt
  | _ + 1 => wz3 z i j k
def tq (t : Nat → Int32) (h : Int64) : Nat → Int64
  | 0 => h
  | i + 1 => mixL (tq t h i) (t (300 + i)).toInt64
-- the share's bits
def bsx : Nat → UInt64 → UInt64
  | 0, x => x
  | n + 1, x => if 0 ≤ Op.cmpValue (FP.dcmp x FP.dconst1) CmpOp.g then x else bsx n (FP.dmul x 4611686018427387904)
def bse : Nat → UInt64 → Int64 → Int64
  | 0, _, e => e
  | n + 1, x, e => if 0 ≤ Op.cmpValue (FP.dcmp x FP.dconst1) CmpOp.g then e else bse n (FP.dmul x 4611686018427387904) (e - 1)
def bsok : Nat → UInt64 → Prop
  | 0, x => vf_n64 (FP.dsub x FP.dconst1) ∧ vf_n64 (FP.dmul (FP.dsub x FP.dconst1) 4841369599423283200)
  | n + 1, x => if 0 ≤ Op.cmpValue (FP.dcmp x FP.dconst1) CmpOp.g then vf_n64 (FP.dsub x FP.dconst1) ∧ vf_n64 (FP.dmul (FP.dsub x FP.dconst1) 4841369599423283200) else vf_n64 (FP.dmul x 4611686018427387904) ∧ bsok n (FP.dmul x 4611686018427387904)
def bts (d : UInt64) : Int64 := if 0 < Op.cmpValue (FP.dcmp d FP.dconst0) CmpOp.g then (bse 60 d 1023) <<< ((52 : Int32).toInt64 &&& 63) + FP.d2l (FP.dmul (FP.dsub (bsx 60 d) FP.dconst1) 4841369599423283200) else 0
theorem bsx_s {n : Nat} {x : UInt64} (c : ¬ 0 ≤ Op.cmpValue (FP.dcmp x FP.dconst1) CmpOp.g) : bsx (n + 1) x = bsx n (FP.dmul x 4611686018427387904) := if_neg c
theorem bsx_e {n : Nat} {x : UInt64} (c : 0 ≤ Op.cmpValue (FP.dcmp x FP.dconst1) CmpOp.g) : bsx (n + 1) x = x := if_pos c
theorem bse_s {n : Nat} {x : UInt64} {e : Int64} (c : ¬ 0 ≤ Op.cmpValue (FP.dcmp x FP.dconst1) CmpOp.g) : bse (n + 1) x e = bse n (FP.dmul x 4611686018427387904) (e - 1) := if_neg c
theorem bse_e {n : Nat} {x : UInt64} {e : Int64} (c : 0 ≤ Op.cmpValue (FP.dcmp x FP.dconst1) CmpOp.g) : bse (n + 1) x e = e := if_pos c
theorem bsok_s {n : Nat} {x : UInt64} (c : ¬ 0 ≤ Op.cmpValue (FP.dcmp x FP.dconst1) CmpOp.g) (h : bsok (n + 1) x) : vf_n64 (FP.dmul x 4611686018427387904) ∧ bsok n (FP.dmul x 4611686018427387904) := by
  rw [bsok, if_neg c] at h
  exact h
theorem bsok_e {n : Nat} {x : UInt64} (c : 0 ≤ Op.cmpValue (FP.dcmp x FP.dconst1) CmpOp.g) (h : bsok (n + 1) x) : vf_n64 (FP.dsub x FP.dconst1) ∧ vf_n64 (FP.dmul (FP.dsub x FP.dconst1) 4841369599423283200) := by
  rw [bsok, if_pos c] at h
  exact h
def dig0 (z : Nat → Int32) (n k : Nat) (sz : Int32) : Int64 := mra z n (mqa z n (cq z n k sz 3803 21) 6) n
def dig1 (z : Nat → Int32) (n k : Nat) (sz : Int32) : Int64 := wq z 1 1 5 (wq z 0 2 4 (sq z (dig0 z n k sz) 3) 2) 2
def dig2 (z : Nat → Int32) (n k : Nat) (sz : Int32) : Int64 := mixL (mixL (mixL (dig1 z n k sz) (bestN z).toInt64) (nightN z).toInt64) (bts (share z))
def digN (z t : Nat → Int32) (n k : Nat) (sz : Int32) (len : Nat) : Int64 := tq t (mixL (dig2 z n k sz) (t 0).toInt64) len
-- orders
theorem why_key (p q r u : Prop) [Decidable p] [Decidable q] [Decidable r] [Decidable u] : ¬ (if p then (if q then (if r then (if u then (if true = false then (0 : Int32) else 5) else 4) else 3) else 2) else 1) = 0 := by
  by_cases hp : p <;> by_cases hq : q <;> by_cases hr : r <;> by_cases hu : u <;> simp only [hp, hq, hr, hu, if_true, if_false, Bool.true_eq_false] <;> decide
theorem why_lt {z : Nat → Int32} {n k : Nat} (hn : z 10 = nI n) (h4 : n ≤ 40) (h : why z k = 0) : n < 40 := by
  refine Classical.byContradiction fun hc => ?_
  have e : n = 40 := by omega
  subst e
  have hf : full z = true := by
    rw [full, hn]
    decide
  unfold why at h
  rw [hf] at h
  exact absurd h (why_key _ _ _ _)
def rosF (z : Nat → Int32) (n k : Nat) (pt : Int32) : Nat → Int32 := if why z k = 0 then readF z n k else upd (upd (upd z 16 pt) 17 (why z k)) 18 (nI k)
/-- one order, done: kind kd, number v; n readings, the watch lies in pose kk, part q -/
def doF (z : Nat → Int32) (n kk : Nat) (kd v : Int32) (q : Nat) : Nat → Int32 := if kd = 100 then upd z 4 0 else if kd = 103 then upd z 2 v else if kd = 112 then upd z 6 v else if kd = 114 then rosF z n v.toNatClampNeg (nI q) else if kd = 119 then upd z 1 (mn48 (z 1 + v)) else hoursF v.toNatClampNeg z kk
def doB (z : Nat → Int32) (kd v : Int32) : Bool := if kd = 114 then decide (why z v.toNatClampNeg = 0) else true
def cmB (len : Nat) (t : Nat → Int32) : Bool := !decide (scR len (bgn (upd t 1 0)) 0 < nI len) && whole (scF len (bgn (upd t 1 0)) 0)
def cmF (len : Nat) (t : Nat → Int32) : Nat → Int32 := if cmB len t then endF (scF len (bgn (upd t 1 0)) 0) else scF len (bgn (upd t 1 0)) 0
def pn (z : Nat → Int32) : Nat := (z 10).toNatClampNeg
def pk (z : Nat → Int32) : Nat := (z 6).toNatClampNeg
/-- the orders from part q on, m of them: the row behind them, and how many are done -/
def obF (t : Nat → Int32) : Nat → (Nat → Int32) → Nat → Nat → Int32
  | 0, z, _ => z
  | m + 1, z, q => if doB z (t (100 + q)) (t (200 + q)) then obF t m (doF z (pn z) (pk z) (t (100 + q)) (t (200 + q)) q) (q + 1) else doF z (pn z) (pk z) (t (100 + q)) (t (200 + q)) q
def obN (t : Nat → Int32) : Nat → (Nat → Int32) → Nat → Nat
  | 0, _, q => q
  | m + 1, z, q => if doB z (t (100 + q)) (t (200 + q)) then obN t m (doF z (pn z) (pk z) (t (100 + q)) (t (200 + q)) q) (q + 1) else q
def okz (z : Nat → Int32) : Prop := (∃ n, z 10 = nI n ∧ n ≤ 40) ∧ ∃ k, z 6 = nI k ∧ k < 6
/-- what a part of a text that is read is -/
def vtx (t : Nat → Int32) (q : Nat) : Prop := (t (100 + q) = 43 ∨ t (100 + q) = 100 ∨ t (100 + q) = 103 ∨ t (100 + q) = 112 ∨ t (100 + q) = 114 ∨ t (100 + q) = 119) ∧ (t (100 + q) = 112 ∨ t (100 + q) = 114 → ∃ v, t (200 + q) = nI v ∧ v < 6) ∧ (t (100 + q) = 43 → ∃ v, t (200 + q) = nI v ∧ v < 100)
theorem sc_all : ∀ (m : Nat) (t : Nat → Int32) (i : Nat), pinv t i → i + m ≤ 60 → ¬ scR m t i < nI (i + m) → pinv (scF m t i) (i + m)
  | 0, _, _, h, _, _ => h
  | m + 1, t, i, h, h60, hr => by
    cases hc : tkB t (t (300 + i)) with
    | true =>
      rw [scR_yes hc] at hr
      rw [scF_yes hc]
      have e : i + (m + 1) = (i + 1) + m := by omega
      rw [e] at hr ⊢
      exact sc_all m _ (i + 1) (tk_pinv h (by omega) hc) (by omega) hr
    | false =>
      rw [scR_no hc] at hr
      exact absurd (nI_lt (by omega) (by omega)) hr
theorem whole_q {t : Nat → Int32} {i : Nat} (h : pinv t i) (hi : i ≤ 60) (hw : whole t = true) : ∃ q, t 1 = nI q ∧ q < 60 := by
  obtain ⟨q, hq, hq2, hq4⟩ := h
  refine ⟨q, hq, ?_⟩
  by_cases h0 : t 2 = 0
  · have h4 := hq4 h0
    rw [whole, h0, h4] at hw
    exact absurd hw (by decide)
  · rw [if_neg h0] at hq2
    omega
theorem pn_eq {z : Nat → Int32} {n : Nat} (h : z 10 = nI n) (h2 : n ≤ 40) : pn z = n := by rw [pn, h, nI_clamp (by omega)]
theorem pkk_eq {z : Nat → Int32} {k : Nat} (h : z 6 = nI k) (h2 : k < 6) : pk z = k := by rw [pk, h, nI_clamp (by omega)]
theorem scF_0 : ∀ (m : Nat) (t : Nat → Int32) (i : Nat), pinv t i → i + m ≤ 60 → ∀ {v : Int32}, t 0 = v → scF m t i 0 = v
  | 0, _, _, _, _, _, h => h
  | m + 1, t, i, hp, h60, v, h => by
    have e : tkF t (t (300 + i)) 0 = v := (tkF_q 0 (Or.inl rfl) (pinv_lt hp (by omega))).trans h
    cases hc : tkB t (t (300 + i)) with
    | true => rw [scF_yes hc]; exact scF_0 m _ (i + 1) (tk_pinv hp (by omega) hc) (by omega) e
    | false => rw [scF_no hc]; exact e
theorem cm_l {len : Nat} {t : Nat → Int32} (h : scR len (bgn (upd t 1 0)) 0 < nI len) : cmB len t = false := by simp [cmB, h]
theorem cm_n {len : Nat} {t : Nat → Int32} (h : ¬ scR len (bgn (upd t 1 0)) 0 < nI len) (h2 : whole (scF len (bgn (upd t 1 0)) 0) = false) : cmB len t = false := by simp [cmB, h2]
theorem cm_w {len : Nat} {t : Nat → Int32} (h : ¬ scR len (bgn (upd t 1 0)) 0 < nI len) (h2 : whole (scF len (bgn (upd t 1 0)) 0) = true) : cmB len t = true := by simp [cmB, h, h2]
def fst0 (z : Nat → Int32) : Nat → Int32 := upd (upd (upd z 16 (-1)) 17 (-1)) 18 (-1)
theorem okz_of {z z2 : Nat → Int32} (h10 : z2 10 = z 10) (h6 : z2 6 = z 6) (h : okz z) : okz z2 := by
  obtain ⟨⟨n, h1, h2⟩, k, h3, h4⟩ := h
  exact ⟨⟨n, h10.trans h1, h2⟩, k, h6.trans h3, h4⟩
theorem fst0_ok {z : Nat → Int32} (h : okz z) : okz (fst0 z) := okz_of rfl rfl h
theorem readF_10 (z : Nat → Int32) (n k : Nat) : readF z n k 10 = nI n + 1 := by rw [readF, upd_no (by decide), printF, upd_is]
theorem readF_6 (z : Nat → Int32) (n k : Nat) : readF z n k 6 = nI k := by
  rw [readF, upd_no (by decide), printF_q _ _ _ 6 (by decide) (by decide), upd_is]
theorem rosF_ok {z : Nat → Int32} {n k : Nat} {pt : Int32} (h : okz z) (hn : z 10 = nI n) (h4 : n ≤ 40) (hk : k < 6) : okz (rosF z n k pt) := by
  unfold rosF
  split
  · rename_i hw
    have := why_lt hn h4 hw
    exact ⟨⟨n + 1, by rw [readF_10, nI_1], by omega⟩, k, readF_6 z n k, hk⟩
  · exact okz_of rfl rfl h
theorem doF_ok {z t : Nat → Int32} {q : Nat} (h : okz z) (hv : vtx t q) : okz (doF z (pn z) (pk z) (t (100 + q)) (t (200 + q)) q) := by
  obtain ⟨n, hn, h4⟩ := h.1
  unfold doF
  split
  · exact okz_of rfl rfl h
  · split
    · exact okz_of rfl rfl h
    · split
      · rename_i c1
        obtain ⟨v, hv1, hv2⟩ := hv.2.1 (Or.inl c1)
        exact ⟨⟨n, hn, h4⟩, v, hv1, hv2⟩
      · split
        · rename_i c1
          obtain ⟨v, hv1, hv2⟩ := hv.2.1 (Or.inr c1)
          rw [hv1, nI_clamp (by omega), pn_eq hn h4]
          exact rosF_ok h hn h4 hv2
        · split
          · exact okz_of rfl rfl h
          · exact okz_of (hoursF_o _ _ _ 10 (by decide) (by decide)) (hoursF_6 _ _ _) h
theorem obF_y {t z : Nat → Int32} {m q : Nat} (c : doB z (t (100 + q)) (t (200 + q)) = true) : obF t (m + 1) z q = obF t m (doF z (pn z) (pk z) (t (100 + q)) (t (200 + q)) q) (q + 1) := if_pos c
theorem obF_n {t z : Nat → Int32} {m q : Nat} (c : doB z (t (100 + q)) (t (200 + q)) = false) : obF t (m + 1) z q = doF z (pn z) (pk z) (t (100 + q)) (t (200 + q)) q := if_neg (by rw [c]; decide)
theorem obN_y {t z : Nat → Int32} {m q : Nat} (c : doB z (t (100 + q)) (t (200 + q)) = true) : obN t (m + 1) z q = obN t m (doF z (pn z) (pk z) (t (100 + q)) (t (200 + q)) q) (q + 1) := if_pos c
theorem obN_n {t z : Nat → Int32} {m q : Nat} (c : doB z (t (100 + q)) (t (200 + q)) = false) : obN t (m + 1) z q = q := if_neg (by rw [c]; decide)
theorem ntr_6 (z a b : Nat → Int32) : ntr z a 6 = ntr z b 6 := rfl
theorem wtr_0 (z a : Nat → Int32) (i j k : Nat) : wtr z a i j k 0 = a := rfl
end
