/-! The derived rows: one world word (wd), one fixed word (cx), contracts that say one answer and one world (CI, CV, CL, CD). -/

-- words of the tables that a method's own list can't hold
def txw : List Cond := [.methodLinkNest RX5 9 yX3_init RX5, .methodLinkNest RX3 11 yX4_init RX5, .methodLinkNest RX3 20 yX1_init RX5, .methodLinkNest RX2 22 yX3_init RX5, .methodLinkNest RX5 28 yX0_init RX5, .methodLinkNest RX5 35 yX4_init RX5, .methodLinkNest RX4 54 yX5_isPose RX5, .castable "[I" "java/lang/Cloneable", .castable "java/lang/IllegalArgumentException" "java/lang/IllegalArgumentException", .castable "java/lang/IllegalStateException" "java/lang/IllegalStateException", .castable "java/lang/IndexOutOfBoundsException" "java/lang/IndexOutOfBoundsException"]
def txg (w : Cond) : Prop := (∃ (a : String) (i : Nat) (x : MethodName) (h : String), w = .methodLinkNest a i x h) ∨ ∃ C T : String, w = .castable C T
theorem txw_good : ∀ w ∈ txw, txg w := by
  intro w hw
  simp only [txw, List.mem_cons, List.not_mem_nil, or_false] at hw
  rcases hw with rfl | rfl | rfl | rfl | rfl | rfl | rfl | rfl | rfl | rfl | rfl
  all_goals first | exact Or.inl ⟨_, _, _, _, rfl⟩ | exact Or.inr ⟨_, _, rfl⟩
def TX (U : State) : Prop := ∀ w ∈ txw, va_Nw w U
theorem TX.warm {s U : State} (hW : s.WarmedH U.vm) (h : TX s) : TX U := fun w hw => by
  rcases txw_good w hw with ⟨a, i, x, h1, rfl⟩ | ⟨C, T, rfl⟩
  · exact va_Nw.warmM hW (h _ hw)
  · exact va_Nw.warmC hW (h _ hw)
theorem TX.same {u U : State} (hv : u.vm = U.vm) (h : TX u) : TX U := fun w hw => by
  rcases txw_good w hw with ⟨a, i, x, h1, rfl⟩ | ⟨C, T, rfl⟩
  · exact va_Nw.same rfl hv (h _ hw)
  · exact va_Nw.same rfl hv (h _ hw)
section KITA
variable {p : Program} {l : Launch} {e : Env} {R : Room} {s : State} {m : MethodId} {args : Array Value} {below : List Frame} {meth : Method} {c : Code} {H H0 : Heap} {locs : List Loc} {cells slots : Nat} {Q : State → Prop} {A : Nat → Prop} {D : va_G} {tys : List (ClassId × FieldType)} {ws ws2 cin cout wr : va_W} {cc : ByteArray} {nL : Nat} {Ts : List Cond} {own : String} {pc : Nat} {ls : Array Slot} {rest : List Value} {a : Nat}
/-- the world: these cells in the heap, apart, and nothing old outside A written since H0 -/
def wd (D : va_G) (A : Nat → Prop) (H0 H : Heap) (locs : List Loc) (ws : va_W) : Prop := va_P D vwCl ws H ∧ va_D A ws ∧ va_S A H0 H locs
/-- what stays fixed in a method's walk -/
def cx (p : Program) (m : MethodId) (c : Code) (cc : ByteArray) (nL : Nat) (s : State) (args : Array Value) (Ts : List Cond) (own : String) (D : va_G) (tys : List (ClassId × FieldType)) : Prop := CallFix p m c cc nL s args Ts own ∧ va_K D vwCl tys s ∧ TX s
theorem wd.to (w : wd D A H0 H locs ws) (h : ws = ws2) : wd D A H0 H locs ws2 := h ▸ w
/-- the cells in another order -/
theorem wd.sub (w : wd D A H0 H locs ws) (is : List Nat) (hn : va_nd is = true) (hs : is.filterMap (fun i => ws[i]?) = ws2) (hs2 : is.map (fun i => ws[i]?) = ws2.map some) : wd D A H0 H locs ws2 := ⟨w.1.sub is hs, w.2.1.sub is hn hs2, w.2.2⟩
/-- a part of the ints f: n of them, from k on -/
def cut (n k : Nat) (f : Nat → Int32) : Nat → Int32 := fun j => if j < n then f (k + j) else 0
theorem cut_in {n k j : Nat} {f : Nat → Int32} (h : j < n) : cut n k f j = f (k + j) := if_pos h
theorem cut_eq {n k k2 : Nat} {f g : Nat → Int32} (h : ∀ j, j < n → f (k + j) = g (k2 + j)) : cut n k f = cut n k2 g := by
  funext j
  by_cases hj : j < n
  · rw [cut_in hj, cut_in hj, h j hj]
  · simp only [cut, if_neg hj]
theorem cut_upd {n k j kj : Nat} {f : Nat → Int32} {v : Int32} (h : j < n) (hk : k + j = kj) : upd (cut n k f) j v = cut n k (upd f kj v) := by
  subst hk
  funext i
  by_cases hi : i = j
  · subst hi
    simp only [upd, cut, if_pos h, if_true]
  · have h2 : ¬ k + i = k + j := by omega
    simp only [upd, cut, if_neg hi, if_neg h2]
theorem cut_0 {n k : Nat} : (fun _ => 0 : Nat → Int32) = cut n k (fun _ => 0) := by
  funext i
  simp only [cut, ite_self]
theorem cut_out {n k i : Nat} {f : Nat → Int32} {v : Int32} (h : i < k ∨ k + n ≤ i) : cut n k (upd f i v) = cut n k f := by
  refine cut_eq (fun j hj => ?_)
  have h2 : ¬ k + j = i := by omega
  simp only [upd, if_neg h2]
theorem cut_cpy {n k k2 : Nat} {f g : Nat → Int32} : va_cpy (cut n k f) (cut n k2 g) 0 0 n = cut n k f := by
  funext j
  show (if 0 ≤ j ∧ j < 0 + n then cut n k f (0 + (j - 0)) else cut n k2 g j) = cut n k f j
  by_cases hj : j < n
  · rw [if_pos (by omega), Nat.sub_zero, Nat.zero_add]
  · rw [if_neg (by omega)]
    simp only [cut, if_neg hj]
theorem upd_is (f : Nat → Int32) (k : Nat) (v : Int32) : upd f k v k = v := if_pos rfl
theorem upd_no {f : Nat → Int32} {k j : Nat} {v : Int32} (h : ¬ j = k) : upd f k v j = f j := if_neg h
theorem upd_id (f : Nat → Int32) (k : Nat) : upd f k (f k) = f := by
  funext j
  by_cases h : j = k
  · subst h; exact upd_is _ _ _
  · exact upd_no h
-- fields
theorem k_get (X : cx p m c cc nL s args Ts own D tys) (w : wd D A H0 H locs ws) (q0 : Nat) {ci : Nat} {C : String} {T : u_T} {N : Nat} {fs : List Value} (he : ws[q0]? = some (a, .inr (ci, fs))) (hc : vwCl[ci]? = some (C, T, N)) (k : Nat) (hk : k < N) {nm dsc : String} {fin : Bool} (hT : T k = (C, nm, dsc, fin)) {index : Nat} (hin : ∀ w ∈ u_ws C T N, w ∈ Ts) (hl : Cond.fieldLink own index C nm dsc ∈ Ts) {v : Value} (hv : fs[k]? = some v) (hdg : decode cc pc = .ok (.getfield index, 3))
    (kk : W p l e R s m args below meth c H locs cells slots Q (F0 m (pc + 3) ls (v :: rest))) : W p l e R s m args below meth c H locs cells slots Q (F0 m pc ls (.ref a :: rest)) := by
  obtain ⟨⟨hx, hb, hml, hown, hts⟩, hK, -⟩ := X
  refine va_get (D := D) (ci := ci) (C := C) (T := T) (N := N) (ref := C) hx hb hts hin hown hK w.1 q0 he hc k hk ?_ ?_ hv hdg kk
  · rw [hT]; exact hts _ hl
  · intro x h; rw [hT] at h ⊢; exact h
theorem k_put (X : cx p m c cc nL s args Ts own D tys) (w : wd D A H0 H locs ws) (q0 : Nat) {ci : Nat} {C : String} {T : u_T} {N : Nat} {fs : List Value} (he : ws[q0]? = some (a, .inr (ci, fs))) (hc : vwCl[ci]? = some (C, T, N)) (k : Nat) (hk : k < N) {nm dsc : String} (hT : T k = (C, nm, dsc, false)) {index : Nat} (hin : ∀ w ∈ u_ws C T N, w ∈ Ts) (hl : Cond.fieldLink own index C nm dsc ∈ Ts)
    {ty0 : Nat → FieldType} (hty : ∀ k, k < N → parseFieldDescriptor (T k).2.2.1 = some (ty0 k)) (hnm : ∀ a, a < N → ∀ b, b < N → a ≠ b → (T a).2.1 ≠ (T b).2.1) {v : Value} (hn : narrow (ty0 k) v = v) (hfit : Jvm.fits (ty0 k) v = true) (hlen : k < fs.length) (hws : ws.set q0 (a, .inr (ci, fs.set k v)) = ws2) (hdg : decode cc pc = .ok (.putfield index, 3))
    (kk : ∀ (H1 : Heap) (locs1 : List Loc), wd D A H0 H1 locs1 ws2 → W p l e R s m args below meth c H1 locs1 cells slots Q (F0 m (pc + 3) ls rest)) : W p l e R s m args below meth c H locs cells slots Q (F0 m pc ls (v :: .ref a :: rest)) := by
  obtain ⟨⟨hx, hb, hml, hown, hts⟩, hK, -⟩ := X
  refine va_put (D := D) (ci := ci) (C := C) (T := T) (N := N) (ref := C) (ty := ty0 k) hx hb hts hin ty0 hty hnm hown hK w.1 w.2.1 w.2.2 q0 he hc k hk ?_ ?_ ?_ (hty k hk) hn hfit hlen hdg ?_
  · rw [hT]; exact hts _ hl
  · intro x h; rw [hT] at h ⊢; exact h
  · rw [hT]
  · intro H1 locs1 h1 h2 h3
    rw [hws] at h1 h2
    exact kk H1 locs1 ⟨h1, h2, h3⟩
-- ints in rows
theorem k_in {n j : Nat} {i : Int32} (hj : j < n) (hn : n < 2 ^ 31) (hi : i = nI j) : vp_in i n := by
  subst hi
  exact vp_in_nI hj hn
theorem k_iald (X : cx p m c cc nL s args Ts own D tys) (w : wd D A H0 H locs ws) (q0 t0 : Nat) {cA : ClassId} {n k : Nat} {f : Nat → Int32} (he : ws[q0]? = some (a, .inl (cA, n, .inl (cut n k f)))) (ht : tys[t0]? = some (cA, .int)) (j : Nat) {kj : Nat} (hkj : k + j = kj) (hj : j < n) (hn : n < 2 ^ 31) {i : Int32} (hi : i = nI j) {v : Int32} (hv : f kj = v) (hdg : decode cc pc = .ok (.iaload, 1))
    (kk : W p l e R s m args below meth c H locs cells slots Q (F0 m (pc + 1) ls (.int v :: rest))) : W p l e R s m args below meth c H locs cells slots Q (F0 m pc ls (.int i :: .ref a :: rest)) := by
  obtain ⟨⟨hx, hb, hml, hown, hts⟩, hK, -⟩ := X
  refine va_iald hx hb hK w.1 q0 t0 he ht (k_in hj hn hi) hdg ?_
  rw [hi, nI_clamp (by omega), cut_in hj, hkj, hv]
  exact kk
theorem k_iast (X : cx p m c cc nL s args Ts own D tys) (w : wd D A H0 H locs ws) (q0 t0 : Nat) {cA : ClassId} {n k : Nat} {f : Nat → Int32} (he : ws[q0]? = some (a, .inl (cA, n, .inl (cut n k f)))) (ht : tys[t0]? = some (cA, .int)) (j : Nat) {kj : Nat} (hkj : k + j = kj) (hj : j < n) (hn : n < 2 ^ 31) {i x : Int32} (hi : i = nI j) (hws : ws.set q0 (a, .inl (cA, n, .inl (cut n k (upd f kj x)))) = ws2) (hdg : decode cc pc = .ok (.iastore, 1))
    (kk : ∀ (H1 : Heap) (locs1 : List Loc), wd D A H0 H1 locs1 ws2 → W p l e R s m args below meth c H1 locs1 cells slots Q (F0 m (pc + 1) ls rest)) : W p l e R s m args below meth c H locs cells slots Q (F0 m pc ls (.int x :: .int i :: .ref a :: rest)) := by
  obtain ⟨⟨hx, hb, hml, hown, hts⟩, hK, -⟩ := X
  refine va_iast hx hb hK w.1 w.2.1 w.2.2 q0 t0 he ht (k_in hj hn hi) hdg ?_
  intro H1 locs1 h1 h2 h3
  rw [hi, nI_clamp (by omega), cut_upd hj hkj, hws] at h1 h2
  exact kk H1 locs1 ⟨h1, h2, h3⟩
theorem k_alen (X : cx p m c cc nL s args Ts own D tys) (w : wd D A H0 H locs ws) (q0 t0 : Nat) {cA : ClassId} {n : Nat} {f : Nat → Int32} (he : ws[q0]? = some (a, .inl (cA, n, .inl f))) (ht : tys[t0]? = some (cA, .int)) {v : Int32} (hv : nI n = v) (hdg : decode cc pc = .ok (.arraylength, 1))
    (kk : W p l e R s m args below meth c H locs cells slots Q (F0 m (pc + 1) ls (.int v :: rest))) : W p l e R s m args below meth c H locs cells slots Q (F0 m pc ls (.ref a :: rest)) := by
  obtain ⟨⟨hx, hb, hml, hown, hts⟩, hK, -⟩ := X
  exact va_alen hx hb hK w.1 q0 t0 he ht hv hdg kk
theorem k_aldq (X : cx p m c cc nL s args Ts own D tys) (w : wd D A H0 H locs ws) (q0 t0 : Nat) {cA : ClassId} {C : String} {n : Nat} {f : Nat → Option Nat} (he : ws[q0]? = some (a, .inl (cA, n, .inr (.inr (.inr (.inr f)))))) (ht : tys[t0]? = some (cA, .object C)) (j : Nat) (hj : j < n) (hn : n < 2 ^ 31) {i : Int32} (hi : i = nI j) {b : Nat} (hb2 : f j = some b) (hdg : decode cc pc = .ok (.aaload, 1))
    (kk : W p l e R s m args below meth c H locs cells slots Q (F0 m (pc + 1) ls (.ref b :: rest))) : W p l e R s m args below meth c H locs cells slots Q (F0 m pc ls (.int i :: .ref a :: rest)) := by
  obtain ⟨⟨hx, hb, hml, hown, hts⟩, hK, -⟩ := X
  refine va_aldq hx hb hK w.1 q0 t0 he ht (k_in hj hn hi) hdg ?_
  rw [hi, nI_clamp (by omega), hb2]
  exact kk
-- Math
theorem k_max (X : cx p m c cc nL s args Ts own D tys) (hls : ls.size = nL) {index : Nat} (h1 : Cond.methodLink own index Lib.Math.max.name ∈ Ts) (h2 : Cond.static Lib.Math.max.name ∈ Ts) (h3 : Cond.initialized "java/lang/Math" ∈ Ts) (h4 : Cond.code Lib.Math.max.name Lib.Math.max.code 2 (some .int) ∈ Ts) (hframes : 1 ≤ R.frames) (hlocals : (rest.map fun v => v.category).sum + 13 ≤ R.locals) (hc : cells ≤ R.cells) (hs : slots ≤ R.slots) {x y : Int32} (hdg : decode cc pc = .ok (.invokestatic index, 3))
    (kk : W p l e R s m args below meth c H locs cells slots Q (F0 m (pc + 3) ls (.int (if x < y then y else x) :: rest))) : W p l e R s m args below meth c H locs cells slots Q (F0 m pc ls (.int y :: .int x :: rest)) := by
  obtain ⟨⟨hx, hb, hml, hown, hts⟩, hK, -⟩ := X
  exact va_mmax hx hb (by rw [hml, hls]) hown (hts _ h1) (hts _ h2) (hts _ h3) (hts _ h4) hframes hlocals hc hs hdg kk
theorem k_min (X : cx p m c cc nL s args Ts own D tys) (hls : ls.size = nL) {index : Nat} (h1 : Cond.methodLink own index Lib.Math.min.name ∈ Ts) (h2 : Cond.static Lib.Math.min.name ∈ Ts) (h3 : Cond.initialized "java/lang/Math" ∈ Ts) (h4 : Cond.code Lib.Math.min.name Lib.Math.min.code 2 (some .int) ∈ Ts) (hframes : 1 ≤ R.frames) (hlocals : (rest.map fun v => v.category).sum + 13 ≤ R.locals) (hc : cells ≤ R.cells) (hs : slots ≤ R.slots) {x y : Int32} (hdg : decode cc pc = .ok (.invokestatic index, 3))
    (kk : W p l e R s m args below meth c H locs cells slots Q (F0 m (pc + 3) ls (.int (if y < x then y else x) :: rest))) : W p l e R s m args below meth c H locs cells slots Q (F0 m pc ls (.int y :: .int x :: rest)) := by
  obtain ⟨⟨hx, hb, hml, hown, hts⟩, hK, -⟩ := X
  exact va_mmin hx hb (by rw [hml, hls]) hown (hts _ h1) (hts _ h2) (hts _ h3) (hts _ h4) hframes hlocals hc hs hdg kk
theorem k_abs (X : cx p m c cc nL s args Ts own D tys) (hls : ls.size = nL) {index : Nat} (h1 : Cond.methodLink own index Lib.Math.abs.name ∈ Ts) (h2 : Cond.static Lib.Math.abs.name ∈ Ts) (h3 : Cond.initialized "java/lang/Math" ∈ Ts) (h4 : Cond.code Lib.Math.abs.name Lib.Math.abs.code 1 (some .int) ∈ Ts) (hframes : 1 ≤ R.frames) (hlocals : (rest.map fun v => v.category).sum + 13 ≤ R.locals) (hc : cells ≤ R.cells) (hs : slots ≤ R.slots) {x : Int32} (hdg : decode cc pc = .ok (.invokestatic index, 3))
    (kk : W p l e R s m args below meth c H locs cells slots Q (F0 m (pc + 3) ls (.int (if 0 ≤ x then x else 0 - x) :: rest))) : W p l e R s m args below meth c H locs cells slots Q (F0 m pc ls (.int x :: rest)) := by
  obtain ⟨⟨hx, hb, hml, hown, hts⟩, hK, -⟩ := X
  exact va_mabs hx hb (by rw [hml, hls]) hown (hts _ h1) (hts _ h2) (hts _ h3) (hts _ h4) hframes hlocals hc hs hdg kk
end KITA
-- contracts
def cpre (D : va_G) (tys : List (ClassId × FieldType)) (cin : va_W) (sz : Nat) : State → Prop := fun U => U.heap.size = sz ∧ va_P D vwCl cin U.heap ∧ va_K D vwCl tys U ∧ TX U ∧ va_D (fun _ => True) cin
def cpost (D : va_G) (tys : List (ClassId × FieldType)) (cin : va_W) (sz : Nat) (cout : va_W) : Unit → State → Prop := fun _ t => va_P D vwCl cout t.heap ∧ va_K D vwCl tys t ∧ va_D (va_A cin sz) cout
def CI (l : Launch) (D : va_G) (tys : List (ClassId × FieldType)) (y : MethodName) (ws : List Cond) (rm : Room) (args : List Value) (cin : va_W) (r : Int32) (cout : va_W) : Prop := ∀ sz : Nat, Met l y ws rm (va_Pc args (cpre D tys cin sz)) (va_Qi (fun (r2 : Int32) (_ : Unit) => r2 = r) (cpost D tys cin sz cout) (va_A cin sz)) 0 0 (va_A cin sz)
def CL (l : Launch) (D : va_G) (tys : List (ClassId × FieldType)) (y : MethodName) (ws : List Cond) (rm : Room) (args : List Value) (cin : va_W) (r : Int64) (cout : va_W) : Prop := ∀ sz : Nat, Met l y ws rm (va_Pc args (cpre D tys cin sz)) (va_Ql (fun (r2 : Int64) (_ : Unit) => r2 = r) (cpost D tys cin sz cout) (va_A cin sz)) 0 0 (va_A cin sz)
def CD (l : Launch) (D : va_G) (tys : List (ClassId × FieldType)) (y : MethodName) (ws : List Cond) (rm : Room) (args : List Value) (cin : va_W) (r : UInt64) (cout : va_W) : Prop := ∀ sz : Nat, Met l y ws rm (va_Pc args (cpre D tys cin sz)) (va_Qd (fun (r2 : UInt64) (_ : Unit) => r2 = r) (cpost D tys cin sz cout) (va_A cin sz)) 0 0 (va_A cin sz)
def CV (l : Launch) (D : va_G) (tys : List (ClassId × FieldType)) (y : MethodName) (ws : List Cond) (rm : Room) (args : List Value) (cin : va_W) (cout : va_W) : Prop := ∀ sz : Nat, Met l y ws rm (va_Pc args (cpre D tys cin sz)) (va_Qv (fun (_ : Unit) => True) (cpost D tys cin sz cout) (va_A cin sz)) 0 0 (va_A cin sz)
theorem cpre_blind {D : va_G} {tys : List (ClassId × FieldType)} {cin : va_W} {sz : Nat} {av : List Value} : FrameBlind (va_Pc av (cpre D tys cin sz)) := fun a U g mk q => by
  obtain ⟨q0, q1, qP, qK, qT, qD⟩ := q
  exact ⟨q0, q1, qP, va_K.moved (u := U) (U := U.calling g mk a) (Vm.Alike.refl U.vm) qK, TX.same (u := U) (U := U.calling g mk a) rfl qT, qD⟩
/-- as Met.ofW, for a method of the JDK's too, where no entry runs in its bytecode's place -/
theorem Met.ofP {l : Launch} {y : MethodName} {ws ws' : List Cond} {rm : Room} {Pc : Array Value → State → Prop} {Qc : Array Value → State → Outcome → State → Prop} {mc ms : Nat} {free : Addr → Prop} {cc : ByteArray} {maxL : Nat} {ret : Option FieldType}
    (hy : plainFor y = true) (hw : ws = Cond.code y cc maxL ret :: ws')
    (body : ∀ p e s m args below meth c s₁, BodyLoose p l y (headSpec ws rm) cc maxL ret e s m args below meth c s₁ → c.maxLocals = maxL → Pc args s →
      W p l e (headSpec ws rm).room s m args below meth c s.heap [] 0 0 (MQ below Qc args s mc ms free) (entryFrame m args maxL)) : Met l y ws rm Pc Qc mc ms free := by
  refine MetFree.of_bodySF (code := cc) (maxLocals := maxL) (ret := ret) hy ?_ ?_
  · intro args s m h hn
    obtain ⟨meth, c, h1, h2, h3, h4, h5, h6, -, -⟩ := Cond.code_spec hn (atoms_spec (ws := ws) h _ (by rw [hw]; exact List.mem_cons_self))
    exact ⟨meth, c, h1, h2, h3, h4, h5, h6⟩
  · intro p e s m args below meth c s₁ B hml hP _
    have hh0 : s₁.heap = s.heap := by rw [B.state]; rfl
    obtain ⟨t, a1, o, b1, b2, b3⟩ := body p e s m args below meth c s₁ B hml hP s₁ hh0 (Stand.of_body B)
    exact ⟨t, o, a1, b1, b2, ⟨b3.1, b3.2⟩⟩
section KITB
variable {l : Launch} {D : va_G} {tys : List (ClassId × FieldType)} {y : MethodName} {ws ws9 : List Cond} {rm : Room} {av : List Value} {cin cout : va_W} {cc : ByteArray} {maxL : Nat}
/-- what a walk of a body starts with -/
theorem k_begin {p : Program} {e : Env} {s : State} {m : MethodId} {args : Array Value} {below : List Frame} {meth : Method} {c : Code} {s1 : State} {sz : Nat} {ret : Option FieldType} (B : BodyLoose p l y (headSpec ws rm) cc maxL ret e s m args below meth c s1) (hml : c.maxLocals = maxL) (hv : va_Pc av (cpre D tys cin sz) args s) :
    args = av.toArray ∧ s.heap.size = sz ∧ cx p m c cc maxL s args ws y.cls D tys ∧ wd D (va_A cin sz) s.heap s.heap [] cin := by
  obtain ⟨h1, hsz, hP, hK, hT, hD0⟩ := hv
  exact ⟨h1, hsz, ⟨⟨B.exec, B.bytes, hml, findClass_of_methodNamed B.named, atoms_spec (ws := ws) B.pre⟩, hK, hT⟩, hP, hD0.self, va_S.rf⟩
theorem CI.of {ty : FieldType} {r : Int32} (hy : plainFor y = true) (hw : ws = Cond.code y cc maxL (some ty) :: ws9) (hlen : (lg_sl av).length ≤ maxL) (hn : narrow ty (.int r) = .int r)
    (body : ∀ (p : Program) (e : Env) (s : State) (m : MethodId) (below : List Frame) (meth : Method) (c : Code) (A : Nat → Prop) (ls : Array Slot) (Q : State → Prop), cx p m c cc maxL s av.toArray ws y.cls D tys → (∀ q : Nat, s.heap.size ≤ q → A q) → wd D A s.heap s.heap [] cin → lv_has ls maxL (lv_args 0 av) →
      (∀ (H : Heap) (locs : List Loc) (pc : Nat) (ls : Array Slot) (v : Int32), wd D A s.heap H locs cout → v = r → decode cc pc = .ok (.ireturn, 1) → W p l e rm s m av.toArray below meth c H locs 0 0 Q (F0 m pc ls [.int v])) →
      W p l e rm s m av.toArray below meth c s.heap [] 0 0 Q (F0 m 0 ls [])) : CI l D tys y ws rm av cin r cout := by
  intro sz
  refine Met.ofP (cc := cc) (maxL := maxL) (ret := some ty) hy hw ?_
  intro p e s m args below meth c s1 B hml hv
  obtain ⟨rfl, rfl, X, w⟩ := k_begin B hml hv
  rw [lg_entry_eq]
  refine body p e s m below meth c (va_A cin s.heap.size) _ _ X (fun q h => Or.inr h) w (lv_entry av hlen) ?_
  intro H locs pc ls v w1 hv1 hdg
  subst hv1
  have hlocks := B.notSynchronized
  exact W.zret (ty := ty) X.1.1 X.1.2.1 B.returns hn (fun t ht hW => ⟨⟨v, (), rfl, rfl, by rw [ht]; exact w1.1, va_K.moved hW.alike X.2.1, w1.2.1⟩, w1.2.2.F ht⟩) w1.2.2.2.2 hdg
theorem CL.of {r : Int64} (hy : plainFor y = true) (hw : ws = Cond.code y cc maxL (some .long) :: ws9) (hlen : (lg_sl av).length ≤ maxL)
    (body : ∀ (p : Program) (e : Env) (s : State) (m : MethodId) (below : List Frame) (meth : Method) (c : Code) (A : Nat → Prop) (ls : Array Slot) (Q : State → Prop), cx p m c cc maxL s av.toArray ws y.cls D tys → (∀ q : Nat, s.heap.size ≤ q → A q) → wd D A s.heap s.heap [] cin → lv_has ls maxL (lv_args 0 av) →
      (∀ (H : Heap) (locs : List Loc) (pc : Nat) (ls : Array Slot) (v : Int64), wd D A s.heap H locs cout → v = r → decode cc pc = .ok (.lreturn, 1) → W p l e rm s m av.toArray below meth c H locs 0 0 Q (F0 m pc ls [.long v])) →
      W p l e rm s m av.toArray below meth c s.heap [] 0 0 Q (F0 m 0 ls [])) : CL l D tys y ws rm av cin r cout := by
  intro sz
  refine Met.ofP (cc := cc) (maxL := maxL) (ret := some .long) hy hw ?_
  intro p e s m args below meth c s1 B hml hv
  obtain ⟨rfl, rfl, X, w⟩ := k_begin B hml hv
  rw [lg_entry_eq]
  refine body p e s m below meth c (va_A cin s.heap.size) _ _ X (fun q h => Or.inr h) w (lv_entry av hlen) ?_
  intro H locs pc ls v w1 hv1 hdg
  subst hv1
  have hlocks := B.notSynchronized
  exact W.lret X.1.1 X.1.2.1 B.returns (fun t ht hW => ⟨⟨v, (), rfl, rfl, by rw [ht]; exact w1.1, va_K.moved hW.alike X.2.1, w1.2.1⟩, w1.2.2.F ht⟩) w1.2.2.2.2 hdg
theorem CD.of {r : UInt64} (hy : plainFor y = true) (hw : ws = Cond.code y cc maxL (some .double) :: ws9) (hlen : (lg_sl av).length ≤ maxL)
    (body : ∀ (p : Program) (e : Env) (s : State) (m : MethodId) (below : List Frame) (meth : Method) (c : Code) (A : Nat → Prop) (ls : Array Slot) (Q : State → Prop), cx p m c cc maxL s av.toArray ws y.cls D tys → (∀ q : Nat, s.heap.size ≤ q → A q) → wd D A s.heap s.heap [] cin → lv_has ls maxL (lv_args 0 av) →
      (∀ (H : Heap) (locs : List Loc) (pc : Nat) (ls : Array Slot) (v : UInt64), wd D A s.heap H locs cout → v = r → decode cc pc = .ok (.dreturn, 1) → W p l e rm s m av.toArray below meth c H locs 0 0 Q (F0 m pc ls [.double v])) →
      W p l e rm s m av.toArray below meth c s.heap [] 0 0 Q (F0 m 0 ls [])) : CD l D tys y ws rm av cin r cout := by
  intro sz
  refine Met.ofP (cc := cc) (maxL := maxL) (ret := some .double) hy hw ?_
  intro p e s m args below meth c s1 B hml hv
  obtain ⟨rfl, rfl, X, w⟩ := k_begin B hml hv
  rw [lg_entry_eq]
  refine body p e s m below meth c (va_A cin s.heap.size) _ _ X (fun q h => Or.inr h) w (lv_entry av hlen) ?_
  intro H locs pc ls v w1 hv1 hdg
  subst hv1
  have hlocks := B.notSynchronized
  exact W.dret X.1.1 X.1.2.1 B.returns (fun t ht hW => ⟨⟨v, (), rfl, rfl, by rw [ht]; exact w1.1, va_K.moved hW.alike X.2.1, w1.2.1⟩, w1.2.2.F ht⟩) w1.2.2.2.2 hdg
theorem CV.of (hy : plainFor y = true) (hw : ws = Cond.code y cc maxL none :: ws9) (hlen : (lg_sl av).length ≤ maxL)
    (body : ∀ (p : Program) (e : Env) (s : State) (m : MethodId) (below : List Frame) (meth : Method) (c : Code) (A : Nat → Prop) (ls : Array Slot) (Q : State → Prop), cx p m c cc maxL s av.toArray ws y.cls D tys → (∀ q : Nat, s.heap.size ≤ q → A q) → wd D A s.heap s.heap [] cin → lv_has ls maxL (lv_args 0 av) →
      (∀ (H : Heap) (locs : List Loc) (pc : Nat) (ls : Array Slot), wd D A s.heap H locs cout → decode cc pc = .ok (.return_, 1) → W p l e rm s m av.toArray below meth c H locs 0 0 Q (F0 m pc ls [])) →
      W p l e rm s m av.toArray below meth c s.heap [] 0 0 Q (F0 m 0 ls [])) : CV l D tys y ws rm av cin cout := by
  intro sz
  refine Met.ofP (cc := cc) (maxL := maxL) (ret := none) hy hw ?_
  intro p e s m args below meth c s1 B hml hv
  obtain ⟨rfl, rfl, X, w⟩ := k_begin B hml hv
  rw [lg_entry_eq]
  refine body p e s m below meth c (va_A cin s.heap.size) _ _ X (fun q h => Or.inr h) w (lv_entry av hlen) ?_
  intro H locs pc ls w1 hdg
  have hlocks := B.notSynchronized
  exact W.vret X.1.1 X.1.2.1 B.returns (fun t ht hW => ⟨⟨(), rfl, trivial, by rw [ht]; exact w1.1, va_K.moved hW.alike X.2.1, w1.2.1⟩, w1.2.2.F ht⟩) w1.2.2.2.2 hdg
end KITB

section KITC
variable {p : Program} {l : Launch} {e : Env} {R : Room} {s : State} {m : MethodId} {args : Array Value} {below : List Frame} {meth : Method} {c : Code} {H H0 : Heap} {locs : List Loc} {cells slots : Nat} {Q : State → Prop} {A : Nat → Prop} {D : va_G} {tys : List (ClassId × FieldType)} {ws ws2 cin cout wr : va_W} {cc : ByteArray} {nL : Nat} {Ts : List Cond} {own : String} {pc : Nat} {ls : Array Slot} {rest st0 : List Value} {a : Nat}
theorem sub_P {cl : List vw_C} (hP : va_P D cl ws H) {isC : List Nat} (hC : isC.map (fun i => ws[i]?) = cin.map some) : va_P D cl cin H := by
  intro k q hq
  have h1 : (cin.map some)[k]? = some (some q) := by rw [List.getElem?_map, hq]; rfl
  rw [← hC, List.getElem?_map] at h1
  cases hi : isC[k]? with
  | none => rw [hi] at h1; cases h1
  | some i => rw [hi] at h1; exact hP i q (Option.some.inj h1)
theorem in_of {isC : List Nat} (hC : isC.map (fun i => ws[i]?) = cin.map some) : ∀ (k : Nat) (q : Nat × va_E), cin[k]? = some q → ∃ i : Nat, ws[i]? = some q := by
  intro k q hq
  have h1 : (cin.map some)[k]? = some (some q) := by rw [List.getElem?_map, hq]; rfl
  rw [← hC, List.getElem?_map] at h1
  cases hi : isC[k]? with
  | none => rw [hi] at h1; cases h1
  | some i => rw [hi] at h1; exact ⟨i, Option.some.inj h1⟩
theorem at_congr {cl : List vw_C} {q : Nat × va_E} {H1 : Heap} (h : va_at D cl q H) (e : H1[q.1]? = H[q.1]?) : va_at D cl q H1 := by
  obtain ⟨a, x⟩ := q
  cases x with
  | inl a0 => exact Eq.trans e h
  | inr o =>
    obtain ⟨r, h1, cell, h2, h3⟩ := h
    exact ⟨r, h1, cell, e.trans h2, h3⟩
theorem at_lt {cl : List vw_C} {q : Nat × va_E} (h : va_at D cl q H) : q.1 < H.size := by
  obtain ⟨a, x⟩ := q
  cases x with
  | inl a0 => exact (Array.getElem?_eq_some_iff.mp h).1
  | inr o =>
    obtain ⟨r, h1, cell, h2, h3⟩ := h
    exact (Array.getElem?_eq_some_iff.mp h2).1
/-- what is left alone stays: the whole world, when the callee left its cells as they were -/
theorem same_P {cl : List vw_C} {H1 : Heap} (hP : va_P D cl ws H) (hD : va_D A ws) {isC : List Nat} (hC : isC.map (fun i => ws[i]?) = cin.map some) (hk : ∀ q : Nat, q < H.size → ¬ va_A cin H.size q → H1[q]? = H[q]?) (hP1 : va_P D cl cin H1) : va_P D cl ws H1 := by
  intro k q hq
  by_cases h : ∃ (j : Nat) (x : va_E), cin[j]? = some (q.1, x)
  · obtain ⟨j, x, hj⟩ := h
    obtain ⟨i, hi⟩ := in_of hC j _ hj
    have hik : i = k := hD.1 i k _ _ hi hq rfl
    subst hik
    rw [hi] at hq
    have hq := Option.some.inj hq
    rw [← hq]
    exact hP1 j _ hj
  · have hlt := at_lt (hP k q hq)
    refine at_congr (hP k q hq) (hk q.1 hlt ?_)
    rintro (⟨j, x, hj⟩ | h2)
    · exact h ⟨j, x, hj⟩
    · omega
-- behind a call: the answer and the world
theorem k_ci {av : Array Value} {r : Int32} (hr : va_Run p l e R s m args below meth c H locs cells slots 0 0 (F0 m pc ls st0) rest (va_Qi (fun (r2 : Int32) (_ : Unit) => r2 = r) (cpost D tys cin H.size cout) (va_A cin H.size) av) (va_A cin H.size)) (w : wd D A H0 H locs ws) (hA : ∀ q : Nat, H0.size ≤ q → A q) (isC isR : List Nat) (hC : isC.map (fun i => ws[i]?) = cin.map some) (hR : isR.map (fun i => ws[i]?) = wr.map some) (hn : va_nd isR = true) (hdis : ∀ i ∈ isR, i ∉ isC) (pm : List Nat) (hp1 : va_nd pm = true) (hp2 : pm.map (fun i => (wr ++ cout)[i]?) = ws2.map some)
    (kk : ∀ (H1 : Heap) (locs1 : List Loc), wd D A H0 H1 locs1 ws2 → W p l e R s m args below meth c H1 locs1 cells slots Q (F0 m (pc + 3) ls (.int r :: rest))) : W p l e R s m args below meth c H locs cells slots Q (F0 m pc ls st0) := by
  have hF := va_free w.2.1 w.2.2 hA isC hC
  refine va_calli hr w.2.2 (fun q _ h => hF q h) hF (fun r2 u t H1 locs1 ht hvm hw hB hz1 hk1 hS => ?_)
  obtain ⟨hP1, hK1, hD1⟩ := hB
  rw [ht] at hP1
  rw [hw]
  obtain ⟨hP, hD⟩ := va_join w.1 w.2.1 isC isR hC hR hn hdis hk1 hF hP1 hD1
  exact kk H1 locs1 ⟨sub_P hP hp2, hD.sub pm hp1 hp2, hS⟩
theorem k_ciR {av : Array Value} {r : Int32} (hr : va_Run p l e R s m args below meth c H locs cells slots 0 0 (F0 m pc ls st0) rest (va_Qi (fun (r2 : Int32) (_ : Unit) => r2 = r) (cpost D tys cin H.size cin) (va_A cin H.size) av) (va_A cin H.size)) (w : wd D A H0 H locs ws) (hA : ∀ q : Nat, H0.size ≤ q → A q) (isC : List Nat) (hC : isC.map (fun i => ws[i]?) = cin.map some)
    (kk : ∀ (H1 : Heap) (locs1 : List Loc), wd D A H0 H1 locs1 ws → W p l e R s m args below meth c H1 locs1 cells slots Q (F0 m (pc + 3) ls (.int r :: rest))) : W p l e R s m args below meth c H locs cells slots Q (F0 m pc ls st0) := by
  have hF := va_free w.2.1 w.2.2 hA isC hC
  refine va_calli hr w.2.2 (fun q _ h => hF q h) hF (fun r2 u t H1 locs1 ht hvm hw hB hz1 hk1 hS => ?_)
  obtain ⟨hP1, hK1, hD1⟩ := hB
  rw [ht] at hP1
  rw [hw]
  exact kk H1 locs1 ⟨same_P w.1 w.2.1 hC hk1 hP1, w.2.1, hS⟩
theorem k_cl {av : Array Value} {r : Int64} (hr : va_Run p l e R s m args below meth c H locs cells slots 0 0 (F0 m pc ls st0) rest (va_Ql (fun (r2 : Int64) (_ : Unit) => r2 = r) (cpost D tys cin H.size cout) (va_A cin H.size) av) (va_A cin H.size)) (w : wd D A H0 H locs ws) (hA : ∀ q : Nat, H0.size ≤ q → A q) (isC isR : List Nat) (hC : isC.map (fun i => ws[i]?) = cin.map some) (hR : isR.map (fun i => ws[i]?) = wr.map some) (hn : va_nd isR = true) (hdis : ∀ i ∈ isR, i ∉ isC) (pm : List Nat) (hp1 : va_nd pm = true) (hp2 : pm.map (fun i => (wr ++ cout)[i]?) = ws2.map some)
    (kk : ∀ (H1 : Heap) (locs1 : List Loc), wd D A H0 H1 locs1 ws2 → W p l e R s m args below meth c H1 locs1 cells slots Q (F0 m (pc + 3) ls (.long r :: rest))) : W p l e R s m args below meth c H locs cells slots Q (F0 m pc ls st0) := by
  have hF := va_free w.2.1 w.2.2 hA isC hC
  refine va_calll hr w.2.2 (fun q _ h => hF q h) hF (fun r2 u t H1 locs1 ht hvm hw hB hz1 hk1 hS => ?_)
  obtain ⟨hP1, hK1, hD1⟩ := hB
  rw [ht] at hP1
  rw [hw]
  obtain ⟨hP, hD⟩ := va_join w.1 w.2.1 isC isR hC hR hn hdis hk1 hF hP1 hD1
  exact kk H1 locs1 ⟨sub_P hP hp2, hD.sub pm hp1 hp2, hS⟩
theorem k_clR {av : Array Value} {r : Int64} (hr : va_Run p l e R s m args below meth c H locs cells slots 0 0 (F0 m pc ls st0) rest (va_Ql (fun (r2 : Int64) (_ : Unit) => r2 = r) (cpost D tys cin H.size cin) (va_A cin H.size) av) (va_A cin H.size)) (w : wd D A H0 H locs ws) (hA : ∀ q : Nat, H0.size ≤ q → A q) (isC : List Nat) (hC : isC.map (fun i => ws[i]?) = cin.map some)
    (kk : ∀ (H1 : Heap) (locs1 : List Loc), wd D A H0 H1 locs1 ws → W p l e R s m args below meth c H1 locs1 cells slots Q (F0 m (pc + 3) ls (.long r :: rest))) : W p l e R s m args below meth c H locs cells slots Q (F0 m pc ls st0) := by
  have hF := va_free w.2.1 w.2.2 hA isC hC
  refine va_calll hr w.2.2 (fun q _ h => hF q h) hF (fun r2 u t H1 locs1 ht hvm hw hB hz1 hk1 hS => ?_)
  obtain ⟨hP1, hK1, hD1⟩ := hB
  rw [ht] at hP1
  rw [hw]
  exact kk H1 locs1 ⟨same_P w.1 w.2.1 hC hk1 hP1, w.2.1, hS⟩
theorem k_cdR {av : Array Value} {r : UInt64} (hr : va_Run p l e R s m args below meth c H locs cells slots 0 0 (F0 m pc ls st0) rest (va_Qd (fun (r2 : UInt64) (_ : Unit) => r2 = r) (cpost D tys cin H.size cin) (va_A cin H.size) av) (va_A cin H.size)) (w : wd D A H0 H locs ws) (hA : ∀ q : Nat, H0.size ≤ q → A q) (isC : List Nat) (hC : isC.map (fun i => ws[i]?) = cin.map some)
    (kk : ∀ (H1 : Heap) (locs1 : List Loc), wd D A H0 H1 locs1 ws → W p l e R s m args below meth c H1 locs1 cells slots Q (F0 m (pc + 3) ls (.double r :: rest))) : W p l e R s m args below meth c H locs cells slots Q (F0 m pc ls st0) := by
  have hF := va_free w.2.1 w.2.2 hA isC hC
  refine va_calld hr w.2.2 (fun q _ h => hF q h) hF (fun r2 u t H1 locs1 ht hvm hw hB hz1 hk1 hS => ?_)
  obtain ⟨hP1, hK1, hD1⟩ := hB
  rw [ht] at hP1
  rw [hw]
  exact kk H1 locs1 ⟨same_P w.1 w.2.1 hC hk1 hP1, w.2.1, hS⟩
theorem k_cd {av : Array Value} {r : UInt64} (hr : va_Run p l e R s m args below meth c H locs cells slots 0 0 (F0 m pc ls st0) rest (va_Qd (fun (r2 : UInt64) (_ : Unit) => r2 = r) (cpost D tys cin H.size cout) (va_A cin H.size) av) (va_A cin H.size)) (w : wd D A H0 H locs ws) (hA : ∀ q : Nat, H0.size ≤ q → A q) (isC isR : List Nat) (hC : isC.map (fun i => ws[i]?) = cin.map some) (hR : isR.map (fun i => ws[i]?) = wr.map some) (hn : va_nd isR = true) (hdis : ∀ i ∈ isR, i ∉ isC) (pm : List Nat) (hp1 : va_nd pm = true) (hp2 : pm.map (fun i => (wr ++ cout)[i]?) = ws2.map some)
    (kk : ∀ (H1 : Heap) (locs1 : List Loc), wd D A H0 H1 locs1 ws2 → W p l e R s m args below meth c H1 locs1 cells slots Q (F0 m (pc + 3) ls (.double r :: rest))) : W p l e R s m args below meth c H locs cells slots Q (F0 m pc ls st0) := by
  have hF := va_free w.2.1 w.2.2 hA isC hC
  refine va_calld hr w.2.2 (fun q _ h => hF q h) hF (fun r2 u t H1 locs1 ht hvm hw hB hz1 hk1 hS => ?_)
  obtain ⟨hP1, hK1, hD1⟩ := hB
  rw [ht] at hP1
  rw [hw]
  obtain ⟨hP, hD⟩ := va_join w.1 w.2.1 isC isR hC hR hn hdis hk1 hF hP1 hD1
  exact kk H1 locs1 ⟨sub_P hP hp2, hD.sub pm hp1 hp2, hS⟩
theorem k_cv {av : Array Value} (hr : va_Run p l e R s m args below meth c H locs cells slots 0 0 (F0 m pc ls st0) rest (va_Qv (fun (_ : Unit) => True) (cpost D tys cin H.size cout) (va_A cin H.size) av) (va_A cin H.size)) (w : wd D A H0 H locs ws) (hA : ∀ q : Nat, H0.size ≤ q → A q) (isC isR : List Nat) (hC : isC.map (fun i => ws[i]?) = cin.map some) (hR : isR.map (fun i => ws[i]?) = wr.map some) (hn : va_nd isR = true) (hdis : ∀ i ∈ isR, i ∉ isC) (pm : List Nat) (hp1 : va_nd pm = true) (hp2 : pm.map (fun i => (wr ++ cout)[i]?) = ws2.map some)
    (kk : ∀ (H1 : Heap) (locs1 : List Loc), wd D A H0 H1 locs1 ws2 → W p l e R s m args below meth c H1 locs1 cells slots Q (F0 m (pc + 3) ls rest)) : W p l e R s m args below meth c H locs cells slots Q (F0 m pc ls st0) := by
  have hF := va_free w.2.1 w.2.2 hA isC hC
  refine va_callv hr w.2.2 (fun q _ h => hF q h) hF (fun u t H1 locs1 ht hvm hw hB hz1 hk1 hS => ?_)
  obtain ⟨hP1, hK1, hD1⟩ := hB
  rw [ht] at hP1
  obtain ⟨hP, hD⟩ := va_join w.1 w.2.1 isC isR hC hR hn hdis hk1 hF hP1 hD1
  exact kk H1 locs1 ⟨sub_P hP hp2, hD.sub pm hp1 hp2, hS⟩
theorem k_cvR {av : Array Value} (hr : va_Run p l e R s m args below meth c H locs cells slots 0 0 (F0 m pc ls st0) rest (va_Qv (fun (_ : Unit) => True) (cpost D tys cin H.size cin) (va_A cin H.size) av) (va_A cin H.size)) (w : wd D A H0 H locs ws) (hA : ∀ q : Nat, H0.size ≤ q → A q) (isC : List Nat) (hC : isC.map (fun i => ws[i]?) = cin.map some)
    (kk : ∀ (H1 : Heap) (locs1 : List Loc), wd D A H0 H1 locs1 ws → W p l e R s m args below meth c H1 locs1 cells slots Q (F0 m (pc + 3) ls rest)) : W p l e R s m args below meth c H locs cells slots Q (F0 m pc ls st0) := by
  have hF := va_free w.2.1 w.2.2 hA isC hC
  refine va_callv hr w.2.2 (fun q _ h => hF q h) hF (fun u t H1 locs1 ht hvm hw hB hz1 hk1 hS => ?_)
  obtain ⟨hP1, hK1, hD1⟩ := hB
  rw [ht] at hP1
  exact kk H1 locs1 ⟨same_P w.1 w.2.1 hC hk1 hP1, w.2.1, hS⟩
-- the calls
theorem k_pre (X : cx p m c cc nL s args Ts own D tys) (w : wd D A H0 H locs ws) {isC : List Nat} (hC : isC.map (fun i => ws[i]?) = cin.map some) (hnd : va_nd isC = true) {av : List Value} : PreS s H (va_Pc av (cpre D tys cin H.size)) av :=
  ⟨cpre_blind, fun U hU hW => ⟨rfl, by rw [hU], by rw [hU]; exact sub_P w.1 hC, va_K.moved hW.alike X.2.1, TX.warm hW X.2.2, (w.2.1.sub isC hnd hC).weaken (fun _ _ _ _ => trivial)⟩⟩
theorem k_runV (X : cx p m c cc nL s args Ts own D tys) (w : wd D A H0 H locs ws) {y : MethodName} {wsy ws9 : List Cond} {rm : Room} {b : Nat} {As : List Value} {Qc : Array Value → State → Outcome → State → Prop} {free : Addr → Prop} (hM : Met l y wsy rm (va_Pc (.ref b :: As) (cpre D tys cin H.size)) Qc 0 0 free) {C : String} {index : Nat} {bytes : ByteArray} {maxL : Nat} {ret : Option FieldType} (hG : GoodIn Ts (wsV own index C y wsy)) (hw : wsy = Cond.code y bytes maxL ret :: ws9) (hrc : rm.cells = 0) (hrs : rm.slots = 0) (n : Nat) (hd : y.cls = C ∧ y.cls ≠ "java/lang/invoke/MethodHandle" ∧ y.cls ≠ "java/lang/invoke/VarHandle" ∧ (parseMethodDescriptor y.desc).map (fun d => d.parameters.length) = some n) (hR : rm.frames + 1 ≤ R.frames ∧ 8 + (maxL + 11) + rm.locals ≤ R.locals)
    (isC : List Nat) (hC : isC.map (fun i => ws[i]?) = cin.map some) (hnd : va_nd isC = true) (q0 ci : Nat) {q : vw_C} {fs : List Value} (hc : vwCl[ci]? = some q) (hq : q.1 = C) (he : ws[q0]? = some (b, .inr (ci, fs))) (hn : As.length = n) (hls : ls.size = nL) (hstack : st0 = As.reverse ++ .ref b :: rest) (hst : (rest.map fun v => v.category).sum ≤ 8) (hdg : decode cc pc = .ok (.invokevirtual index, 3)) (hf : cells + 0 ≤ R.cells ∧ slots + 0 ≤ R.slots) :
    va_Run p l e R s m args below meth c H locs cells slots 0 0 (F0 m pc ls st0) rest (Qc (Value.ref b :: As).toArray) free := by
  have hp := k_pre X w hC hnd (av := .ref b :: As)
  refine va_runV X.1 hM (cwV n X.1.2.2.2.2 hG hw hrc hrs hd hR) ⟨hp.1, ?_, hp.2⟩ rfl hn hls hstack (lv_room hst) hdg hf
  have h := va_recv X.2.1 w.1 hc he
  rw [hq] at h
  exact h
theorem k_runS (X : cx p m c cc nL s args Ts own D tys) (w : wd D A H0 H locs ws) {y : MethodName} {wsy ws9 : List Cond} {rm : Room} {As : List Value} {Qc : Array Value → State → Outcome → State → Prop} {free : Addr → Prop} (hM : Met l y wsy rm (va_Pc As (cpre D tys cin H.size)) Qc 0 0 free) {index : Nat} {bytes : ByteArray} {maxL : Nat} {ret : Option FieldType} (hG : GoodIn Ts (va_wsS own index y wsy)) (hw : wsy = Cond.code y bytes maxL ret :: ws9) (hrc : rm.cells = 0) (hrs : rm.slots = 0) (n : Nat) {C : String} (hd : y.cls = C ∧ y.cls ≠ "java/lang/invoke/MethodHandle" ∧ y.cls ≠ "java/lang/invoke/VarHandle" ∧ (parseMethodDescriptor y.desc).map (fun d => d.parameters.length) = some n) (hR : rm.frames + 1 ≤ R.frames ∧ 8 + (maxL + 11) + rm.locals ≤ R.locals)
    (isC : List Nat) (hC : isC.map (fun i => ws[i]?) = cin.map some) (hnd : va_nd isC = true) (hn : As.length = n) (hls : ls.size = nL) (hstack : st0 = As.reverse ++ rest) (hst : (rest.map fun v => v.category).sum ≤ 8) (hdg : decode cc pc = .ok (.invokestatic index, 3)) (hf : cells + 0 ≤ R.cells ∧ slots + 0 ≤ R.slots) :
    va_Run p l e R s m args below meth c H locs cells slots 0 0 (F0 m pc ls st0) rest (Qc As.toArray) free :=
  va_runS X.1 hM (va_cwS n X.1.2.2.2.2 hG hw hrc hrs hd.2 hR) (k_pre X w hC hnd) rfl hn hls hstack (lv_room hst) hdg hf
theorem k_runSN (X : cx p m c cc nL s args Ts own D tys) (w : wd D A H0 H locs ws) {y : MethodName} {wsy ws9 : List Cond} {rm : Room} {As : List Value} {Qc : Array Value → State → Outcome → State → Prop} {free : Addr → Prop} (hM : Met l y wsy rm (va_Pc As (cpre D tys cin H.size)) Qc 0 0 free) {index : Nat} {host : String} {bytes : ByteArray} {maxL : Nat} {ret : Option FieldType} (hG : GoodIn Ts wsy) (hl : Cond.methodLinkNest own index y host ∈ txw) (hstat : Cond.static y ∈ Ts) (hini : Cond.initialized y.cls ∈ Ts) (hw : wsy = Cond.code y bytes maxL ret :: ws9) (hrc : rm.cells = 0) (hrs : rm.slots = 0) (n : Nat) {C : String} (hd : y.cls = C ∧ y.cls ≠ "java/lang/invoke/MethodHandle" ∧ y.cls ≠ "java/lang/invoke/VarHandle" ∧ (parseMethodDescriptor y.desc).map (fun d => d.parameters.length) = some n) (hR : rm.frames + 1 ≤ R.frames ∧ 8 + (maxL + 11) + rm.locals ≤ R.locals)
    (isC : List Nat) (hC : isC.map (fun i => ws[i]?) = cin.map some) (hnd : va_nd isC = true) (hn : As.length = n) (hls : ls.size = nL) (hstack : st0 = As.reverse ++ rest) (hst : (rest.map fun v => v.category).sum ≤ 8) (hdg : decode cc pc = .ok (.invokestatic index, 3)) (hf : cells + 0 ≤ R.cells ∧ slots + 0 ≤ R.slots) :
    va_Run p l e R s m args below meth c H locs cells slots 0 0 (F0 m pc ls st0) rest (Qc As.toArray) free :=
  va_runSN X.1 hM ⟨va_cnB n X.1.2.2.2.2 hG hw hrc hrs (X.2.2 _ hl) (X.1.2.2.2.2 _ hini) hd.2 hR, X.1.2.2.2.2 _ hstat, trivial⟩ (k_pre X w hC hnd) rfl hn hls hstack (lv_room hst) hdg hf
theorem k_copy (X : cx p m c cc nL s args Ts own D tys) (hls : ls.size = nL) {index : Nat} (h1 : Cond.methodLink own index arraycopyName ∈ Ts) (h2 : Cond.native arraycopyName ∈ Ts) (h3 : Cond.static arraycopyName ∈ Ts) (h4 : Cond.initialized "java/lang/System" ∈ Ts) (w : wd D A H0 H locs ws) (q0 q1 t0 : Nat) {a0 : Nat} {cA : ClassId} {n k k2 : Nat} {f g : Nat → Int32} (he0 : ws[q0]? = some (a0, .inl (cA, n, .inl (cut n k f)))) (he1 : ws[q1]? = some (a, .inl (cA, n, .inl (cut n k2 g)))) (ht : tys[t0]? = some (cA, .int)) {n' : Int32} (hn : n' = nI n) (hn2 : n < 2 ^ 31) (hframes : 1 ≤ R.frames) (hlocals : (rest.map fun v => v.category).sum + (nativeFrameWords "java/lang/System" "arraycopy" 5 + 11) ≤ R.locals) (hws : ws.set q1 (a, .inl (cA, n, .inl (cut n k f))) = ws2) (hdg : decode cc pc = .ok (.invokestatic index, 3))
    (kk : ∀ (H1 : Heap) (locs1 : List Loc), wd D A H0 H1 locs1 ws2 → W p l e R s m args below meth c H1 locs1 cells slots Q (F0 m (pc + 3) ls rest)) : W p l e R s m args below meth c H locs cells slots Q (F0 m pc ls (.int n' :: .int 0 :: .ref a :: .int 0 :: .ref a0 :: rest)) := by
  obtain ⟨⟨hx, hb, hml, hown, hts⟩, hK, -⟩ := X
  have e0 : (0 : Int32).toNatClampNeg = 0 := by decide
  have en : n'.toNatClampNeg = n := by rw [hn, nI_clamp hn2]
  refine va_copyi hx hb (by rw [hml, hls]) hown (hts _ h1) (hts _ h2) (hts _ h3) (hts _ h4) hK w.1 w.2.1 w.2.2 q0 q1 t0 t0 he0 he1 ht ht rfl (by decide) (by decide) (by rw [hn]; exact nI_pos hn2) (by rw [e0, en]; omega) (by rw [e0, en]; omega) (fun i _ => rfl) hframes hlocals hdg ?_
  intro H1 locs1 h1 h2 h3
  rw [e0, en, cut_cpy, hws] at h1 h2
  exact kk H1 locs1 ⟨h1, h2, h3⟩
end KITC
