/-! Rows of the law: its script, calls of its helpers, calls that answer doubles and longs. -/
theorem lg_self (x : Int64) : lg_cmp x x = 0 := by
  unfold lg_cmp
  rw [if_neg (fun h => by rw [gt_iff_lt, Int64.lt_iff_toInt_lt] at h; omega), if_pos rfl]
theorem cmp0 {x y : Int64} (h : x = y) : lg_cmp x y = 0 := by rw [h]; exact lg_self y
theorem oL_of {x y : Int32} (h : x = y) : oL x = y.toInt64 := by rw [h]
section LAWK
variable {p : Program} {l : Launch} {e : Env} {R : Room} {s : State} {m : MethodId} {args : Array Value} {below : List Frame} {meth : Method} {c : Code} {H H0 : Heap} {locs : List Loc} {cells slots : Nat} {Q : State → Prop} {A : Nat → Prop} {D : va_G} {tys : List (ClassId × FieldType)} {ws ws2 cin cout wr es es2 B B2 ce co : va_W} {cc : ByteArray} {nL : Nat} {Ts : List Cond} {own : String} {pc : Nat} {ls : Array Slot} {rest st0 : List Value} {a : Nat} {o : Nat → Nat} {cI : ClassId} {mc ms : Nat}
theorem k_sld {b L j : Nat} {xs : Nat → Int32} (X : cx p m c cc nL s args Ts own D tys) (hX : va_X b L xs s s.heap) (hbl : b < s.heap.size) (hbA : ¬ A b) (w : wd D A s.heap H locs ws) (hj : j < L) (hL : L < 2 ^ 31) {i v : Int32} (hi : i = nI j) (hv : xs j = v) (hdg : decode cc pc = .ok (.iaload, 1))
    (kk : W p l e R s m args below meth c H locs cells slots Q (F0 m (pc + 1) ls (.int v :: rest))) : W p l e R s m args below meth c H locs cells slots Q (F0 m pc ls (.int i :: .ref b :: rest)) := by
  obtain ⟨⟨hx, hb, hml, hown, hts⟩, hK, -⟩ := X
  refine va_sld hx hb hX hbl hbA w.2.2 (k_in hj hL hi) hdg ?_
  rw [hi, nI_clamp (by omega), hv]
  exact kk
/-- a call of a helper with handlers -/
theorem k_runSW (X : cx p m c cc nL s args Ts own D tys) (w : wd D A s.heap H locs ws) (ox : OX o cI A s s.heap) (hA : ∀ q : Nat, s.heap.size ≤ q → A q) {y : MethodName} {wsy ws9 : List Cond} {rm : Room} {As : List Value} {Qc : Array Value → State → Outcome → State → Prop} {free : Addr → Prop} (hM : Met l y wsy rm (va_Pc As (cpreO D tys cin H.size o cI)) Qc mc ms free) {index : Nat} {bytes : ByteArray} {maxL : Nat} {ret : Option FieldType} {hh : List (Nat × Nat × Nat × Nat)} (hG : GoodIn Ts (va_wsS own index y wsy)) (hw : wsy = Cond.codeWith y bytes maxL ret hh :: ws9) (hrc : rm.cells = mc) (hrs : rm.slots = ms) (n : Nat) {C : String} (hd : y.cls = C ∧ y.cls ≠ "java/lang/invoke/MethodHandle" ∧ y.cls ≠ "java/lang/invoke/VarHandle" ∧ (parseMethodDescriptor y.desc).map (fun d => d.parameters.length) = some n) (hR : rm.frames + 1 ≤ R.frames ∧ 8 + (maxL + 11) + rm.locals ≤ R.locals)
    (isC : List Nat) (hC : isC.map (fun i => ws[i]?) = cin.map some) (hnd : va_nd isC = true) (hn : As.length = n) (hls : ls.size = nL) (hstack : st0 = As.reverse ++ rest) (hst : (rest.map fun v => v.category).sum ≤ 8) (hdg : decode cc pc = .ok (.invokestatic index, 3)) (hf : cells + mc ≤ R.cells ∧ slots + ms ≤ R.slots) :
    va_Run p l e R s m args below meth c H locs cells slots mc ms (F0 m pc ls st0) rest (Qc As.toArray) free :=
  vx_runSW X.1 hM (vx_cwSW n X.1.2.2.2.2 hG hw hrc hrs hd.2 hR) (kO_pre X w ox hA hC hnd) rfl hn hls hstack (lv_room hst) hdg hf
theorem k_ciBm {av : Array Value} {r : Int32} (hr : va_Run p l e R s m args below meth c H locs cells slots mc ms (F0 m pc ls st0) rest (va_Qi (fun (r2 : Int32) (_ : Unit) => r2 = r) (cpost D tys (ce ++ B) H.size (co ++ B2)) (va_A (ce ++ B) H.size) av) (va_A (ce ++ B) H.size)) (w : wd D A H0 H locs (es ++ B)) (hA : ∀ q : Nat, H0.size ≤ q → A q) (isC isR : List Nat) (hC : isC.map (fun i => es[i]?) = ce.map some) (hR : isR.map (fun i => es[i]?) = wr.map some) (hn : va_nd isR = true) (hdis : ∀ i ∈ isR, i ∉ isC) (pm : List Nat) (hp1 : va_nd pm = true) (hp2 : pm.map (fun i => (wr ++ co)[i]?) = es2.map some)
    (kk : ∀ (H1 : Heap) (locs1 : List Loc), wd D A H0 H1 locs1 (es2 ++ B2) → W p l e R s m args below meth c H1 locs1 (cells + mc) (slots + ms) Q (F0 m (pc + 3) ls (.int r :: rest))) : W p l e R s m args below meth c H locs cells slots Q (F0 m pc ls st0) := by
  have hF := va_free w.2.1 w.2.2 hA _ (tl_R hC)
  refine va_calli hr w.2.2 (fun q _ h => hF q h) hF (fun r2 u t H1 locs1 ht hvm hw hB hz1 hk1 hS => ?_)
  obtain ⟨hP1, hK1, hD1⟩ := hB
  rw [ht] at hP1
  rw [hw]
  obtain ⟨hP, hD⟩ := tl_joinB w hA hC hR hn hdis hp1 hp2 hk1 hP1 hD1
  exact kk H1 locs1 ⟨hP, hD, hS⟩
theorem k_clT {av : Array Value} {r : Int64} (hr : va_Run p l e R s m args below meth c H locs cells slots 0 0 (F0 m pc ls st0) rest (va_Ql (fun (r2 : Int64) (_ : Unit) => r2 = r) (cpost D tys cin H.size cout) (va_A cin H.size) av) (va_A cin H.size)) (w : wd D A H0 H locs (es ++ B)) (hA : ∀ q : Nat, H0.size ≤ q → A q) (isC isR : List Nat) (hC : isC.map (fun i => es[i]?) = cin.map some) (hR : isR.map (fun i => es[i]?) = wr.map some) (hn : va_nd isR = true) (hdis : ∀ i ∈ isR, i ∉ isC) (pm : List Nat) (hp1 : va_nd pm = true) (hp2 : pm.map (fun i => (wr ++ cout)[i]?) = es2.map some)
    (kk : ∀ (H1 : Heap) (locs1 : List Loc), wd D A H0 H1 locs1 (es2 ++ B) → W p l e R s m args below meth c H1 locs1 cells slots Q (F0 m (pc + 3) ls (.long r :: rest))) : W p l e R s m args below meth c H locs cells slots Q (F0 m pc ls st0) := by
  have hF := va_free w.2.1 w.2.2 hA isC (tl_C hC)
  refine va_calll hr w.2.2 (fun q _ h => hF q h) hF (fun r2 u t H1 locs1 ht hvm hw hB hz1 hk1 hS => ?_)
  obtain ⟨hP1, hK1, hD1⟩ := hB
  rw [ht] at hP1
  rw [hw]
  obtain ⟨hP, hD⟩ := tl_join w hA hC hR hn hdis hp1 hp2 hk1 hP1 hD1
  exact kk H1 locs1 ⟨hP, hD, hS⟩
theorem k_cdT {av : Array Value} {r : UInt64} (hr : va_Run p l e R s m args below meth c H locs cells slots 0 0 (F0 m pc ls st0) rest (va_Qd (fun (r2 : UInt64) (_ : Unit) => r2 = r) (cpost D tys cin H.size cout) (va_A cin H.size) av) (va_A cin H.size)) (w : wd D A H0 H locs (es ++ B)) (hA : ∀ q : Nat, H0.size ≤ q → A q) (isC isR : List Nat) (hC : isC.map (fun i => es[i]?) = cin.map some) (hR : isR.map (fun i => es[i]?) = wr.map some) (hn : va_nd isR = true) (hdis : ∀ i ∈ isR, i ∉ isC) (pm : List Nat) (hp1 : va_nd pm = true) (hp2 : pm.map (fun i => (wr ++ cout)[i]?) = es2.map some)
    (kk : ∀ (H1 : Heap) (locs1 : List Loc), wd D A H0 H1 locs1 (es2 ++ B) → W p l e R s m args below meth c H1 locs1 cells slots Q (F0 m (pc + 3) ls (.double r :: rest))) : W p l e R s m args below meth c H locs cells slots Q (F0 m pc ls st0) := by
  have hF := va_free w.2.1 w.2.2 hA isC (tl_C hC)
  refine va_calld hr w.2.2 (fun q _ h => hF q h) hF (fun r2 u t H1 locs1 ht hvm hw hB hz1 hk1 hS => ?_)
  obtain ⟨hP1, hK1, hD1⟩ := hB
  rw [ht] at hP1
  rw [hw]
  obtain ⟨hP, hD⟩ := tl_join w hA hC hR hn hdis hp1 hp2 hk1 hP1 hD1
  exact kk H1 locs1 ⟨hP, hD, hS⟩
end LAWK
