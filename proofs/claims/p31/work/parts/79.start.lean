/-! What lies outside, out of the words of the start. -/
theorem SA_of {args : Array Value} {s : State} {C n : String} {L : Nat} {f : Nat → Int32} {cI : ClassId} {A : Nat → Prop} (hL : L < 2 ^ 31) (hA : ∀ a : Nat, a < s.heap.size → ¬ A a) (hlay : (Cond.laysStatic C n "[I").before args s = true) (hini : (Cond.initialized C).before args s = true) (harr : (Cond.arrayOf (.static C n "[I") .int).before args s = true) (hlen : (Cond.eq (.length (.static C n "[I")) (.int (Int32.ofNat L))).before args s = true) (hel : ∀ j : Nat, j < L → (Cond.eq (.elem (.static C n "[I") (.int (Int32.ofNat j))) (.int (f j))).before args s = true) (hex : (Cond.exactly (.static C n "[I") "[I").before args s = true) (hcI : s.vm.findClass "[I" = some cI) : ∃ b, SA C n b L f cI A s s.heap := by
  have hv := va_eqt hlen
  obtain ⟨t, cell, ht, hat, hv2⟩ := Term.length_spec hv
  have hsz : cell.slots.size < 2 ^ 31 := by
    simp only [Term.eval, Option.bind_eq_bind] at hv ht
    simp only [ht, hat, Option.bind_some] at hv
    by_cases hlt : cell.slots.size < 2147483648
    · exact hlt
    · simp [hlt] at hv
  obtain ⟨hcell, hkn, -, -⟩ := State.arrayAt?_spec hat
  obtain ⟨hof, -⟩ := Cond.arrayOf_spec harr ht hcell
  have hsize : cell.slots.size = L := by
    have e := (Value.int.inj hv2).symm
    have e2 : (nI cell.slots.size).toInt = (nI L).toInt := congrArg Int32.toInt e
    rw [nI_toInt hsz, nI_toInt hL] at e2
    omega
  obtain ⟨a2, c2, cell2, k2, x1, x2, x3, -, -, x4, -⟩ := Cond.exactly_spec hex
  cases ht.symm.trans x1
  cases hcell.symm.trans x3
  cases hcI.symm.trans x2
  refine ⟨t, va_Zref hlay hini ht hA, ⟨cell, hcell, hof, hkn, hsize, fun j hj => ?_⟩, ⟨cell, hcell, x4⟩, hA t (Array.getElem?_eq_some_iff.mp hcell).1⟩
  obtain ⟨a, i, cell3, h1, h2, h3, h4, h5⟩ := Term.elem_spec (va_eqt (hel j hj))
  cases ht.symm.trans h1
  cases hat.symm.trans h3
  have hi : i = Int32.ofNat j := by
    have e : (Term.int (Int32.ofNat j)).eval args s none [] s = some (.int (Int32.ofNat j)) := rfl
    cases h2.symm.trans e
    rfl
  have hc : i.toNatClampNeg = j := by rw [hi]; exact Int32.toNatClampNeg_ofNat_of_lt (Nat.lt_trans hj hL)
  rw [hc] at h5
  exact h5
theorem txw_tbl : ∀ w ∈ txw, w ∈ lw_tbl := by decide +kernel
theorem txw_tab : ∀ w ∈ txw, w.onTables = true := by decide +kernel
theorem dcX_tbl : ∀ x ∈ dcX, Cond.declares x ∈ lw_tbl := by decide +kernel
theorem strX_tbl : ∀ q ∈ strX, Cond.stringRef RX5 q.1 q.2 ∈ lw_tbl := by decide +kernel
theorem strX_g : ∀ q ∈ strX, Cond.exactly (.string RX5 q.1) "java/lang/String" ∈ flatC (Jvm.Cond.and given_1 narrow_1) := by decide +kernel
theorem ncX_g : ∀ q ∈ ncX, Cond.not (.castable q.1 q.2) ∈ flatC (Jvm.Cond.and given_1 narrow_1) := by decide +kernel
theorem fw_g : ∀ j, j < 6 → Cond.eq (.elem (.static RX4 "FIRST_WEIGHTS" "[I") (.int (Int32.ofNat j))) (.int (cut 6 19 z0 j)) ∈ flatC (Jvm.Cond.and given_1 narrow_1) := by decide +kernel
theorem fs_g : ∀ j, j < 4 → Cond.eq (.elem (.static RX3 "FIRST_SETTINGS" "[I") (.int (Int32.ofNat j))) (.int (cut 4 12 z0 j)) ∈ flatC (Jvm.Cond.and given_1 narrow_1) := by decide +kernel
theorem ls_g : ∀ j, j < 4 → Cond.eq (.elem (.static RX3 "LEAST_SETTINGS" "[I") (.int (Int32.ofNat j))) (.int (lsF j)) ∈ flatC (Jvm.Cond.and given_1 narrow_1) := by decide +kernel
theorem ms_g : ∀ j, j < 4 → Cond.eq (.elem (.static RX3 "MOST_SETTINGS" "[I") (.int (Int32.ofNat j))) (.int (msF j)) ∈ flatC (Jvm.Cond.and given_1 narrow_1) := by decide +kernel
set_option maxHeartbeats 4000000 in
theorem start_facts {p : Program} {s : State} {m : MethodId} {meth : Method} {c : Code} {b L : Nat} {xs : Nat → Int32} (C0 : lw_At p s m meth c b L xs) : ∃ (D : va_G) (cI cJ cO : ClassId) (o : Nat → Nat), va_K D vwCl (TY cI cJ cO) s ∧ TX s ∧ OX o cI (fun q => s.heap.size ≤ q) s s.heap := by
  obtain ⟨hx, hb, hr, hml, hown, hts, hX, hbl, hlocks, hgv⟩ := C0
  have hs := flat_of_before _ hgv
  have hA : ∀ a : Nat, a < s.heap.size → ¬ (fun q : Nat => s.heap.size ≤ q) a := fun a h => Nat.not_le.mpr h
  obtain ⟨c0, i0, hK0⟩ := u_known (C := RX0) (T := TX0) (N := 9) (n := 9) hts inX0 (hts (.instantiable RX0 9) (by decide +kernel))
  obtain ⟨c1, i1, hK1⟩ := u_known (C := RX1) (T := TX1) (N := 2) (n := 2) hts inX1 (hts (.instantiable RX1 2) (by decide +kernel))
  obtain ⟨c2, i2, hK2⟩ := u_known (C := RX2) (T := TX2) (N := 3) (n := 3) hts inX2 (hts (.instantiable RX2 3) (by decide +kernel))
  obtain ⟨c3, i3, hK3⟩ := u_known (C := RX3) (T := TX3) (N := 7) (n := 7) hts inX3 (hts (.instantiable RX3 7) (by decide +kernel))
  obtain ⟨c4, i4, hK4⟩ := u_known (C := RX4) (T := TX4) (N := 11) (n := 11) hts inX4 (hts (.instantiable RX4 11) (by decide +kernel))
  obtain ⟨c5, i5, hK5⟩ := u_known (C := RX5) (T := TX5) (N := 6) (n := 6) hts inX5 (hts (.instantiable RX5 6) (by decide +kernel))
  obtain ⟨dC, dI, hKc⟩ : ∃ (dC : Nat → ClassId) (dI : Nat → Nat → Nat), ∀ (k : Nat) (q : vw_C), vwCl[k]? = some q → u_Kn s q.1 q.2.1 q.2.2 (dC k) (dI k) := by
    refine ⟨fun k => if k = 0 then c0 else if k = 1 then c1 else if k = 2 then c2 else if k = 3 then c3 else if k = 4 then c4 else c5, fun k => if k = 0 then i0 else if k = 1 then i1 else if k = 2 then i2 else if k = 3 then i3 else if k = 4 then i4 else i5, ?_⟩
    intro k q hq
    match k, hq with
    | 0, hq => cases hq; exact hK0
    | 1, hq => cases hq; exact hK1
    | 2, hq => cases hq; exact hK2
    | 3, hq => cases hq; exact hK3
    | 4, hq => cases hq; exact hK4
    | 5, hq => cases hq; exact hK5
    | k + 6, hq => simp [vwCl] at hq
  obtain ⟨cI, kI, compI, f1, f2, f3⟩ := Cond.arrayClass_spec (hts (.arrayClass .int) (by decide +kernel))
  have hao := hts (.arrayOver (.object RX3)) (by decide +kernel)
  obtain ⟨comp, cO, kO, o1, o2, o3, o4, o5⟩ := Cond.arrayOver_spec hao
  have hcI : s.vm.findClass "[I" = some cI := f1
  obtain ⟨fw, hfw⟩ := SA_of (C := RX4) (n := "FIRST_WEIGHTS") (L := 6) (f := cut 6 19 z0) (by decide) hA (hts _ (by decide +kernel)) (hts _ (by decide +kernel)) (hs _ (by decide +kernel)) (hs _ (by decide +kernel)) (fun j hj => hs _ (fw_g j hj)) (hs _ (by decide +kernel)) hcI
  obtain ⟨fs, hfs⟩ := SA_of (C := RX3) (n := "FIRST_SETTINGS") (L := 4) (f := cut 4 12 z0) (by decide) hA (hts _ (by decide +kernel)) (hts _ (by decide +kernel)) (hs _ (by decide +kernel)) (hs _ (by decide +kernel)) (fun j hj => hs _ (fs_g j hj)) (hs _ (by decide +kernel)) hcI
  obtain ⟨la, hla⟩ := SA_of (C := RX3) (n := "LEAST_SETTINGS") (L := 4) (f := lsF) (by decide) hA (hts _ (by decide +kernel)) (hts _ (by decide +kernel)) (hs _ (by decide +kernel)) (hs _ (by decide +kernel)) (fun j hj => hs _ (ls_g j hj)) (hs _ (by decide +kernel)) hcI
  obtain ⟨mo, hmo⟩ := SA_of (C := RX3) (n := "MOST_SETTINGS") (L := 4) (f := msF) (by decide) hA (hts _ (by decide +kernel)) (hts _ (by decide +kernel)) (hs _ (by decide +kernel)) (hs _ (by decide +kernel)) (fun j hj => hs _ (ms_g j hj)) (hs _ (by decide +kernel)) hcI
  have hstr : ∀ q : Nat × String, ∃ a : Nat, q ∈ strX → (Term.string RX5 q.1).eval #[Value.ref b] s none [] s = some (.ref a) := by
    intro q
    by_cases hq : q ∈ strX
    · obtain ⟨a, -, -, -, h1, -⟩ := Cond.exactly_spec (hs _ (strX_g q hq))
      exact ⟨a, fun _ => h1⟩
    · exact ⟨0, fun h => absurd h hq⟩
  obtain ⟨sa, hsa⟩ := Classical.axiomOfChoice hstr
  have htx : ∀ q ∈ strX, 4 ≤ q.1 := by decide +kernel
  have hinj : ∀ q ∈ strX, ∀ r ∈ strX, q.1 = r.1 → q = r := by decide +kernel
  obtain ⟨o, ho⟩ : ∃ o : Nat → Nat, (o 0 = fw ∧ o 1 = fs ∧ o 2 = la ∧ o 3 = mo) ∧ ∀ q ∈ strX, o q.1 = sa q := by
    refine ⟨fun k => if k = 0 then fw else if k = 1 then fs else if k = 2 then la else if k = 3 then mo else match strX.find? (fun q => q.1 == k) with | some q => sa q | none => 0, ⟨rfl, rfl, rfl, rfl⟩, fun q hq => ?_⟩
    have h4 := htx q hq
    show (if q.1 = 0 then fw else if q.1 = 1 then fs else if q.1 = 2 then la else if q.1 = 3 then mo else match strX.find? (fun r => r.1 == q.1) with | some q => sa q | none => 0) = sa q
    rw [if_neg (by omega), if_neg (by omega), if_neg (by omega), if_neg (by omega)]
    cases hf : strX.find? (fun r => r.1 == q.1) with
    | none => 
      have := List.find?_eq_none.mp hf q hq
      simp at this
    | some r =>
      have h1 := List.find?_some hf
      have h2 := List.mem_of_find?_eq_some hf
      have h3 : r.1 = q.1 := by simpa using h1
      rw [hinj r h2 q hq h3]
  obtain ⟨⟨e0, e1, e2, e3⟩, ho⟩ := ho
  refine ⟨(dC, dI), cI, cI, cO, o, ⟨hKc, fun k q hq => ?_⟩, fun w hw => va_Nw.of (txw_tab w hw) (hts w (txw_tbl w hw)), ?_, ?_, fun q hq => ?_, ?_, ?_, ?_, ?_, fun q hq => va_Nc.of (hs _ (ncX_g q hq)), fun x hx => va_Nw.of rfl (hts _ (dcX_tbl x hx)), va_AO.of hao⟩
  · match k, hq with
    | 0, hq => cases hq; exact ⟨fun N z => ⟨(fun k h => by cases h), kI, f2, compI, f3⟩, f1⟩
    | 1, hq => cases hq; exact ⟨fun N z => ⟨(fun k h => by cases h), kO, o3, comp, o4⟩, kO, comp, o3, o4, o1, o5⟩
    | k + 2, hq => simp [TY] at hq
  · exact vx_Zqof (hts _ (by decide +kernel)) (hts _ (by decide +kernel)) (hs _ (by decide +kernel)) hA
  · exact vx_Zqof (hts _ (by decide +kernel)) (hts _ (by decide +kernel)) (hs _ (by decide +kernel)) hA
  · rw [ho q hq]
    exact vk_R.of (hts _ (strX_tbl q hq)) (hsa q hq)
  · rw [e0]; exact hfw
  · rw [e1]; exact hfs
  · rw [e2]; exact hla
  · rw [e3]; exact hmo
