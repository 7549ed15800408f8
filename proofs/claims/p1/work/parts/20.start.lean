theorem q_zc {f f' : Nat → va_E} {a i : Nat} (h : f' a = f a) : q_z f' a i = q_z f a i := by
  show q_iv (q_vE (f' a) i) = q_iv (q_vE (f a) i)
  rw [h]
theorem q_rc {f f' : Nat → va_E} {a i : Nat} (h : f' a = f a) : q_r f' a i = q_r f a i := by
  show q_rv (q_vE (f' a) i) = q_rv (q_vE (f a) i)
  rw [h]
theorem n_arrP {args : Array Value} {s : State} (ty : FieldType) (h : (Cond.arrayClass ty).before args s = true) (hRA : ∀ cA, va_RA s cA ty = (s.vm.findClass ("[" ++ ty.toString) = some cA)) : ∃ cA, ArrOfT s cA ty ∧ va_RA s cA ty := by
  obtain ⟨c, k, comp, h1, h2, h3⟩ := Cond.arrayClass_spec h
  exact ⟨c, fun n z => ⟨fun k h => (by cases h), k, h2, comp, h3⟩, by rw [hRA]; exact h1⟩
theorem n_arrO {args : Array Value} {s : State} (C : String) (h : (Cond.arrayOver (.object C)).before args s = true) : ∃ cA, ArrOfT s cA (.object C) ∧ va_RA s cA (.object C) := by
  obtain ⟨comp, c, k, h1, -, h2, h3, h4⟩ := Cond.arrayOver_spec h
  exact ⟨c, fun n z => ⟨fun k h => (by cases h), k, h2, comp, h3⟩, k, comp, h2, h3, h1, h4⟩
theorem q_tb (i : Nat) {w : Cond} {args : Array Value} {s : State} (hts : ∀ w ∈ lw_tbl, w.before args s = true) (h : lw_tbl[i]? = some w) : w.before args s = true := hts w (List.mem_of_getElem? h)
theorem q_xs_in : ∀ t ∈ q_xs, Cond.stringRef RX11 t.1 t.2 ∈ lw_tbl ∧ Cond.exactly (.string RX11 t.1) "java/lang/String" ∈ flatC (Jvm.Cond.and given_1 narrow_1) := by decide +kernel
theorem q_xw_in : ∀ w ∈ q_xw, w ∈ lw_tbl ∧ w.onTables = true := by decide +kernel
theorem q_xnc_in : ∀ t ∈ q_xnc, Cond.not (.castable t.1 t.2) ∈ flatC (Jvm.Cond.and given_1 narrow_1) := by decide +kernel
theorem q_xst_in : (Cond.isRef (.static Bundle.tN "UNASSIGNED_STACK" Bundle.steD) ∈ flatC (Jvm.Cond.and given_1 narrow_1) ∧ Cond.isRef (.static Bundle.tN "SUPPRESSED_SENTINEL" Bundle.listD) ∈ flatC (Jvm.Cond.and given_1 narrow_1)) ∧ (Cond.laysStatic Bundle.tN "UNASSIGNED_STACK" Bundle.steD ∈ lw_tbl ∧ Cond.laysStatic Bundle.tN "SUPPRESSED_SENTINEL" Bundle.listD ∈ lw_tbl) ∧ Cond.initialized Bundle.tN ∈ lw_tbl := by decide +kernel
theorem q_nw_in : ∀ w ∈ q_nw, Cond.methodLinkNest w.1 w.2.1 w.2.2 "WakeVillage" ∈ lw_tbl := by decide +kernel
theorem q_xstart {b : Addr} {s : State} {A : Nat → Prop} (hts : ∀ w ∈ lw_tbl, w.before #[Value.ref b] s = true) (hg : (Jvm.Cond.and given_1 narrow_1).before #[Value.ref b] s = true) (hA : ∀ a : Nat, a < s.heap.size → ¬ A a) : q_X A s := by
  have hs := flat_of_before _ hg
  obtain ⟨⟨x1, x2⟩, ⟨x3, x4⟩, x5⟩ := q_xst_in
  refine ⟨vx_Zqof (hts _ x3) (hts _ x5) (hs _ x1) hA, vx_Zqof (hts _ x4) (hts _ x5) (hs _ x2) hA, fun t ht => ?_, fun w hw => va_Nw.of (q_xw_in w hw).2 (hts _ (q_xw_in w hw).1), fun t ht => va_Nc.of (hs _ (q_xnc_in t ht))⟩
  obtain ⟨h1, h2⟩ := q_xs_in t ht
  obtain ⟨a, -, -, -, ha, -⟩ := Cond.exactly_spec (hs _ h2)
  exact ⟨a, vk_R.of (hts _ h1) ha⟩
