theorem q_sOof {args : Array Value} {s : State} {tm : Term} {bs : List Int32} {A : Nat → Prop} (hN : bs.length < 2 ^ 31) (hex : (Cond.exactly tm "java/lang/String").before args s = true) (hco : (Cond.eq (.field tm "java/lang/String" "coder" "B") (.int 0)).before args s = true) (har : (Cond.arrayOf (.field tm "java/lang/String" "value" "[B") .byte).before args s = true) (hle : (Cond.eq (.length (.field tm "java/lang/String" "value" "[B")) (.int (Int32.ofNat bs.length))).before args s = true) (hel : ∀ j : Nat, j < bs.length → (Cond.eq (.elem (.field tm "java/lang/String" "value" "[B") (.int (Int32.ofNat j))) (.int (bs.getD j 0))).before args s = true) (hA : ∀ a : Nat, a < s.heap.size → ¬ A a) : ∃ a v : Nat, tm.eval args s none [] s = some (.ref a) ∧ q_sO bs a v A s s.heap := by
  obtain ⟨a, c, cA, kA, q1, q2, q3, q4, q5, q6, -⟩ := Cond.exactly_spec (args := args) (first := s) (o := none) (s := s) (idx := []) (t := tm) (cls := "java/lang/String") hex
  obtain ⟨t, ht, hT⟩ := va_Tof (f := fun j => .int (bs.getD j 0)) (A := A) hN har (va_eqt hle) (fun j hj => va_eqt (hel j hj)) hA
  exact ⟨a, t, q1, ⟨cA, q3, q5, by rw [q6]; exact q2, hA a (Array.getElem?_eq_some_iff.mp q3).1⟩, vk_OFof q1 (va_eqt hco) hA, vk_OFof q1 ht hA, hT⟩
theorem q_ss_in : ∀ i : Nat, i < 15 → Cond.stringRef (q_ss.getD i ("", 0, "")).1 (q_ss.getD i ("", 0, "")).2.1 (q_ss.getD i ("", 0, "")).2.2 ∈ lw_tbl := by decide +kernel
theorem q_sx_in : ∀ i : Nat, i < 15 → Cond.exactly (Term.string (q_ss.getD i ("", 0, "")).1 (q_ss.getD i ("", 0, "")).2.1) "java/lang/String" ∈ flatC (Jvm.Cond.and given_1 narrow_1) ∧ Cond.eq (.field (Term.string (q_ss.getD i ("", 0, "")).1 (q_ss.getD i ("", 0, "")).2.1) "java/lang/String" "coder" "B") (.int 0) ∈ flatC (Jvm.Cond.and given_1 narrow_1) ∧ Cond.arrayOf (.field (Term.string (q_ss.getD i ("", 0, "")).1 (q_ss.getD i ("", 0, "")).2.1) "java/lang/String" "value" "[B") .byte ∈ flatC (Jvm.Cond.and given_1 narrow_1) ∧ Cond.eq (.length (.field (Term.string (q_ss.getD i ("", 0, "")).1 (q_ss.getD i ("", 0, "")).2.1) "java/lang/String" "value" "[B")) (.int (Int32.ofNat (q_sb.getD i []).length)) ∈ flatC (Jvm.Cond.and given_1 narrow_1) := by decide +kernel
theorem q_sl_in : ∀ i : Nat, i < 15 → ∀ j : Nat, j < (q_sb.getD i []).length → Cond.eq (.elem (.field (Term.string (q_ss.getD i ("", 0, "")).1 (q_ss.getD i ("", 0, "")).2.1) "java/lang/String" "value" "[B") (.int (Int32.ofNat j))) (.int ((q_sb.getD i []).getD j 0)) ∈ flatC (Jvm.Cond.and given_1 narrow_1) := by decide +kernel
theorem q_s31 : ∀ i : Nat, i < 15 → (q_sb.getD i []).length < 2 ^ 31 := by decide +kernel
theorem q_sst_in : (Cond.eq (.static "java/lang/String" "COMPACT_STRINGS" "Z") (.int 1) ∈ flatC (Jvm.Cond.and given_1 narrow_1) ∧ Cond.isRef (.static "jdk/internal/util/Preconditions" "SIOOBE_FORMATTER" "Ljava/util/function/BiFunction;") ∈ flatC (Jvm.Cond.and given_1 narrow_1)) ∧ (Cond.laysStatic "java/lang/String" "COMPACT_STRINGS" "Z" ∈ lw_tbl ∧ Cond.laysStatic "jdk/internal/util/Preconditions" "SIOOBE_FORMATTER" "Ljava/util/function/BiFunction;" ∈ lw_tbl) ∧ Cond.initialized "java/lang/String" ∈ lw_tbl ∧ Cond.initialized "jdk/internal/util/Preconditions" ∈ lw_tbl := by decide +kernel
theorem q_ststart {b : Addr} {s : State} {A : Nat → Prop} (hts : ∀ w ∈ lw_tbl, w.before #[Value.ref b] s = true) (hg : (Jvm.Cond.and given_1 narrow_1).before #[Value.ref b] s = true) (hA : ∀ a : Nat, a < s.heap.size → ¬ A a) : ∃ ad : Nat → Nat, q_St ad A s := by
  have hs := flat_of_before _ hg
  obtain ⟨⟨x1, x2⟩, ⟨x3, x4⟩, x5, x6⟩ := q_sst_in
  have h0 : ∀ i : Nat, ∃ q : Nat × Nat, i < 15 → (Term.string (q_ss.getD i ("", 0, "")).1 (q_ss.getD i ("", 0, "")).2.1).eval #[Value.ref b] s none [] s = some (.ref q.1) ∧ q_sO (q_sb.getD i []) q.1 q.2 A s s.heap := by
    intro i
    by_cases hi : i < 15
    · obtain ⟨y1, y2, y3, y4⟩ := q_sx_in i hi
      obtain ⟨a, v, e, h⟩ := q_sOof (q_s31 i hi) (hs _ y1) (hs _ y2) (hs _ y3) (hs _ y4) (fun j hj => hs _ (q_sl_in i hi j hj)) hA
      exact ⟨(a, v), fun _ => ⟨e, h⟩⟩
    · exact ⟨(0, 0), fun h => absurd h hi⟩
  obtain ⟨ad, had⟩ := Classical.axiomOfChoice h0
  refine ⟨fun i => if i < 100 then (ad i).1 else (ad (i - 100)).2, va_Zof (hts _ x3) (hts _ x5) (va_eqt (hs _ x1)) hA, va_Zqof (hts _ x4) (hts _ x6) (hs _ x2) hA, fun i hi => ?_⟩
  obtain ⟨e, h⟩ := had i hi
  have e1 : (if i < 100 then (ad i).1 else (ad (i - 100)).2) = (ad i).1 := if_pos (by omega)
  have e2 : (if 100 + i < 100 then (ad (100 + i)).1 else (ad (100 + i - 100)).2) = (ad i).2 := by rw [if_neg (by omega), show 100 + i - 100 = i by omega]
  show vk_R _ _ _ (if i < 100 then (ad i).1 else (ad (i - 100)).2) s ∧ q_sO _ (if i < 100 then (ad i).1 else (ad (i - 100)).2) (if 100 + i < 100 then (ad (100 + i)).1 else (ad (100 + i - 100)).2) A s s.heap
  rw [e1, e2]
  exact ⟨vk_R.of (hts _ (q_ss_in i hi)) e, h⟩
theorem q_zc {f f' : Nat → va_E} {a i : Nat} (h : f' a = f a) : q_z f' a i = q_z f a i := by
  show q_iv (q_vE (f' a) i) = q_iv (q_vE (f a) i)
  rw [h]
theorem q_rc {f f' : Nat → va_E} {a i : Nat} (h : f' a = f a) : q_r f' a i = q_r f a i := by
  show q_rv (q_vE (f' a) i) = q_rv (q_vE (f a) i)
  rw [h]
theorem n_arrP {args : Array Value} {s : State} (ty : FieldType) (h : (Cond.arrayClass ty).before args s = true) (hRA : ∀ cA, va_RA s cA ty = (s.vm.findClass ("[" ++ ty.toString) = some cA)) : ∃ cA, ArrOfT s cA ty ∧ va_RA s cA ty := by
  obtain ⟨c, k, comp, h1, h2, h3⟩ := Cond.arrayClass_spec h
  exact ⟨c, fun n z => ⟨fun k h => (by cases h), k, h2, comp, h3⟩, by rw [hRA]; exact h1⟩
theorem n_arrO {args : Array Value} {s : State} (C : String) (h : (Cond.arrayOver (.object C)).before args s = true) : ∃ cA, ArrOfT s cA (.object C) ∧ va_RA s cA (.object C) := by
  obtain ⟨comp, c, k, h1, -, h2, h3, h4⟩ := Cond.arrayOver_spec h
  exact ⟨c, fun n z => ⟨fun k h => (by cases h), k, h2, comp, h3⟩, k, comp, h2, h3, h1, h4⟩
theorem q_tb (i : Nat) {w : Cond} {args : Array Value} {s : State} (hts : ∀ w ∈ lw_tbl, w.before args s = true) (h : lw_tbl[i]? = some w) : w.before args s = true := hts w (List.mem_of_getElem? h)
theorem q_xs_in : ∀ t ∈ q_xs, Cond.stringRef RX11 t.1 t.2 ∈ lw_tbl ∧ Cond.exactly (.string RX11 t.1) "java/lang/String" ∈ flatC (Jvm.Cond.and given_1 narrow_1) := by decide +kernel
theorem q_xw_in : ∀ w ∈ q_xw, w ∈ lw_tbl ∧ w.onTables = true := by decide +kernel
theorem q_xnc_in : ∀ t ∈ q_xnc, Cond.not (.castable t.1 t.2) ∈ flatC (Jvm.Cond.and given_1 narrow_1) := by decide +kernel
theorem q_xst_in : (Cond.isRef (.static Bundle.tN "UNASSIGNED_STACK" Bundle.steD) ∈ flatC (Jvm.Cond.and given_1 narrow_1) ∧ Cond.isRef (.static Bundle.tN "SUPPRESSED_SENTINEL" Bundle.listD) ∈ flatC (Jvm.Cond.and given_1 narrow_1)) ∧ (Cond.laysStatic Bundle.tN "UNASSIGNED_STACK" Bundle.steD ∈ lw_tbl ∧ Cond.laysStatic Bundle.tN "SUPPRESSED_SENTINEL" Bundle.listD ∈ lw_tbl) ∧ Cond.initialized Bundle.tN ∈ lw_tbl := by decide +kernel
theorem q_nw_in : ∀ w ∈ q_nw, Cond.methodLinkNest w.1 w.2.1 w.2.2 "WakeVillage" ∈ lw_tbl := by decide +kernel
theorem q_xstart {b : Addr} {s : State} {A : Nat → Prop} (hts : ∀ w ∈ lw_tbl, w.before #[Value.ref b] s = true) (hg : (Jvm.Cond.and given_1 narrow_1).before #[Value.ref b] s = true) (hA : ∀ a : Nat, a < s.heap.size → ¬ A a) : ∃ ad : Nat → Nat, q_X ad A s := by
  have hs := flat_of_before _ hg
  obtain ⟨ad, hst⟩ := q_ststart hts hg hA
  obtain ⟨⟨x1, x2⟩, ⟨x3, x4⟩, x5⟩ := q_xst_in
  refine ⟨ad, vx_Zqof (hts _ x3) (hts _ x5) (hs _ x1) hA, vx_Zqof (hts _ x4) (hts _ x5) (hs _ x2) hA, fun t ht => ?_, fun w hw => va_Nw.of (q_xw_in w hw).2 (hts _ (q_xw_in w hw).1), fun t ht => va_Nc.of (hs _ (q_xnc_in t ht)), hst⟩
  obtain ⟨h1, h2⟩ := q_xs_in t ht
  obtain ⟨a, -, -, -, ha, -⟩ := Cond.exactly_spec (hs _ h2)
  exact ⟨a, vk_R.of (hts _ h1) ha⟩
