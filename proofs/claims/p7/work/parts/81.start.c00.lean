theorem q_kn {args : Array Value} {s : State} (hts : ∀ w ∈ q_al, w.before args s = true) : ∀ (c : Nat) (q : vw_C), vwCl[c]? = some q → ∃ (cC : ClassId) (iS : Nat → Nat), u_Kn s q.1 q.2.1 q.2.2 cC iS := by
  intro c q hq
  have hc : c < 13 := (List.getElem?_eq_some_iff.mp hq).1
  rcases (show c = 0 ∨ c = 1 ∨ c = 2 ∨ c = 3 ∨ c = 4 ∨ c = 5 ∨ c = 6 ∨ c = 7 ∨ c = 8 ∨ c = 9 ∨ c = 10 ∨ c = 11 ∨ c = 12 by omega) with rfl | rfl | rfl | rfl | rfl | rfl | rfl | rfl | rfl | rfl | rfl | rfl | rfl
  · have e := Option.some.inj (show some (RX0, TX0, 7) = some q from hq)
    subst e
    exact u_known hts q_inX0 (hts _ q_h237)
  · have e := Option.some.inj (show some (RX1, TX1, 1) = some q from hq)
    subst e
    exact u_known hts q_inX1 (hts _ q_h281)
  · have e := Option.some.inj (show some (RX2, TX2, 3) = some q from hq)
    subst e
    exact u_known hts q_inX2 (hts _ q_h492)
  · have e := Option.some.inj (show some (RX3, TX3, 5) = some q from hq)
    subst e
    exact u_known hts q_inX3 (hts _ q_h351)
  · have e := Option.some.inj (show some (RX4, TX4, 8) = some q from hq)
    subst e
    exact u_known hts q_inX4 (hts _ q_h377)
  · have e := Option.some.inj (show some (RX5, TX5, 10) = some q from hq)
    subst e
    exact u_known hts q_inX5 (hts _ q_h298)
  · have e := Option.some.inj (show some (RX6, TX6, 2) = some q from hq)
    subst e
    exact u_known hts q_inX6 (hts _ q_h512)
  · have e := Option.some.inj (show some (RX7, TX7, 5) = some q from hq)
    subst e
    exact u_known hts q_inX7 (hts _ q_h230)
  · have e := Option.some.inj (show some (RX8, TX8, 10) = some q from hq)
    subst e
    exact u_known hts q_inX8 (hts _ q_h170)
  · have e := Option.some.inj (show some (RX9, TX9, 3) = some q from hq)
    subst e
    exact u_known hts q_inX9 (hts _ q_h214)
  · have e := Option.some.inj (show some (RX10, TX10, 16) = some q from hq)
    subst e
    exact u_known hts q_inX10 (hts _ q_h287)
  · have e := Option.some.inj (show some (RX11, TX11, 10) = some q from hq)
    subst e
    exact u_known hts q_inX11 (hts _ q_h162)
  · have e := Option.some.inj (show some (RX12, TX12, 41) = some q from hq)
    subst e
    exact u_known hts q_inX12 (hts _ q_h1540)
theorem q_world {args : Array Value} {s : State} (hts9 : ∀ w ∈ lw_tbl, w.before args s = true) : ∃ g : q_G, va_K g.1 vwCl (q_tys g) s := by
  have hts : ∀ w ∈ q_al, w.before args s = true := fun w hw => hts9 w (List.mem_filter.mp hw).1
  have h1 : ∀ c : Nat, ∃ x : ClassId × (Nat → Nat), ∀ q : vw_C, vwCl[c]? = some q → u_Kn s q.1 q.2.1 q.2.2 x.1 x.2 := by
    intro c
    cases hq : vwCl[c]? with
    | none =>
      obtain ⟨x0, i0, -⟩ := q_kn hts 0 (RX0, TX0, 7) rfl
      exact ⟨(x0, i0), fun q h => nomatch h⟩
    | some q =>
      obtain ⟨x, i, h⟩ := q_kn hts c q hq
      exact ⟨(x, i), fun q2 h2 => by cases h2; exact h⟩
  obtain ⟨F, hF⟩ := Classical.axiomOfChoice h1
  obtain ⟨c0, d0⟩ := n_arrP (s := s) .byte (hts _ q_h212) (fun _ => rfl)
  obtain ⟨c1, d1⟩ := n_arrP (s := s) .int (hts _ q_h1673) (fun _ => rfl)
  obtain ⟨c2, d2⟩ := n_arrP (s := s) .long (hts _ q_h1674) (fun _ => rfl)
  obtain ⟨c3, d3⟩ := n_arrP (s := s) .double (hts _ q_h2270) (fun _ => rfl)
  obtain ⟨c4, d4⟩ := n_arrO (s := s) "WakeVillage$Command" (q_tb 236 hts9 (by decide +kernel))
  obtain ⟨c5, d5⟩ := n_arrO (s := s) "WakeVillage$Link" (q_tb 295 hts9 (by decide +kernel))
  obtain ⟨c6, d6⟩ := n_arrO (s := s) "WakeVillage$Message" (q_tb 297 hts9 (by decide +kernel))
  obtain ⟨c7, d7⟩ := n_arrO (s := s) "WakeVillage$Node" (q_tb 293 hts9 (by decide +kernel))
  obtain ⟨c8, d8⟩ := n_arrO (s := s) "WakeVillage$Village" (q_tb 498 hts9 (by decide +kernel))
  refine ⟨((fun c => (F c).1, fun c => (F c).2), fun i => match i with | 0 => c0 | 1 => c1 | 2 => c2 | 3 => c3 | 4 => c4 | 5 => c5 | 6 => c6 | 7 => c7 | _ => c8), fun c q hq => hF c q hq, fun k q hq => ?_⟩
  have hk : k < 9 := (List.getElem?_eq_some_iff.mp hq).1
  rcases (show k = 0 ∨ k = 1 ∨ k = 2 ∨ k = 3 ∨ k = 4 ∨ k = 5 ∨ k = 6 ∨ k = 7 ∨ k = 8 by omega) with rfl | rfl | rfl | rfl | rfl | rfl | rfl | rfl | rfl
  · have e := Option.some.inj (show some (c0, (.byte : FieldType)) = some q from hq)
    subst e
    exact d0
  · have e := Option.some.inj (show some (c1, (.int : FieldType)) = some q from hq)
    subst e
    exact d1
  · have e := Option.some.inj (show some (c2, (.long : FieldType)) = some q from hq)
    subst e
    exact d2
  · have e := Option.some.inj (show some (c3, (.double : FieldType)) = some q from hq)
    subst e
    exact d3
  · have e := Option.some.inj (show some (c4, ((.object "WakeVillage$Command") : FieldType)) = some q from hq)
    subst e
    exact d4
  · have e := Option.some.inj (show some (c5, ((.object "WakeVillage$Link") : FieldType)) = some q from hq)
    subst e
    exact d5
  · have e := Option.some.inj (show some (c6, ((.object "WakeVillage$Message") : FieldType)) = some q from hq)
    subst e
    exact d6
  · have e := Option.some.inj (show some (c7, ((.object "WakeVillage$Node") : FieldType)) = some q from hq)
    subst e
    exact d7
  · have e := Option.some.inj (show some (c8, ((.object "WakeVillage$Village") : FieldType)) = some q from hq)
    subst e
    exact d8
theorem q_env {args : Array Value} {s : State} (hts9 : ∀ w ∈ lw_tbl, w.before args s = true) : q_Env s := ⟨⟨va_AO.of (q_tb 236 hts9 (by decide +kernel)), va_AO.of (q_tb 293 hts9 (by decide +kernel)), va_AO.of (q_tb 295 hts9 (by decide +kernel)), va_AO.of (q_tb 297 hts9 (by decide +kernel)), va_AO.of (q_tb 498 hts9 (by decide +kernel))⟩, fun w hw => va_Nw.of rfl (hts9 _ (q_nw_in w hw))⟩
theorem q_fr2 {g : q_G} {K : Nat → Nat} {L : List Nat} {f : Nat → va_E} (hT : q_Ty g K L f) {a k j b k2 : Nat} {hi : Int} (ha : a ∈ L) (hk : K a = k) (hc : k < 100) (hj : (q_ft k)[j]? = some (2, (k2 : Int), hi)) (e : q_r f a j = b) : b ∈ L ∧ K b = k2 := by
  obtain ⟨_, _, _, _, h1, h2⟩ := q_fr hT ha hk hc hj
  rw [e] at h1 h2
  exact ⟨h1, h2⟩
theorem q_N0 {g : q_G} {s : State} {A : Nat → Prop} (hK : va_K g.1 vwCl (q_tys g) s) : q_N g (fun _ => 0) [] A [] (fun _ => .inr (0, [])) s s.heap [] := by
  have e : ([] : va_W) ++ va_pl [] (fun _ => (.inr (0, []) : va_E)) = [] := rfl
  refine ⟨?_, ?_, hK, va_S.rf, fun a h => nomatch h⟩
  · rw [e]
    exact fun k q h => nomatch h
  · rw [e]
    exact ⟨fun i j x y h => (nomatch h), fun k q h => (nomatch h)⟩
theorem n_PWm {L L2 : List Nat} {f f2 : Nat → va_E} {b : Nat} (h : ∀ a ∈ L, a ∈ L2 ∧ f2 a = f a) (hp : n_PW L f b) : n_PW L2 f2 b := by
  obtain ⟨x0, x1, x2, x3, x4, x5, x6, x7, x8, y0_0, y2_0, y3_0, y4_0, y5_0, y6_0, y6_1, y6_2, y7_0, y7_1, y7_2, y8_0, y8_1, y8_2, h3, h4, h5, h6, h7, h8⟩ := hp
  exact ⟨x0, x1, x2, x3, x4, x5, x6, x7, x8, y0_0, y2_0, y3_0, y4_0, y5_0, y6_0, y6_1, y6_2, y7_0, y7_1, y7_2, y8_0, y8_1, y8_2, h3.mono h, n_kz_tr h h4, n_vl_tr h h5, n_vl_tr h h6, n_vl_tr h h7, n_cj_tr h h8⟩
theorem n_dfX11 : ∀ j, j < 10 → defaultValue (tyX11 j) = vp_V [.null, .null, .null, .null, .null, .null, .null, .null, .null, .int 0] j := fun j hj => by
  rcases (show j = 0 ∨ j = 1 ∨ j = 2 ∨ j = 3 ∨ j = 4 ∨ j = 5 ∨ j = 6 ∨ j = 7 ∨ j = 8 ∨ j = 9 by omega) with rfl | rfl | rfl | rfl | rfl | rfl | rfl | rfl | rfl | rfl <;> rfl
theorem n_dfX12 : ∀ j, j < 41 → defaultValue (tyX12 j) = vp_V [.int 0, .null, .int 0, .int 0, .int 0, .int 0, .int 0, .int 0, .int 0, .int 0, .int 0, .int 0, .long 0, .null, .null, .null, .null, .null, .null, .null, .null, .int 0, .int 0, .int 0, .null, .null, .int 0, .int 0, .int 0, .null, .null, .null, .null, .null, .null, .int 0, .int 0, .int 0, .null, .int 0, .int 0] j := fun j hj => by
  rcases (show j = 0 ∨ j = 1 ∨ j = 2 ∨ j = 3 ∨ j = 4 ∨ j = 5 ∨ j = 6 ∨ j = 7 ∨ j = 8 ∨ j = 9 ∨ j = 10 ∨ j = 11 ∨ j = 12 ∨ j = 13 ∨ j = 14 ∨ j = 15 ∨ j = 16 ∨ j = 17 ∨ j = 18 ∨ j = 19 ∨ j = 20 ∨ j = 21 ∨ j = 22 ∨ j = 23 ∨ j = 24 ∨ j = 25 ∨ j = 26 ∨ j = 27 ∨ j = 28 ∨ j = 29 ∨ j = 30 ∨ j = 31 ∨ j = 32 ∨ j = 33 ∨ j = 34 ∨ j = 35 ∨ j = 36 ∨ j = 37 ∨ j = 38 ∨ j = 39 ∨ j = 40 by omega) with rfl | rfl | rfl | rfl | rfl | rfl | rfl | rfl | rfl | rfl | rfl | rfl | rfl | rfl | rfl | rfl | rfl | rfl | rfl | rfl | rfl | rfl | rfl | rfl | rfl | rfl | rfl | rfl | rfl | rfl | rfl | rfl | rfl | rfl | rfl | rfl | rfl | rfl | rfl | rfl | rfl <;> rfl
set_option maxHeartbeats 4000000 in
set_option maxRecDepth 100000 in
theorem whole_start {p : Program} {e : Env} {s : State} {m : MethodId} {below : List Frame} {meth : Method} {c : Code} (l : Launch) (hflags : l.flags = flags0) {b N9 : Nat} {xs : Nat → Int32} (hL : N9 ≤ 3072) (C0 : lw_At p s m meth c b N9 xs) : W p l e room_1 s m #[Value.ref b] below meth c s.heap [] 0 0 (lw_Z below #[Value.ref b] s) (entryFrame m ([Value.ref b] : List Value).toArray 10) := by
  have hfl : l.stackTraces = false := by
    unfold Launch.stackTraces
    rw [hflags]
    decide +kernel
  have hts9 := C0.2.2.2.2.2.1
  have cx : CallFix p m c cL_law 10 s #[Value.ref b] q_al RL := ⟨C0.1, C0.2.1, C0.2.2.2.1, C0.2.2.2.2.1, fun w hw => hts9 w (List.mem_filter.mp hw).1⟩
  obtain ⟨g, hK⟩ := q_world hts9
  have hE := q_env hts9
  have hA : ∀ q, s.heap.size ≤ q → (fun q => s.heap.size ≤ q) q := fun _ h => h
  have hN := q_N0 (A := fun q => s.heap.size ≤ q) hK
  have hl := lv_entry [Value.ref b] (n := 10) (Nat.le_of_ble_eq_true rfl)
  rw [lg_entry_eq]
  generalize (lg_sl [Value.ref b] ++ List.replicate (10 - (lg_sl [Value.ref b]).length) Slot.unset).toArray = ls at hl ⊢
  have hl : lv_has ls 10 [(0, .ref b)] := hl
  refine n_new (ci := 11) (fs := [.null, .null, .null, .null, .null, .null, .null, .null, .null, .int 0]) cx hA hN q_inX11 q_yX11 q_h161 q_h162 q_h135 rfl n_dfX11 (by decide) (by decide) dL_law_0 (fun x H hN => ?_)
  refine lv_dup cx.1 cx.2.1 dL_law_3 rfl ?_
  refine n_callI (Xs := []) (k := 11) cx hE hA hN (n_WakeVillage l g) (fun L1 f1 L2 f2 h hb h2 => n_PWm h h2) q_h135 q_h163 q_h164 q_h165 rfl (by decide +kernel) ⟨by decide, by decide, by decide⟩ hl.1 (Nat.le_of_ble_eq_true rfl) dL_law_4 (fun K L f H locs hx kx ox px hN => ?_)
  refine lv_astore_n (lv' := [(1, .ref x), (0, .ref b)]) cx.1 cx.2.1 dL_law_7 rfl hl (by decide) rfl (fun ls hl => ?_)
  refine n_new (ci := 12) (fs := [.int 0, .null, .int 0, .int 0, .int 0, .int 0, .int 0, .int 0, .int 0, .int 0, .int 0, .int 0, .long 0, .null, .null, .null, .null, .null, .null, .null, .null, .int 0, .int 0, .int 0, .null, .null, .int 0, .int 0, .int 0, .null, .null, .null, .null, .null, .null, .int 0, .int 0, .int 0, .null, .int 0, .int 0]) cx hA hN q_inX12 q_yX12 q_h1539 q_h1540 q_h147 rfl n_dfX12 (by decide) (by decide) dL_law_8 (fun mo H hN => ?_)
  refine lv_dup cx.1 cx.2.1 dL_law_11 rfl ?_
  refine n_callI (Xs := []) (k := 12) cx hE hA hN (n_Model l g) (fun L1 f1 L2 f2 h hb h2 => n_PMm h hb h2) q_h147 q_h1541 q_h1542 q_h1543 rfl (by decide +kernel) ⟨by decide, by decide, by decide⟩ hl.1 (Nat.le_of_ble_eq_true rfl) dL_law_12 (fun K L f H locs hmo kmo omo pm hN => ?_)
  have kx := (omo _ hx).2.1.trans kx
  have px := n_PWm (fun a ha => ⟨(omo a ha).1, (omo a ha).2.2⟩) px
  have hx := (omo _ hx).1
  refine lv_astore_n (lv' := [(2, .ref mo), (1, .ref x), (0, .ref b)]) cx.1 cx.2.1 dL_law_15 rfl hl (by decide) rfl (fun ls hl => ?_)
  refine q_iconst cx dL_law_16 ?_
  refine n_newarr (atype := .long) (t0 := 2) (k := 168) (N' := 1) (x0 := .inr (.inl (fun _ => 0))) (ty := .long) cx hA hN q_h1674 rfl rfl (fun _ => rfl) ⟨by decide, by decide⟩ (by decide) rfl (by decide) (by decide) (by decide) (n_shL (by decide) rfl (fun _ => rfl)) dL_law_17 (fun out K L f H hout kout fout oout hN => ?_)
  have pm := n_PMm (fun a ha => ⟨(oout a ha).1, (oout a ha).2.2⟩) hmo pm
  have px := n_PWm (fun a ha => ⟨(oout a ha).1, (oout a ha).2.2⟩) px
  have kx := (oout _ hx).2.1.trans kx
  have hx := (oout _ hx).1
  have kmo := (oout _ hmo).2.1.trans kmo
  have hmo := (oout _ hmo).1
  refine lv_astore_n (lv' := [(3, .ref out), (2, .ref mo), (1, .ref x), (0, .ref b)]) cx.1 cx.2.1 dL_law_19 rfl hl (by decide) rfl (fun ls hl => ?_)
  refine q_iconst cx dL_law_20 ?_
  refine n_newarr (atype := .double) (t0 := 3) (k := 169) (N' := 1) (x0 := .inr (.inr (.inr (.inl (fun _ => 0))))) (ty := .double) cx hA hN q_h2270 rfl rfl (fun _ => rfl) ⟨by decide, by decide⟩ (by decide) rfl (by decide) (by decide) (by decide) (n_shD (by decide) rfl (fun _ => rfl)) dL_law_21 (fun outD K L f H houtD koutD foutD ooutD hN => ?_)
  have pm := n_PMm (fun a ha => ⟨(ooutD a ha).1, (ooutD a ha).2.2⟩) hmo pm
  have px := n_PWm (fun a ha => ⟨(ooutD a ha).1, (ooutD a ha).2.2⟩) px
  have kx := (ooutD _ hx).2.1.trans kx
  have hx := (ooutD _ hx).1
  have kmo := (ooutD _ hmo).2.1.trans kmo
  have hmo := (ooutD _ hmo).1
  have kout := (ooutD _ hout).2.1.trans kout
  have hout := (ooutD _ hout).1
  refine lv_astore (lv' := [(4, .ref outD), (3, .ref out), (2, .ref mo), (1, .ref x), (0, .ref b)]) cx.1 cx.2.1 dL_law_23 hl (by decide) rfl (fun ls hl => ?_)
  refine W.widen (k := 1100) (n := 20000) (by decide) (by decide) ?_
  obtain ⟨x0, x1, x2, x3, x4, x5, x6, x7, x8, y0_0, y2_0, y3_0, y4_0, y5_0, y6_0, y6_1, y6_2, y7_0, y7_1, y7_2, y8_0, y8_1, y8_2, px, v4, v6, v7, v8, v2⟩ := px
  obtain ⟨pm0, ⟨mf2, mf21, mf22, mf10, mf11⟩, pmg, pm3, pm4, pm0c⟩ := pm
  have hT := hN.2.2.2.2
  have hr0 := px.r (i := 0) (List.mem_of_getElem? (i := 0) rfl) rfl
  obtain ⟨hso, kso⟩ := q_fr2 (k2 := 8) hT hx kx (by decide) rfl hr0
  have hr1 := px.r (i := 1) (List.mem_of_getElem? (i := 0) rfl) rfl
  obtain ⟨hrd, krd⟩ := q_fr2 (k2 := 9) hT hx kx (by decide) rfl hr1
  have hr2 := px.r (i := 2) (List.mem_of_getElem? (i := 0) rfl) rfl
  obtain ⟨hscr, kscr⟩ := q_fr2 (k2 := 7) hT hx kx (by decide) rfl hr2
  have hr3 := px.r (i := 3) (List.mem_of_getElem? (i := 0) rfl) rfl
  obtain ⟨hfc, kfc⟩ := q_fr2 (k2 := 1) hT hx kx (by decide) rfl hr3
  have hr4 := px.r (i := 4) (List.mem_of_getElem? (i := 0) rfl) rfl
  obtain ⟨hhist, khist⟩ := q_fr2 (k2 := 2) hT hx kx (by decide) rfl hr4
  have hr5 := px.r (i := 5) (List.mem_of_getElem? (i := 0) rfl) rfl
  obtain ⟨hrep, krep⟩ := q_fr2 (k2 := 6) hT hx kx (by decide) rfl hr5
  have hr6 := px.r (i := 6) (List.mem_of_getElem? (i := 0) rfl) rfl
  obtain ⟨hnow, know⟩ := q_fr2 (k2 := 10) hT hx kx (by decide) rfl hr6
  have hr7 := px.r (i := 7) (List.mem_of_getElem? (i := 0) rfl) rfl
  obtain ⟨hdr, kdr⟩ := q_fr2 (k2 := 13) hT hx kx (by decide) rfl hr7
  have hr8 := px.r (i := 8) (List.mem_of_getElem? (i := 0) rfl) rfl
  obtain ⟨hsv, ksv⟩ := q_fr2 (k2 := 14) hT hx kx (by decide) rfl hr8
  have hr9 := px.r (i := 0) (List.mem_of_getElem? (i := 4) rfl) rfl
  obtain ⟨htr, ktr⟩ := q_fr2 (k2 := 15) hT hfc kfc (by decide) rfl hr9
  have hr10 := px.r (i := 0) (List.mem_of_getElem? (i := 1) rfl) rfl
  obtain ⟨hba, kba⟩ := q_fr2 (k2 := 142) hT hso kso (by decide) rfl hr10
  have hr11 := px.r (i := 0) (List.mem_of_getElem? (i := 8) rfl) rfl
  obtain ⟨hnds, knds⟩ := q_fr2 (k2 := 111) hT hdr kdr (by decide) rfl hr11
  have hr12 := px.r (i := 0) (List.mem_of_getElem? (i := 5) rfl) rfl
  obtain ⟨hka, kka⟩ := q_fr2 (k2 := 140) hT hhist khist (by decide) rfl hr12
  have hr13 := px.r (i := 0) (List.mem_of_getElem? (i := 7) rfl) rfl
  obtain ⟨hndn, kndn⟩ := q_fr2 (k2 := 110) hT hnow know (by decide) rfl hr13
  have hr14 := px.r (i := 0) (List.mem_of_getElem? (i := 9) rfl) rfl
  obtain ⟨hnsv, knsv⟩ := q_fr2 (k2 := 112) hT hsv ksv (by decide) rfl hr14
  have hr15 := px.r (i := 0) (List.mem_of_getElem? (i := 3) rfl) rfl
  obtain ⟨hcmds, kcmds⟩ := q_fr2 (k2 := 141) hT hscr kscr (by decide) rfl hr15
  obtain ⟨bu, hr16⟩ : ∃ z, q_r f mo 1 = z := ⟨_, rfl⟩
  obtain ⟨hbu, kbu⟩ := q_fr2 (k2 := 150) hT hmo kmo (by decide) rfl hr16
  obtain ⟨sr, hr17⟩ : ∃ z, q_r f mo 13 = z := ⟨_, rfl⟩
  obtain ⟨hsr, ksr⟩ := q_fr2 (k2 := 151) hT hmo kmo (by decide) rfl hr17
  obtain ⟨sd, hr18⟩ : ∃ z, q_r f mo 14 = z := ⟨_, rfl⟩
  obtain ⟨hsd, ksd⟩ := q_fr2 (k2 := 152) hT hmo kmo (by decide) rfl hr18
  obtain ⟨as, hr19⟩ : ∃ z, q_r f mo 15 = z := ⟨_, rfl⟩
  obtain ⟨has, kas⟩ := q_fr2 (k2 := 153) hT hmo kmo (by decide) rfl hr19
  obtain ⟨aw, hr20⟩ : ∃ z, q_r f mo 16 = z := ⟨_, rfl⟩
  obtain ⟨haw, kaw⟩ := q_fr2 (k2 := 154) hT hmo kmo (by decide) rfl hr20
  obtain ⟨pa, hr21⟩ : ∃ z, q_r f mo 17 = z := ⟨_, rfl⟩
  obtain ⟨hpa, kpa⟩ := q_fr2 (k2 := 155) hT hmo kmo (by decide) rfl hr21
  obtain ⟨nm, hr22⟩ : ∃ z, q_r f mo 18 = z := ⟨_, rfl⟩
  obtain ⟨hnm, knm⟩ := q_fr2 (k2 := 156) hT hmo kmo (by decide) rfl hr22
  obtain ⟨snm, hr23⟩ : ∃ z, q_r f mo 19 = z := ⟨_, rfl⟩
  obtain ⟨hsnm, ksnm⟩ := q_fr2 (k2 := 157) hT hmo kmo (by decide) rfl hr23
  obtain ⟨anm, hr24⟩ : ∃ z, q_r f mo 20 = z := ⟨_, rfl⟩
  obtain ⟨hanm, kanm⟩ := q_fr2 (k2 := 158) hT hmo kmo (by decide) rfl hr24
  obtain ⟨hp, hr25⟩ : ∃ z, q_r f mo 24 = z := ⟨_, rfl⟩
  obtain ⟨hhp, khp⟩ := q_fr2 (k2 := 159) hT hmo kmo (by decide) rfl hr25
  obtain ⟨dy, hr26⟩ : ∃ z, q_r f mo 25 = z := ⟨_, rfl⟩
  obtain ⟨hdy, kdy⟩ := q_fr2 (k2 := 160) hT hmo kmo (by decide) rfl hr26
  obtain ⟨cs, hr27⟩ : ∃ z, q_r f mo 29 = z := ⟨_, rfl⟩
  obtain ⟨hcs, kcs⟩ := q_fr2 (k2 := 161) hT hmo kmo (by decide) rfl hr27
  obtain ⟨c1, hr28⟩ : ∃ z, q_r f mo 30 = z := ⟨_, rfl⟩
  obtain ⟨hc1, kc1⟩ := q_fr2 (k2 := 162) hT hmo kmo (by decide) rfl hr28
  obtain ⟨c2, hr29⟩ : ∃ z, q_r f mo 31 = z := ⟨_, rfl⟩
  obtain ⟨hc2, kc2⟩ := q_fr2 (k2 := 163) hT hmo kmo (by decide) rfl hr29
  obtain ⟨c3, hr30⟩ : ∃ z, q_r f mo 32 = z := ⟨_, rfl⟩
  obtain ⟨hc3, kc3⟩ := q_fr2 (k2 := 164) hT hmo kmo (by decide) rfl hr30
  obtain ⟨bg, hr31⟩ : ∃ z, q_r f mo 33 = z := ⟨_, rfl⟩
  obtain ⟨hbg, kbg⟩ := q_fr2 (k2 := 165) hT hmo kmo (by decide) rfl hr31
  obtain ⟨lp, hr32⟩ : ∃ z, q_r f mo 34 = z := ⟨_, rfl⟩
  obtain ⟨hlp, klp⟩ := q_fr2 (k2 := 166) hT hmo kmo (by decide) rfl hr32
  obtain ⟨rp, hr33⟩ : ∃ z, q_r f mo 38 = z := ⟨_, rfl⟩
  obtain ⟨hrp, krp⟩ := q_fr2 (k2 := 167) hT hmo kmo (by decide) rfl hr33
  have hn0 : q_z f x0 1 = 0 := px.z (List.mem_of_getElem? (i := 1) rfl) rfl
  rw [hr17] at pmg pm3 pm4 pm0c
  obtain ⟨ad, hX⟩ := q_xstart hts9 C0.2.2.2.2.2.2.2.2.2 (A := fun q => q ∈ L) (fun a h1 h2 => absurd ((n_nodup hN).2 a h2) (Nat.not_le_of_lt h1))
  have hB := q_toB (w := [(0, 0, 6), (2, 1, 2), (3, 0, 4), (4, 0, 7), (5, 0, 9), (6, 1, 1), (7, 1, 4), (8, 1, 9), (9, 0, 2), (10, 3, 15), (11, 9, 9), (12, 0, 0), (12, 2, 12), (12, 21, 23), (12, 26, 28), (12, 35, 37), (12, 39, 40), (13, 3, 15), (14, 3, 15), (15, 3, 15), (16, 3, 15), (17, 0, 9), (18, 0, 9), (19, 0, 9), (20, 0, 9), (21, 0, 4), (22, 0, 4), (23, 0, 4), (24, 0, 4), (25, 0, 7), (26, 0, 7), (27, 0, 7), (28, 0, 7), (142, 0, 599), (143, 0, 599), (150, 0, 599), (151, 0, 657), (152, 0, 657), (153, 0, 657), (154, 0, 657), (155, 0, 3947), (156, 0, 9), (157, 0, 9), (158, 0, 9), (159, 0, 9), (160, 0, 9), (161, 0, 59), (162, 0, 58), (163, 0, 58), (164, 0, 58), (165, 0, 1), (166, 0, 1), (167, 0, 479), (168, 0, 0), (169, 0, 0)]) hN
  have hz1 : q_z f x4 1 = 0 := px.z (List.mem_of_getElem? (i := 5) rfl) rfl
  have hz2 : q_z f x4 2 = 0 := px.z (List.mem_of_getElem? (i := 5) rfl) rfl
  have hz3 : q_z f x6 3 = 0 := px.z (List.mem_of_getElem? (i := 7) rfl) rfl
  have hz9 : q_z f x 9 = 0 := px.z (List.mem_of_getElem? (i := 0) rfl) rfl
  have hy2 : q_z f x0 2 = 0 := px.z (List.mem_of_getElem? (i := 1) rfl) rfl
  have hy3 : q_z f x0 3 = (-1) := px.z (List.mem_of_getElem? (i := 1) rfl) rfl
  have hik6 := n_ik (k2 := 5) hT hndn kndn (by decide) rfl (fun _ => rfl) v6.2.1
  have hik8 := n_ik (k2 := 18) hT hnsv knsv (by decide) rfl (fun _ => rfl) v8.2.1
  refine q_iconst cx dL_law_25 ?_
  refine lv_istore (lv' := [(5, .int (q_i 0)), (4, .ref outD), (3, .ref out), (2, .ref mo), (1, .ref x), (0, .ref b)]) cx.1 cx.2.1 dL_law_26 hl (by decide) rfl (fun ls hl => ?_)
  exact law_loop hfl hL C0 cx (n_nodup hN).1 (n_nodup hN).2 hX hx kx hso kso hrd krd hscr kscr hfc kfc hhist khist hrep krep hnow know hdr kdr hsv ksv htr ktr hba kba hnds knds hka kka hndn kndn hnsv knsv hcmds kcmds hmo kmo hbu kbu hsr ksr hsd ksd has kas haw kaw hpa kpa hnm knm hsnm ksnm hanm kanm hhp khp hdy kdy hcs kcs hc1 kc1 hc2 kc2 hc3 kc3 hbg kbg hlp klp hrp krp hout kout houtD koutD hr0 hr1 hr2 hr3 hr4 hr5 hr6 hr7 hr8 hr9 hr10 hr11 hr12 hr13 hr14 hr15 hr16 hr17 hr18 hr19 hr20 hr21 hr22 hr23 hr24 hr25 hr26 hr27 hr28 hr29 hr30 hr31 hr32 hr33 (n_ij hT hnds knds v7.2.1) (n_c3 hT kcmds v2) (N9 + 1) 0 0 [] [] 0 f _ _ ls 1100 20000 (by omega) hB ⟨⟨hn0, mf2, by decide, by decide⟩, pmg, k_pk0 mf21, fun h => absurd (mf22.symm.trans h) (by decide), pm3, pm4, fun i9 h9 => absurd h9 (by omega), pm0c, rfl, ⟨hik6, ⟨hz3, by decide⟩, fun _ h9 => absurd h9 (Nat.not_lt_zero _)⟩, tk_vk_0 (n_ks hT kka v4) hik6 (n_z06 hz1) hz2 (n_z10 hz3), ⟨hik8, fun h9 => absurd (hz9.symm.trans h9) (by decide)⟩, ⟨by decide, fun _ h9 => absurd h9 (Nat.not_lt_zero _), fun _ _ h9 => absurd h9 (Nat.not_lt_zero _)⟩, fun h9 => absurd (mf22.symm.trans h9) (by decide), k_pc0 mf21, hz9.trans mf22.symm, hy2.trans mf10.symm, hy3.trans mf11.symm⟩ hl (by decide) (by decide) (by omega) (by omega)
