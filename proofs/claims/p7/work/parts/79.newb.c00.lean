set_option maxHeartbeats 4000000 in
set_option maxRecDepth 100000 in
theorem n_Forecast (l : Launch) (g : q_G) : q_Nw l g yX1_init cX1_init 1 3 53 91 771 1 [.null] 1 (fun L f b => ∃ a1 : Nat, q_Has L f [(b, .inr (1, [.ref a1]))]) := by
  refine n_ofb (by decide +kernel) rfl (by decide) ?_
  intro p e s m below meth c ls b cx hr hlk hin hE hN hl
  have hA : ∀ q, s.heap.size ≤ q → (fun q => q = b ∨ s.heap.size ≤ q) q := fun q h => Or.inr h
  have hl : lv_has ls 1 [(0, .ref b)] := hl
  refine q_ald_n cx dX1_init_0 rfl (lv_at hl 0 rfl) ?_
  refine n_objInit cx q_h285 q_h167 q_h168 hl.1 dX1_init_1 (by decide) (by decide) ?_
  refine q_ald_n cx dX1_init_4 rfl (lv_at hl 0 rfl) ?_
  refine n_new (ci := 10) (fs := [.null, .null, .null, .int 0, .int 0, .int 0, .int 0, .int 0, .int 0, .int 0, .int 0, .int 0, .int 0, .int 0, .int 0, .int 0]) cx hA hN q_inX10 q_yX10 q_h286 q_h287 q_h141 rfl n_dfX10 (by decide) (by decide) dX1_init_5 (fun a1 H hN => ?_)
  refine lv_dup cx.1 cx.2.1 dX1_init_8 rfl ?_
  refine n_callI (Xs := [(b, .inr (1, [.null]))]) (k := 15) cx hE hA hN (n_V3 l g) (fun L1 f1 L2 f2 h _ h2 => by obtain ⟨x1, x2, x3, h3⟩ := h2; exact ⟨x1, x2, x3, h3.mono h⟩) q_h141 q_h288 q_h289 q_h290 rfl (by decide +kernel) ⟨by decide, by decide, by decide⟩ hl.1 (Nat.le_of_ble_eq_true rfl) dX1_init_9 (fun K L f H locs ha ka oa pa hN => ?_)
  have hN : q_N g _ _ (fun q => q = b ∨ s.heap.size ≤ q) [(b, .inr (1, [.null]))] _ s H _ := hN
  refine n_putF cx hN 0 rfl rfl 0 (by decide) q_inX1 tyX1 q_yX1 q_nX1 q_h487 rfl rfl hin rfl (q_yX1 0 (by decide)) rfl rfl (Nat.le_of_ble_eq_true rfl) dX1_init_12 (fun H locs hN => ?_)
  have hN : q_N g _ _ (fun q => q = b ∨ s.heap.size ≤ q) [(b, .inr (1, [.ref a1]))] _ s H _ := hN
  obtain ⟨K, L, f, hb, kb, fb, ob, hN⟩ := n_seal (Xs := []) (k := 1) hN (n_shO (by decide) ⟨⟨a1, rfl, ha, ka⟩, trivial⟩)
  exact n_ret cx hr hlk hN hb kb ⟨a1, q_Has.one hb fb⟩ dX1_init_15
def n_PW : List Nat → (Nat → va_E) → Nat → Prop := (fun L f b => ∃ x0 x1 x2 x3 x4 x5 x6 x7 x8 y0_0 y2_0 y3_0 y4_0 y5_0 y6_0 y6_1 y6_2 y7_0 y7_1 y7_2 y8_0 y8_1 y8_2 : Nat, q_Has L f [(b, .inr (11, [.ref x0, .ref x1, .ref x2, .ref x3, .ref x4, .ref x5, .ref x6, .ref x7, .ref x8, .int 0])), (x0, .inr (8, [.ref y0_0, .int 0, .int 0, .int (q_i (-1)), .long 0, .int 0, .int 0, .int 0, .int 0, .int 0])), (x1, .inr (9, [.int 0, .int 0, .int 0])), (x2, .inr (7, [.ref y2_0, .int 0, .int 0, .int 0, .int 0])), (x3, .inr (1, [.ref y3_0])), (x4, .inr (2, [.ref y4_0, .int 0, .int 0])), (x5, .inr (6, [.ref y5_0, .int 0])), (x6, .inr (10, [.ref y6_0, .ref y6_1, .ref y6_2, .int (q_i 0), .int (q_i 0), .int (q_i 0), .int (q_i 12), .int (q_i 1), .int (q_i 2), .int (q_i 5), .int (q_i 3), .int (q_i 0), .int (q_i 0), .int 0, .int 0, .int 0])), (x7, .inr (10, [.ref y7_0, .ref y7_1, .ref y7_2, .int (q_i 0), .int (q_i 0), .int (q_i 0), .int (q_i 12), .int (q_i 1), .int (q_i 2), .int (q_i 5), .int (q_i 3), .int (q_i 0), .int (q_i 0), .int 0, .int 0, .int 0])), (x8, .inr (10, [.ref y8_0, .ref y8_1, .ref y8_2, .int (q_i 0), .int (q_i 0), .int (q_i 0), .int (q_i 12), .int (q_i 1), .int (q_i 2), .int (q_i 5), .int (q_i 3), .int (q_i 0), .int (q_i 0), .int 0, .int 0, .int 0]))] ∧ (n_kz L f y4_0 ∧ n_vl L f y6_0 ∧ n_vl L f y7_0 ∧ n_vl L f y8_0 ∧ n_cj L f y2_0))
theorem n_dfX8 : ∀ j, j < 10 → defaultValue (tyX8 j) = vp_V [.null, .int 0, .int 0, .int 0, .long 0, .int 0, .int 0, .int 0, .int 0, .int 0] j := fun j hj => by
  rcases (show j = 0 ∨ j = 1 ∨ j = 2 ∨ j = 3 ∨ j = 4 ∨ j = 5 ∨ j = 6 ∨ j = 7 ∨ j = 8 ∨ j = 9 by omega) with rfl | rfl | rfl | rfl | rfl | rfl | rfl | rfl | rfl | rfl <;> rfl
theorem n_dfX9 : ∀ j, j < 3 → defaultValue (tyX9 j) = vp_V [.int 0, .int 0, .int 0] j := fun j hj => by
  rcases (show j = 0 ∨ j = 1 ∨ j = 2 by omega) with rfl | rfl | rfl <;> rfl
theorem n_dfX7 : ∀ j, j < 5 → defaultValue (tyX7 j) = vp_V [.null, .int 0, .int 0, .int 0, .int 0] j := fun j hj => by
  rcases (show j = 0 ∨ j = 1 ∨ j = 2 ∨ j = 3 ∨ j = 4 by omega) with rfl | rfl | rfl | rfl | rfl <;> rfl
theorem n_dfX1 : ∀ j, j < 1 → defaultValue (tyX1 j) = vp_V [.null] j := fun j hj => by
  rcases (show j = 0 by omega) with rfl <;> rfl
theorem n_dfX2 : ∀ j, j < 3 → defaultValue (tyX2 j) = vp_V [.null, .int 0, .int 0] j := fun j hj => by
  rcases (show j = 0 ∨ j = 1 ∨ j = 2 by omega) with rfl | rfl | rfl <;> rfl
theorem n_dfX6 : ∀ j, j < 2 → defaultValue (tyX6 j) = vp_V [.null, .int 0] j := fun j hj => by
  rcases (show j = 0 ∨ j = 1 by omega) with rfl | rfl <;> rfl
set_option maxHeartbeats 4000000 in
set_option maxRecDepth 100000 in
theorem n_WakeVillage (l : Launch) (g : q_G) : q_Nw l g yX11_init cX11_init 1 4 74 950 9180 11 [.null, .null, .null, .null, .null, .null, .null, .null, .null, .int 0] 11 n_PW := by
  refine n_ofb (by decide +kernel) rfl (by decide) ?_
  intro p e s m below meth c ls b cx hr hlk hin hE hN hl
  have hA : ∀ q, s.heap.size ≤ q → (fun q => q = b ∨ s.heap.size ≤ q) q := fun q h => Or.inr h
  have hl : lv_has ls 1 [(0, .ref b)] := hl
  refine q_ald_n cx dX11_init_0 rfl (lv_at hl 0 rfl) ?_
  refine n_objInit cx q_h166 q_h167 q_h168 hl.1 dX11_init_1 (by decide) (by decide) ?_
  refine q_ald_n cx dX11_init_4 rfl (lv_at hl 0 rfl) ?_
  refine n_new (ci := 8) (fs := [.null, .int 0, .int 0, .int 0, .long 0, .int 0, .int 0, .int 0, .int 0, .int 0]) cx hA hN q_inX8 q_yX8 q_h169 q_h170 q_h136 rfl n_dfX8 (by decide) (by decide) dX11_init_5 (fun x0 H hN => ?_)
  refine lv_dup cx.1 cx.2.1 dX11_init_8 rfl ?_
  refine n_callIN (Xs := [(b, .inr (11, [.null, .null, .null, .null, .null, .null, .null, .null, .null, .int 0]))]) (k := 8) cx hE hA hN (n_X8 l g) (fun L1 f1 L2 f2 h _ h2 => by obtain ⟨u0, h3⟩ := h2; exact ⟨u0, h3.mono h⟩) q_h136 (by decide +kernel) q_h172 q_h173 rfl (by decide +kernel) ⟨by decide, by decide, by decide⟩ hl.1 (Nat.le_of_ble_eq_true rfl) dX11_init_9 (fun K L f H locs h0 k0 o0 p0 hN => ?_)
  obtain ⟨y0_0, p0⟩ := p0
  have hN : q_N g _ _ (fun q => q = b ∨ s.heap.size ≤ q) [(b, .inr (11, [.null, .null, .null, .null, .null, .null, .null, .null, .null, .int 0]))] _ s H _ := hN
  refine n_putF cx hN 0 rfl rfl 0 (by decide) q_inX11 tyX11 q_yX11 q_nX11 q_h527 rfl rfl hin rfl (q_yX11 0 (by decide)) rfl rfl (Nat.le_of_ble_eq_true rfl) dX11_init_12 (fun H locs hN => ?_)
  have hN : q_N g _ _ (fun q => q = b ∨ s.heap.size ≤ q) [(b, .inr (11, [.ref x0, .null, .null, .null, .null, .null, .null, .null, .null, .int 0]))] _ s H _ := hN
  refine q_ald_n cx dX11_init_15 rfl (lv_at hl 0 rfl) ?_
  refine n_new (ci := 9) (fs := [.int 0, .int 0, .int 0]) cx hA hN q_inX9 q_yX9 q_h213 q_h214 q_h137 rfl n_dfX9 (by decide) (by decide) dX11_init_16 (fun x1 H hN => ?_)
  refine lv_dup cx.1 cx.2.1 dX11_init_19 rfl ?_
  refine n_callIN (Xs := [(b, .inr (11, [.ref x0, .null, .null, .null, .null, .null, .null, .null, .null, .int 0]))]) (k := 9) cx hE hA hN (n_X9_9 l g) (fun L1 f1 L2 f2 h _ h2 => h2.mono h) q_h137 (by decide +kernel) q_h216 q_h217 rfl (by decide +kernel) ⟨by decide, by decide, by decide⟩ hl.1 (Nat.le_of_ble_eq_true rfl) dX11_init_20 (fun K L f H locs h1 k1 o1 p1 hN => ?_)
  have k0 := (o1 _ h0).2.1.trans k0
  have h0 := (o1 _ h0).1
  have p0 := p0.mono (fun a ha => ⟨(o1 a ha).1, (o1 a ha).2.2⟩)
  have hN : q_N g _ _ (fun q => q = b ∨ s.heap.size ≤ q) [(b, .inr (11, [.ref x0, .null, .null, .null, .null, .null, .null, .null, .null, .int 0]))] _ s H _ := hN
  refine n_putF cx hN 0 rfl rfl 1 (by decide) q_inX11 tyX11 q_yX11 q_nX11 q_h528 rfl rfl hin rfl (q_yX11 1 (by decide)) rfl rfl (Nat.le_of_ble_eq_true rfl) dX11_init_23 (fun H locs hN => ?_)
  have hN : q_N g _ _ (fun q => q = b ∨ s.heap.size ≤ q) [(b, .inr (11, [.ref x0, .ref x1, .null, .null, .null, .null, .null, .null, .null, .int 0]))] _ s H _ := hN
  refine q_ald_n cx dX11_init_26 rfl (lv_at hl 0 rfl) ?_
  refine n_new (ci := 7) (fs := [.null, .int 0, .int 0, .int 0, .int 0]) cx hA hN q_inX7 q_yX7 q_h229 q_h230 q_h138 rfl n_dfX7 (by decide) (by decide) dX11_init_27 (fun x2 H hN => ?_)
  refine lv_dup cx.1 cx.2.1 dX11_init_30 rfl ?_
  refine n_callI (Xs := [(b, .inr (11, [.ref x0, .ref x1, .null, .null, .null, .null, .null, .null, .null, .int 0]))]) (k := 7) cx hE hA hN (n_Script l g) (fun L1 f1 L2 f2 h _ h2 => by obtain ⟨u0, h3, h4⟩ := h2; exact ⟨u0, h3.mono h, n_cj_tr h h4⟩) q_h138 q_h231 q_h232 q_h233 rfl (by decide +kernel) ⟨by decide, by decide, by decide⟩ hl.1 (Nat.le_of_ble_eq_true rfl) dX11_init_31 (fun K L f H locs h2 k2 o2 p2 hN => ?_)
  obtain ⟨y2_0, p2, v2⟩ := p2
  have k0 := (o2 _ h0).2.1.trans k0
  have h0 := (o2 _ h0).1
  have p0 := p0.mono (fun a ha => ⟨(o2 a ha).1, (o2 a ha).2.2⟩)
  have k1 := (o2 _ h1).2.1.trans k1
  have h1 := (o2 _ h1).1
  have p1 := p1.mono (fun a ha => ⟨(o2 a ha).1, (o2 a ha).2.2⟩)
  have hN : q_N g _ _ (fun q => q = b ∨ s.heap.size ≤ q) [(b, .inr (11, [.ref x0, .ref x1, .null, .null, .null, .null, .null, .null, .null, .int 0]))] _ s H _ := hN
  refine n_putF cx hN 0 rfl rfl 2 (by decide) q_inX11 tyX11 q_yX11 q_nX11 q_h529 rfl rfl hin rfl (q_yX11 2 (by decide)) rfl rfl (Nat.le_of_ble_eq_true rfl) dX11_init_34 (fun H locs hN => ?_)
  have hN : q_N g _ _ (fun q => q = b ∨ s.heap.size ≤ q) [(b, .inr (11, [.ref x0, .ref x1, .ref x2, .null, .null, .null, .null, .null, .null, .int 0]))] _ s H _ := hN
  refine q_ald_n cx dX11_init_37 rfl (lv_at hl 0 rfl) ?_
  refine n_new (ci := 1) (fs := [.null]) cx hA hN q_inX1 q_yX1 q_h280 q_h281 q_h140 rfl n_dfX1 (by decide) (by decide) dX11_init_38 (fun x3 H hN => ?_)
  refine lv_dup cx.1 cx.2.1 dX11_init_41 rfl ?_
  refine n_callIN (Xs := [(b, .inr (11, [.ref x0, .ref x1, .ref x2, .null, .null, .null, .null, .null, .null, .int 0]))]) (k := 1) cx hE hA hN (n_Forecast l g) (fun L1 f1 L2 f2 h _ h2 => by obtain ⟨u0, h3⟩ := h2; exact ⟨u0, h3.mono h⟩) q_h140 (by decide +kernel) q_h283 q_h284 rfl (by decide +kernel) ⟨by decide, by decide, by decide⟩ hl.1 (Nat.le_of_ble_eq_true rfl) dX11_init_42 (fun K L f H locs h3 k3 o3 p3 hN => ?_)
  obtain ⟨y3_0, p3⟩ := p3
  have k0 := (o3 _ h0).2.1.trans k0
  have h0 := (o3 _ h0).1
  have p0 := p0.mono (fun a ha => ⟨(o3 a ha).1, (o3 a ha).2.2⟩)
  have k1 := (o3 _ h1).2.1.trans k1
  have h1 := (o3 _ h1).1
  have p1 := p1.mono (fun a ha => ⟨(o3 a ha).1, (o3 a ha).2.2⟩)
  have k2 := (o3 _ h2).2.1.trans k2
  have h2 := (o3 _ h2).1
  have p2 := p2.mono (fun a ha => ⟨(o3 a ha).1, (o3 a ha).2.2⟩)
  have v2 := n_cj_tr (fun a ha => ⟨(o3 a ha).1, (o3 a ha).2.2⟩) v2
  have hN : q_N g _ _ (fun q => q = b ∨ s.heap.size ≤ q) [(b, .inr (11, [.ref x0, .ref x1, .ref x2, .null, .null, .null, .null, .null, .null, .int 0]))] _ s H _ := hN
  refine n_putF cx hN 0 rfl rfl 3 (by decide) q_inX11 tyX11 q_yX11 q_nX11 q_h530 rfl rfl hin rfl (q_yX11 3 (by decide)) rfl rfl (Nat.le_of_ble_eq_true rfl) dX11_init_45 (fun H locs hN => ?_)
  have hN : q_N g _ _ (fun q => q = b ∨ s.heap.size ≤ q) [(b, .inr (11, [.ref x0, .ref x1, .ref x2, .ref x3, .null, .null, .null, .null, .null, .int 0]))] _ s H _ := hN
  refine q_ald_n cx dX11_init_48 rfl (lv_at hl 0 rfl) ?_
  refine n_new (ci := 2) (fs := [.null, .int 0, .int 0]) cx hA hN q_inX2 q_yX2 q_h491 q_h492 q_h145 rfl n_dfX2 (by decide) (by decide) dX11_init_49 (fun x4 H hN => ?_)
  refine lv_dup cx.1 cx.2.1 dX11_init_52 rfl ?_
  refine n_callI (Xs := [(b, .inr (11, [.ref x0, .ref x1, .ref x2, .ref x3, .null, .null, .null, .null, .null, .int 0]))]) (k := 2) cx hE hA hN (n_History l g) (fun L1 f1 L2 f2 h _ h2 => by obtain ⟨u0, h3, h4⟩ := h2; exact ⟨u0, h3.mono h, n_kz_tr h h4⟩) q_h145 q_h493 q_h494 q_h495 rfl (by decide +kernel) ⟨by decide, by decide, by decide⟩ hl.1 (Nat.le_of_ble_eq_true rfl) dX11_init_53 (fun K L f H locs h4 k4 o4 p4 hN => ?_)
  obtain ⟨y4_0, p4, v4⟩ := p4
  have k0 := (o4 _ h0).2.1.trans k0
  have h0 := (o4 _ h0).1
  have p0 := p0.mono (fun a ha => ⟨(o4 a ha).1, (o4 a ha).2.2⟩)
  have k1 := (o4 _ h1).2.1.trans k1
  have h1 := (o4 _ h1).1
  have p1 := p1.mono (fun a ha => ⟨(o4 a ha).1, (o4 a ha).2.2⟩)
  have k2 := (o4 _ h2).2.1.trans k2
  have h2 := (o4 _ h2).1
  have p2 := p2.mono (fun a ha => ⟨(o4 a ha).1, (o4 a ha).2.2⟩)
  have k3 := (o4 _ h3).2.1.trans k3
  have h3 := (o4 _ h3).1
  have p3 := p3.mono (fun a ha => ⟨(o4 a ha).1, (o4 a ha).2.2⟩)
  have v2 := n_cj_tr (fun a ha => ⟨(o4 a ha).1, (o4 a ha).2.2⟩) v2
  have hN : q_N g _ _ (fun q => q = b ∨ s.heap.size ≤ q) [(b, .inr (11, [.ref x0, .ref x1, .ref x2, .ref x3, .null, .null, .null, .null, .null, .int 0]))] _ s H _ := hN
  refine n_putF cx hN 0 rfl rfl 4 (by decide) q_inX11 tyX11 q_yX11 q_nX11 q_h531 rfl rfl hin rfl (q_yX11 4 (by decide)) rfl rfl (Nat.le_of_ble_eq_true rfl) dX11_init_56 (fun H locs hN => ?_)
  have hN : q_N g _ _ (fun q => q = b ∨ s.heap.size ≤ q) [(b, .inr (11, [.ref x0, .ref x1, .ref x2, .ref x3, .ref x4, .null, .null, .null, .null, .int 0]))] _ s H _ := hN
  refine q_ald_n cx dX11_init_59 rfl (lv_at hl 0 rfl) ?_
  refine n_new (ci := 6) (fs := [.null, .int 0]) cx hA hN q_inX6 q_yX6 q_h511 q_h512 q_h146 rfl n_dfX6 (by decide) (by decide) dX11_init_60 (fun x5 H hN => ?_)
  refine lv_dup cx.1 cx.2.1 dX11_init_63 rfl ?_
  refine n_callIN (Xs := [(b, .inr (11, [.ref x0, .ref x1, .ref x2, .ref x3, .ref x4, .null, .null, .null, .null, .int 0]))]) (k := 6) cx hE hA hN (n_X6 l g) (fun L1 f1 L2 f2 h _ h2 => by obtain ⟨u0, h3⟩ := h2; exact ⟨u0, h3.mono h⟩) q_h146 (by decide +kernel) q_h514 q_h515 rfl (by decide +kernel) ⟨by decide, by decide, by decide⟩ hl.1 (Nat.le_of_ble_eq_true rfl) dX11_init_64 (fun K L f H locs h5 k5 o5 p5 hN => ?_)
  obtain ⟨y5_0, p5⟩ := p5
  have k0 := (o5 _ h0).2.1.trans k0
  have h0 := (o5 _ h0).1
  have p0 := p0.mono (fun a ha => ⟨(o5 a ha).1, (o5 a ha).2.2⟩)
  have k1 := (o5 _ h1).2.1.trans k1
  have h1 := (o5 _ h1).1
  have p1 := p1.mono (fun a ha => ⟨(o5 a ha).1, (o5 a ha).2.2⟩)
  have k2 := (o5 _ h2).2.1.trans k2
  have h2 := (o5 _ h2).1
  have p2 := p2.mono (fun a ha => ⟨(o5 a ha).1, (o5 a ha).2.2⟩)
  have k3 := (o5 _ h3).2.1.trans k3
  have h3 := (o5 _ h3).1
  have p3 := p3.mono (fun a ha => ⟨(o5 a ha).1, (o5 a ha).2.2⟩)
  have k4 := (o5 _ h4).2.1.trans k4
  have h4 := (o5 _ h4).1
  have p4 := p4.mono (fun a ha => ⟨(o5 a ha).1, (o5 a ha).2.2⟩)
  have v2 := n_cj_tr (fun a ha => ⟨(o5 a ha).1, (o5 a ha).2.2⟩) v2
  have v4 := n_kz_tr (fun a ha => ⟨(o5 a ha).1, (o5 a ha).2.2⟩) v4
  have hN : q_N g _ _ (fun q => q = b ∨ s.heap.size ≤ q) [(b, .inr (11, [.ref x0, .ref x1, .ref x2, .ref x3, .ref x4, .null, .null, .null, .null, .int 0]))] _ s H _ := hN
  refine n_putF cx hN 0 rfl rfl 5 (by decide) q_inX11 tyX11 q_yX11 q_nX11 q_h532 rfl rfl hin rfl (q_yX11 5 (by decide)) rfl rfl (Nat.le_of_ble_eq_true rfl) dX11_init_67 (fun H locs hN => ?_)
  have hN : q_N g _ _ (fun q => q = b ∨ s.heap.size ≤ q) [(b, .inr (11, [.ref x0, .ref x1, .ref x2, .ref x3, .ref x4, .ref x5, .null, .null, .null, .int 0]))] _ s H _ := hN
  refine q_ald_n cx dX11_init_70 rfl (lv_at hl 0 rfl) ?_
  refine n_new (ci := 10) (fs := [.null, .null, .null, .int 0, .int 0, .int 0, .int 0, .int 0, .int 0, .int 0, .int 0, .int 0, .int 0, .int 0, .int 0, .int 0]) cx hA hN q_inX10 q_yX10 q_h525 q_h287 q_h141 rfl n_dfX10 (by decide) (by decide) dX11_init_71 (fun x6 H hN => ?_)
  refine lv_dup cx.1 cx.2.1 dX11_init_74 rfl ?_
  refine n_callI (Xs := [(b, .inr (11, [.ref x0, .ref x1, .ref x2, .ref x3, .ref x4, .ref x5, .null, .null, .null, .int 0]))]) (k := 10) cx hE hA hN (n_V0 l g) (fun L1 f1 L2 f2 h _ h2 => by obtain ⟨u0, u1, u2, h3, h4⟩ := h2; exact ⟨u0, u1, u2, h3.mono h, n_vl_tr h h4⟩) q_h141 q_h526 q_h289 q_h290 rfl (by decide +kernel) ⟨by decide, by decide, by decide⟩ hl.1 (Nat.le_of_ble_eq_true rfl) dX11_init_75 (fun K L f H locs h6 k6 o6 p6 hN => ?_)
  obtain ⟨y6_0, y6_1, y6_2, p6, v6⟩ := p6
  have k0 := (o6 _ h0).2.1.trans k0
  have h0 := (o6 _ h0).1
  have p0 := p0.mono (fun a ha => ⟨(o6 a ha).1, (o6 a ha).2.2⟩)
  have k1 := (o6 _ h1).2.1.trans k1
  have h1 := (o6 _ h1).1
  have p1 := p1.mono (fun a ha => ⟨(o6 a ha).1, (o6 a ha).2.2⟩)
  have k2 := (o6 _ h2).2.1.trans k2
  have h2 := (o6 _ h2).1
  have p2 := p2.mono (fun a ha => ⟨(o6 a ha).1, (o6 a ha).2.2⟩)
  have k3 := (o6 _ h3).2.1.trans k3
  have h3 := (o6 _ h3).1
  have p3 := p3.mono (fun a ha => ⟨(o6 a ha).1, (o6 a ha).2.2⟩)
  have k4 := (o6 _ h4).2.1.trans k4
  have h4 := (o6 _ h4).1
  have p4 := p4.mono (fun a ha => ⟨(o6 a ha).1, (o6 a ha).2.2⟩)
  have k5 := (o6 _ h5).2.1.trans k5
  have h5 := (o6 _ h5).1
  have p5 := p5.mono (fun a ha => ⟨(o6 a ha).1, (o6 a ha).2.2⟩)
  have v2 := n_cj_tr (fun a ha => ⟨(o6 a ha).1, (o6 a ha).2.2⟩) v2
  have v4 := n_kz_tr (fun a ha => ⟨(o6 a ha).1, (o6 a ha).2.2⟩) v4
  have hN : q_N g _ _ (fun q => q = b ∨ s.heap.size ≤ q) [(b, .inr (11, [.ref x0, .ref x1, .ref x2, .ref x3, .ref x4, .ref x5, .null, .null, .null, .int 0]))] _ s H _ := hN
  refine n_putF cx hN 0 rfl rfl 6 (by decide) q_inX11 tyX11 q_yX11 q_nX11 q_h533 rfl rfl hin rfl (q_yX11 6 (by decide)) rfl rfl (Nat.le_of_ble_eq_true rfl) dX11_init_78 (fun H locs hN => ?_)
  have hN : q_N g _ _ (fun q => q = b ∨ s.heap.size ≤ q) [(b, .inr (11, [.ref x0, .ref x1, .ref x2, .ref x3, .ref x4, .ref x5, .ref x6, .null, .null, .int 0]))] _ s H _ := hN
  refine q_ald_n cx dX11_init_81 rfl (lv_at hl 0 rfl) ?_
  refine n_new (ci := 10) (fs := [.null, .null, .null, .int 0, .int 0, .int 0, .int 0, .int 0, .int 0, .int 0, .int 0, .int 0, .int 0, .int 0, .int 0, .int 0]) cx hA hN q_inX10 q_yX10 q_h525 q_h287 q_h141 rfl n_dfX10 (by decide) (by decide) dX11_init_82 (fun x7 H hN => ?_)
  refine lv_dup cx.1 cx.2.1 dX11_init_85 rfl ?_
  refine n_callI (Xs := [(b, .inr (11, [.ref x0, .ref x1, .ref x2, .ref x3, .ref x4, .ref x5, .ref x6, .null, .null, .int 0]))]) (k := 13) cx hE hA hN (n_V1 l g) (fun L1 f1 L2 f2 h _ h2 => by obtain ⟨u0, u1, u2, h3, h4⟩ := h2; exact ⟨u0, u1, u2, h3.mono h, n_vl_tr h h4⟩) q_h141 q_h526 q_h289 q_h290 rfl (by decide +kernel) ⟨by decide, by decide, by decide⟩ hl.1 (Nat.le_of_ble_eq_true rfl) dX11_init_86 (fun K L f H locs h7 k7 o7 p7 hN => ?_)
  obtain ⟨y7_0, y7_1, y7_2, p7, v7⟩ := p7
  have k0 := (o7 _ h0).2.1.trans k0
  have h0 := (o7 _ h0).1
  have p0 := p0.mono (fun a ha => ⟨(o7 a ha).1, (o7 a ha).2.2⟩)
  have k1 := (o7 _ h1).2.1.trans k1
  have h1 := (o7 _ h1).1
  have p1 := p1.mono (fun a ha => ⟨(o7 a ha).1, (o7 a ha).2.2⟩)
  have k2 := (o7 _ h2).2.1.trans k2
  have h2 := (o7 _ h2).1
  have p2 := p2.mono (fun a ha => ⟨(o7 a ha).1, (o7 a ha).2.2⟩)
  have k3 := (o7 _ h3).2.1.trans k3
  have h3 := (o7 _ h3).1
  have p3 := p3.mono (fun a ha => ⟨(o7 a ha).1, (o7 a ha).2.2⟩)
  have k4 := (o7 _ h4).2.1.trans k4
  have h4 := (o7 _ h4).1
  have p4 := p4.mono (fun a ha => ⟨(o7 a ha).1, (o7 a ha).2.2⟩)
  have k5 := (o7 _ h5).2.1.trans k5
  have h5 := (o7 _ h5).1
  have p5 := p5.mono (fun a ha => ⟨(o7 a ha).1, (o7 a ha).2.2⟩)
  have k6 := (o7 _ h6).2.1.trans k6
  have h6 := (o7 _ h6).1
  have p6 := p6.mono (fun a ha => ⟨(o7 a ha).1, (o7 a ha).2.2⟩)
  have v2 := n_cj_tr (fun a ha => ⟨(o7 a ha).1, (o7 a ha).2.2⟩) v2
  have v4 := n_kz_tr (fun a ha => ⟨(o7 a ha).1, (o7 a ha).2.2⟩) v4
  have v6 := n_vl_tr (fun a ha => ⟨(o7 a ha).1, (o7 a ha).2.2⟩) v6
  have hN : q_N g _ _ (fun q => q = b ∨ s.heap.size ≤ q) [(b, .inr (11, [.ref x0, .ref x1, .ref x2, .ref x3, .ref x4, .ref x5, .ref x6, .null, .null, .int 0]))] _ s H _ := hN
  refine n_putF cx hN 0 rfl rfl 7 (by decide) q_inX11 tyX11 q_yX11 q_nX11 q_h534 rfl rfl hin rfl (q_yX11 7 (by decide)) rfl rfl (Nat.le_of_ble_eq_true rfl) dX11_init_89 (fun H locs hN => ?_)
  have hN : q_N g _ _ (fun q => q = b ∨ s.heap.size ≤ q) [(b, .inr (11, [.ref x0, .ref x1, .ref x2, .ref x3, .ref x4, .ref x5, .ref x6, .ref x7, .null, .int 0]))] _ s H _ := hN
  refine q_ald_n cx dX11_init_92 rfl (lv_at hl 0 rfl) ?_
  refine n_new (ci := 10) (fs := [.null, .null, .null, .int 0, .int 0, .int 0, .int 0, .int 0, .int 0, .int 0, .int 0, .int 0, .int 0, .int 0, .int 0, .int 0]) cx hA hN q_inX10 q_yX10 q_h525 q_h287 q_h141 rfl n_dfX10 (by decide) (by decide) dX11_init_93 (fun x8 H hN => ?_)
  refine lv_dup cx.1 cx.2.1 dX11_init_96 rfl ?_
  refine n_callI (Xs := [(b, .inr (11, [.ref x0, .ref x1, .ref x2, .ref x3, .ref x4, .ref x5, .ref x6, .ref x7, .null, .int 0]))]) (k := 14) cx hE hA hN (n_V2 l g) (fun L1 f1 L2 f2 h _ h2 => by obtain ⟨u0, u1, u2, h3, h4⟩ := h2; exact ⟨u0, u1, u2, h3.mono h, n_vl_tr h h4⟩) q_h141 q_h526 q_h289 q_h290 rfl (by decide +kernel) ⟨by decide, by decide, by decide⟩ hl.1 (Nat.le_of_ble_eq_true rfl) dX11_init_97 (fun K L f H locs h8 k8 o8 p8 hN => ?_)
  obtain ⟨y8_0, y8_1, y8_2, p8, v8⟩ := p8
  have k0 := (o8 _ h0).2.1.trans k0
  have h0 := (o8 _ h0).1
  have p0 := p0.mono (fun a ha => ⟨(o8 a ha).1, (o8 a ha).2.2⟩)
  have k1 := (o8 _ h1).2.1.trans k1
  have h1 := (o8 _ h1).1
  have p1 := p1.mono (fun a ha => ⟨(o8 a ha).1, (o8 a ha).2.2⟩)
  have k2 := (o8 _ h2).2.1.trans k2
  have h2 := (o8 _ h2).1
  have p2 := p2.mono (fun a ha => ⟨(o8 a ha).1, (o8 a ha).2.2⟩)
  have k3 := (o8 _ h3).2.1.trans k3
  have h3 := (o8 _ h3).1
  have p3 := p3.mono (fun a ha => ⟨(o8 a ha).1, (o8 a ha).2.2⟩)
  have k4 := (o8 _ h4).2.1.trans k4
  have h4 := (o8 _ h4).1
  have p4 := p4.mono (fun a ha => ⟨(o8 a ha).1, (o8 a ha).2.2⟩)
  have k5 := (o8 _ h5).2.1.trans k5
  have h5 := (o8 _ h5).1
  have p5 := p5.mono (fun a ha => ⟨(o8 a ha).1, (o8 a ha).2.2⟩)
  have k6 := (o8 _ h6).2.1.trans k6
  have h6 := (o8 _ h6).1
  have p6 := p6.mono (fun a ha => ⟨(o8 a ha).1, (o8 a ha).2.2⟩)
  have k7 := (o8 _ h7).2.1.trans k7
  have h7 := (o8 _ h7).1
  have p7 := p7.mono (fun a ha => ⟨(o8 a ha).1, (o8 a ha).2.2⟩)
  have v2 := n_cj_tr (fun a ha => ⟨(o8 a ha).1, (o8 a ha).2.2⟩) v2
  have v4 := n_kz_tr (fun a ha => ⟨(o8 a ha).1, (o8 a ha).2.2⟩) v4
  have v6 := n_vl_tr (fun a ha => ⟨(o8 a ha).1, (o8 a ha).2.2⟩) v6
  have v7 := n_vl_tr (fun a ha => ⟨(o8 a ha).1, (o8 a ha).2.2⟩) v7
  have hN : q_N g _ _ (fun q => q = b ∨ s.heap.size ≤ q) [(b, .inr (11, [.ref x0, .ref x1, .ref x2, .ref x3, .ref x4, .ref x5, .ref x6, .ref x7, .null, .int 0]))] _ s H _ := hN
  refine n_putF cx hN 0 rfl rfl 8 (by decide) q_inX11 tyX11 q_yX11 q_nX11 q_h535 rfl rfl hin rfl (q_yX11 8 (by decide)) rfl rfl (Nat.le_of_ble_eq_true rfl) dX11_init_100 (fun H locs hN => ?_)
  have hN : q_N g _ _ (fun q => q = b ∨ s.heap.size ≤ q) [(b, .inr (11, [.ref x0, .ref x1, .ref x2, .ref x3, .ref x4, .ref x5, .ref x6, .ref x7, .ref x8, .int 0]))] _ s H _ := hN
  obtain ⟨K, L, f, hb, kb, fb, ob, hN⟩ := n_seal (Xs := []) (k := 11) hN (n_shO (by decide) ⟨⟨x0, rfl, h0, k0⟩, ⟨x1, rfl, h1, k1⟩, ⟨x2, rfl, h2, k2⟩, ⟨x3, rfl, h3, k3⟩, ⟨x4, rfl, h4, k4⟩, ⟨x5, rfl, h5, k5⟩, ⟨x6, rfl, h6, k6⟩, ⟨x7, rfl, h7, k7⟩, ⟨x8, rfl, h8, k8⟩, ⟨_, rfl, by decide, by decide⟩, trivial⟩)
  exact n_ret cx hr hlk hN hb kb ⟨x0, x1, x2, x3, x4, x5, x6, x7, x8, y0_0, y2_0, y3_0, y4_0, y5_0, y6_0, y6_1, y6_2, y7_0, y7_1, y7_2, y8_0, y8_1, y8_2, (((((((((q_Has.one hb fb).app (p0.mono (fun a ha => ⟨(ob a ha).1, (ob a ha).2.2⟩))).app (p1.mono (fun a ha => ⟨(ob a ha).1, (ob a ha).2.2⟩))).app (p2.mono (fun a ha => ⟨(ob a ha).1, (ob a ha).2.2⟩))).app (p3.mono (fun a ha => ⟨(ob a ha).1, (ob a ha).2.2⟩))).app (p4.mono (fun a ha => ⟨(ob a ha).1, (ob a ha).2.2⟩))).app (p5.mono (fun a ha => ⟨(ob a ha).1, (ob a ha).2.2⟩))).app (p6.mono (fun a ha => ⟨(ob a ha).1, (ob a ha).2.2⟩))).app (p7.mono (fun a ha => ⟨(ob a ha).1, (ob a ha).2.2⟩))).app (p8.mono (fun a ha => ⟨(ob a ha).1, (ob a ha).2.2⟩)), n_kz_tr (fun a ha => ⟨(ob a ha).1, (ob a ha).2.2⟩) v4, n_vl_tr (fun a ha => ⟨(ob a ha).1, (ob a ha).2.2⟩) v6, n_vl_tr (fun a ha => ⟨(ob a ha).1, (ob a ha).2.2⟩) v7, n_vl_tr (fun a ha => ⟨(ob a ha).1, (ob a ha).2.2⟩) v8, n_cj_tr (fun a ha => ⟨(ob a ha).1, (ob a ha).2.2⟩) v2⟩ dX11_init_103
def n_PM : List Nat → (Nat → va_E) → Nat → Prop := (fun L f b => q_r f b 13 ∈ L ∧ (q_z f b 2 = 0 ∧ q_z f b 21 = 0 ∧ q_z f b 22 = 0 ∧ q_z f b 10 = 0 ∧ q_z f b 11 = -1) ∧ q_gr f (q_r f b 13) ∧ q_z f (q_r f b 13) 3 ≤ 9999 ∧ q_z f (q_r f b 13) 4 ≤ 60 ∧ q_z f (q_r f b 13) 0 = 0)
theorem n_PMm {L L2 : List Nat} {f f2 : Nat → va_E} {b : Nat} (h : ∀ a ∈ L, a ∈ L2 ∧ f2 a = f a) (hb : b ∈ L) (hp : n_PM L f b) : n_PM L2 f2 b := by
  unfold n_PM at hp ⊢
  obtain ⟨h0, h1, h2, h3, h4, h5⟩ := hp
  have e1 := (h b hb).2
  have e2 := (h _ h0).2
  simp only [q_zc e1, q_rc e1, q_zc e2]
  exact ⟨(h _ h0).1, h1, fun i hi => by rw [q_zc e2]; exact h2 i hi, h3, h4, h5⟩
set_option maxHeartbeats 4000000 in
set_option maxRecDepth 100000 in
theorem n_Model (l : Launch) (g : q_G) : q_Nw l g yX12_init cX12_init 1 1 21 18 7954 12 [.int 0, .null, .int 0, .int 0, .int 0, .int 0, .int 0, .int 0, .int 0, .int 0, .int 0, .int 0, .long 0, .null, .null, .null, .null, .null, .null, .null, .null, .int 0, .int 0, .int 0, .null, .null, .int 0, .int 0, .int 0, .null, .null, .null, .null, .null, .null, .int 0, .int 0, .int 0, .null, .int 0, .int 0] 12 n_PM := by
  refine n_ofb (by decide +kernel) rfl (by decide) ?_
  intro p e s m below meth c ls b cx hr hlk hin hE hN hl
  have hA : ∀ q, s.heap.size ≤ q → (fun q => q = b ∨ s.heap.size ≤ q) q := fun q h => Or.inr h
  have hl : lv_has ls 1 [(0, .ref b)] := hl
  refine q_ald_n cx dX12_init_0 rfl (lv_at hl 0 rfl) ?_
  refine n_objInit cx q_h1544 q_h167 q_h168 hl.1 dX12_init_1 (by decide) (by decide) ?_
  refine q_ald_n cx dX12_init_4 rfl (lv_at hl 0 rfl) ?_
  refine q_sipush cx dX12_init_5 rfl ?_
  refine n_newarr (atype := .int) (t0 := 1) (k := 150) (N' := 600) (x0 := .inl (fun _ => 0)) (ty := .int) cx hA hN q_h1673 rfl rfl (fun _ => rfl) ⟨by decide, by decide⟩ (by decide) rfl (by decide) (by decide) (by decide) (n_shI (by decide) rfl (Or.inr rfl) (fun i => rfl)) dX12_init_8 (fun a1 K L f H ha1 ka1 fa1 oa1 hN => ?_)
  have hN : q_N g _ _ (fun q => q = b ∨ s.heap.size ≤ q) [(b, .inr (12, [.int 0, .null, .int 0, .int 0, .int 0, .int 0, .int 0, .int 0, .int 0, .int 0, .int 0, .int 0, .long 0, .null, .null, .null, .null, .null, .null, .null, .null, .int 0, .int 0, .int 0, .null, .null, .int 0, .int 0, .int 0, .null, .null, .null, .null, .null, .null, .int 0, .int 0, .int 0, .null, .int 0, .int 0]))] _ s H _ := hN
  refine n_putF cx hN 0 rfl rfl 1 (by decide) q_inX12 tyX12 q_yX12 q_nX12 q_h1550 rfl rfl hin rfl (q_yX12 1 (by decide)) rfl rfl (Nat.le_of_ble_eq_true rfl) dX12_init_10 (fun H locs hN => ?_)
  have hN : q_N g _ _ (fun q => q = b ∨ s.heap.size ≤ q) [(b, .inr (12, [.int 0, .ref a1, .int 0, .int 0, .int 0, .int 0, .int 0, .int 0, .int 0, .int 0, .int 0, .int 0, .long 0, .null, .null, .null, .null, .null, .null, .null, .null, .int 0, .int 0, .int 0, .null, .null, .int 0, .int 0, .int 0, .null, .null, .null, .null, .null, .null, .int 0, .int 0, .int 0, .null, .int 0, .int 0]))] _ s H _ := hN
  refine q_ald_n cx dX12_init_13 rfl (lv_at hl 0 rfl) ?_
  refine q_iconst cx dX12_init_14 ?_
  refine n_put cx hN 0 rfl rfl 9 (by decide) q_inX12 tyX12 q_yX12 q_nX12 q_h1558 rfl rfl (q_yX12 9 (by decide)) rfl rfl (Nat.le_of_ble_eq_true rfl) dX12_init_15 (fun H locs hN => ?_)
  have hN : q_N g _ _ (fun q => q = b ∨ s.heap.size ≤ q) [(b, .inr (12, [.int 0, .ref a1, .int 0, .int 0, .int 0, .int 0, .int 0, .int 0, .int 0, .int (q_i (-1)), .int 0, .int 0, .long 0, .null, .null, .null, .null, .null, .null, .null, .null, .int 0, .int 0, .int 0, .null, .null, .int 0, .int 0, .int 0, .null, .null, .null, .null, .null, .null, .int 0, .int 0, .int 0, .null, .int 0, .int 0]))] _ s H _ := hN
  refine q_ald_n cx dX12_init_18 rfl (lv_at hl 0 rfl) ?_
  refine q_iconst cx dX12_init_19 ?_
  refine n_put cx hN 0 rfl rfl 11 (by decide) q_inX12 tyX12 q_yX12 q_nX12 q_h1560 rfl rfl (q_yX12 11 (by decide)) rfl rfl (Nat.le_of_ble_eq_true rfl) dX12_init_20 (fun H locs hN => ?_)
  have hN : q_N g _ _ (fun q => q = b ∨ s.heap.size ≤ q) [(b, .inr (12, [.int 0, .ref a1, .int 0, .int 0, .int 0, .int 0, .int 0, .int 0, .int 0, .int (q_i (-1)), .int 0, .int (q_i (-1)), .long 0, .null, .null, .null, .null, .null, .null, .null, .null, .int 0, .int 0, .int 0, .null, .null, .int 0, .int 0, .int 0, .null, .null, .null, .null, .null, .null, .int 0, .int 0, .int 0, .null, .int 0, .int 0]))] _ s H _ := hN
  refine q_ald_n cx dX12_init_23 rfl (lv_at hl 0 rfl) ?_
  refine q_sipush cx dX12_init_24 rfl ?_
  refine n_newarr (atype := .int) (t0 := 1) (k := 151) (N' := 658) (x0 := .inl (fun _ => 0)) (ty := .int) cx hA hN q_h1673 rfl rfl (fun _ => rfl) ⟨by decide, by decide⟩ (by decide) rfl (by decide) (by decide) (by decide) (n_shI (by decide) rfl (Or.inr rfl) (fun i => q_ewz3 _)) dX12_init_27 (fun a13 K L f H ha13 ka13 fa13 oa13 hN => ?_)
  have ka1 := (oa13 _ ha1).2.1.trans ka1
  have ha1 := (oa13 _ ha1).1
  have hN : q_N g _ _ (fun q => q = b ∨ s.heap.size ≤ q) [(b, .inr (12, [.int 0, .ref a1, .int 0, .int 0, .int 0, .int 0, .int 0, .int 0, .int 0, .int (q_i (-1)), .int 0, .int (q_i (-1)), .long 0, .null, .null, .null, .null, .null, .null, .null, .null, .int 0, .int 0, .int 0, .null, .null, .int 0, .int 0, .int 0, .null, .null, .null, .null, .null, .null, .int 0, .int 0, .int 0, .null, .int 0, .int 0]))] _ s H _ := hN
  refine n_putF cx hN 0 rfl rfl 13 (by decide) q_inX12 tyX12 q_yX12 q_nX12 q_h1562 rfl rfl hin rfl (q_yX12 13 (by decide)) rfl rfl (Nat.le_of_ble_eq_true rfl) dX12_init_29 (fun H locs hN => ?_)
  have hN : q_N g _ _ (fun q => q = b ∨ s.heap.size ≤ q) [(b, .inr (12, [.int 0, .ref a1, .int 0, .int 0, .int 0, .int 0, .int 0, .int 0, .int 0, .int (q_i (-1)), .int 0, .int (q_i (-1)), .long 0, .ref a13, .null, .null, .null, .null, .null, .null, .null, .int 0, .int 0, .int 0, .null, .null, .int 0, .int 0, .int 0, .null, .null, .null, .null, .null, .null, .int 0, .int 0, .int 0, .null, .int 0, .int 0]))] _ s H _ := hN
  refine q_ald_n cx dX12_init_32 rfl (lv_at hl 0 rfl) ?_
  refine q_sipush cx dX12_init_33 rfl ?_
  refine n_newarr (atype := .int) (t0 := 1) (k := 152) (N' := 658) (x0 := .inl (fun _ => 0)) (ty := .int) cx hA hN q_h1673 rfl rfl (fun _ => rfl) ⟨by decide, by decide⟩ (by decide) rfl (by decide) (by decide) (by decide) (n_shI (by decide) rfl (Or.inr rfl) (fun i => q_erz _)) dX12_init_36 (fun a14 K L f H ha14 ka14 fa14 oa14 hN => ?_)
  have ka1 := (oa14 _ ha1).2.1.trans ka1
  have ha1 := (oa14 _ ha1).1
  have ka13 := (oa14 _ ha13).2.1.trans ka13
  have ha13 := (oa14 _ ha13).1
  have hN : q_N g _ _ (fun q => q = b ∨ s.heap.size ≤ q) [(b, .inr (12, [.int 0, .ref a1, .int 0, .int 0, .int 0, .int 0, .int 0, .int 0, .int 0, .int (q_i (-1)), .int 0, .int (q_i (-1)), .long 0, .ref a13, .null, .null, .null, .null, .null, .null, .null, .int 0, .int 0, .int 0, .null, .null, .int 0, .int 0, .int 0, .null, .null, .null, .null, .null, .null, .int 0, .int 0, .int 0, .null, .int 0, .int 0]))] _ s H _ := hN
  refine n_putF cx hN 0 rfl rfl 14 (by decide) q_inX12 tyX12 q_yX12 q_nX12 q_h1563 rfl rfl hin rfl (q_yX12 14 (by decide)) rfl rfl (Nat.le_of_ble_eq_true rfl) dX12_init_38 (fun H locs hN => ?_)
  have hN : q_N g _ _ (fun q => q = b ∨ s.heap.size ≤ q) [(b, .inr (12, [.int 0, .ref a1, .int 0, .int 0, .int 0, .int 0, .int 0, .int 0, .int 0, .int (q_i (-1)), .int 0, .int (q_i (-1)), .long 0, .ref a13, .ref a14, .null, .null, .null, .null, .null, .null, .int 0, .int 0, .int 0, .null, .null, .int 0, .int 0, .int 0, .null, .null, .null, .null, .null, .null, .int 0, .int 0, .int 0, .null, .int 0, .int 0]))] _ s H _ := hN
  refine q_ald_n cx dX12_init_41 rfl (lv_at hl 0 rfl) ?_
  refine q_sipush cx dX12_init_42 rfl ?_
  refine n_newarr (atype := .int) (t0 := 1) (k := 153) (N' := 658) (x0 := .inl (fun _ => 0)) (ty := .int) cx hA hN q_h1673 rfl rfl (fun _ => rfl) ⟨by decide, by decide⟩ (by decide) rfl (by decide) (by decide) (by decide) (n_shI (by decide) rfl (Or.inr rfl) (fun i => q_erz _)) dX12_init_45 (fun a15 K L f H ha15 ka15 fa15 oa15 hN => ?_)
  have ka1 := (oa15 _ ha1).2.1.trans ka1
  have ha1 := (oa15 _ ha1).1
  have ka13 := (oa15 _ ha13).2.1.trans ka13
  have ha13 := (oa15 _ ha13).1
  have ka14 := (oa15 _ ha14).2.1.trans ka14
  have ha14 := (oa15 _ ha14).1
  have hN : q_N g _ _ (fun q => q = b ∨ s.heap.size ≤ q) [(b, .inr (12, [.int 0, .ref a1, .int 0, .int 0, .int 0, .int 0, .int 0, .int 0, .int 0, .int (q_i (-1)), .int 0, .int (q_i (-1)), .long 0, .ref a13, .ref a14, .null, .null, .null, .null, .null, .null, .int 0, .int 0, .int 0, .null, .null, .int 0, .int 0, .int 0, .null, .null, .null, .null, .null, .null, .int 0, .int 0, .int 0, .null, .int 0, .int 0]))] _ s H _ := hN
  refine n_putF cx hN 0 rfl rfl 15 (by decide) q_inX12 tyX12 q_yX12 q_nX12 q_h1564 rfl rfl hin rfl (q_yX12 15 (by decide)) rfl rfl (Nat.le_of_ble_eq_true rfl) dX12_init_47 (fun H locs hN => ?_)
  have hN : q_N g _ _ (fun q => q = b ∨ s.heap.size ≤ q) [(b, .inr (12, [.int 0, .ref a1, .int 0, .int 0, .int 0, .int 0, .int 0, .int 0, .int 0, .int (q_i (-1)), .int 0, .int (q_i (-1)), .long 0, .ref a13, .ref a14, .ref a15, .null, .null, .null, .null, .null, .int 0, .int 0, .int 0, .null, .null, .int 0, .int 0, .int 0, .null, .null, .null, .null, .null, .null, .int 0, .int 0, .int 0, .null, .int 0, .int 0]))] _ s H _ := hN
  refine q_ald_n cx dX12_init_50 rfl (lv_at hl 0 rfl) ?_
  refine q_sipush cx dX12_init_51 rfl ?_
  refine n_newarr (atype := .int) (t0 := 1) (k := 154) (N' := 658) (x0 := .inl (fun _ => 0)) (ty := .int) cx hA hN q_h1673 rfl rfl (fun _ => rfl) ⟨by decide, by decide⟩ (by decide) rfl (by decide) (by decide) (by decide) (n_shI (by decide) rfl (Or.inr rfl) (fun i => q_erz _)) dX12_init_54 (fun a16 K L f H ha16 ka16 fa16 oa16 hN => ?_)
  have ka1 := (oa16 _ ha1).2.1.trans ka1
  have ha1 := (oa16 _ ha1).1
  have ka13 := (oa16 _ ha13).2.1.trans ka13
  have ha13 := (oa16 _ ha13).1
  have ka14 := (oa16 _ ha14).2.1.trans ka14
  have ha14 := (oa16 _ ha14).1
  have ka15 := (oa16 _ ha15).2.1.trans ka15
  have ha15 := (oa16 _ ha15).1
  have hN : q_N g _ _ (fun q => q = b ∨ s.heap.size ≤ q) [(b, .inr (12, [.int 0, .ref a1, .int 0, .int 0, .int 0, .int 0, .int 0, .int 0, .int 0, .int (q_i (-1)), .int 0, .int (q_i (-1)), .long 0, .ref a13, .ref a14, .ref a15, .null, .null, .null, .null, .null, .int 0, .int 0, .int 0, .null, .null, .int 0, .int 0, .int 0, .null, .null, .null, .null, .null, .null, .int 0, .int 0, .int 0, .null, .int 0, .int 0]))] _ s H _ := hN
  refine n_putF cx hN 0 rfl rfl 16 (by decide) q_inX12 tyX12 q_yX12 q_nX12 q_h1565 rfl rfl hin rfl (q_yX12 16 (by decide)) rfl rfl (Nat.le_of_ble_eq_true rfl) dX12_init_56 (fun H locs hN => ?_)
  have hN : q_N g _ _ (fun q => q = b ∨ s.heap.size ≤ q) [(b, .inr (12, [.int 0, .ref a1, .int 0, .int 0, .int 0, .int 0, .int 0, .int 0, .int 0, .int (q_i (-1)), .int 0, .int (q_i (-1)), .long 0, .ref a13, .ref a14, .ref a15, .ref a16, .null, .null, .null, .null, .int 0, .int 0, .int 0, .null, .null, .int 0, .int 0, .int 0, .null, .null, .null, .null, .null, .null, .int 0, .int 0, .int 0, .null, .int 0, .int 0]))] _ s H _ := hN
  refine q_ald_n cx dX12_init_59 rfl (lv_at hl 0 rfl) ?_
  refine q_sipush cx dX12_init_60 rfl ?_
  refine n_newarr (atype := .int) (t0 := 1) (k := 155) (N' := 3948) (x0 := .inl (fun _ => 0)) (ty := .int) cx hA hN q_h1673 rfl rfl (fun _ => rfl) ⟨by decide, by decide⟩ (by decide) rfl (by decide) (by decide) (by decide) (n_shI (by decide) rfl (Or.inr rfl) (fun i => q_erz _)) dX12_init_63 (fun a17 K L f H ha17 ka17 fa17 oa17 hN => ?_)
  have ka1 := (oa17 _ ha1).2.1.trans ka1
  have ha1 := (oa17 _ ha1).1
  have ka13 := (oa17 _ ha13).2.1.trans ka13
  have ha13 := (oa17 _ ha13).1
  have ka14 := (oa17 _ ha14).2.1.trans ka14
  have ha14 := (oa17 _ ha14).1
  have ka15 := (oa17 _ ha15).2.1.trans ka15
  have ha15 := (oa17 _ ha15).1
  have ka16 := (oa17 _ ha16).2.1.trans ka16
  have ha16 := (oa17 _ ha16).1
  have hN : q_N g _ _ (fun q => q = b ∨ s.heap.size ≤ q) [(b, .inr (12, [.int 0, .ref a1, .int 0, .int 0, .int 0, .int 0, .int 0, .int 0, .int 0, .int (q_i (-1)), .int 0, .int (q_i (-1)), .long 0, .ref a13, .ref a14, .ref a15, .ref a16, .null, .null, .null, .null, .int 0, .int 0, .int 0, .null, .null, .int 0, .int 0, .int 0, .null, .null, .null, .null, .null, .null, .int 0, .int 0, .int 0, .null, .int 0, .int 0]))] _ s H _ := hN
  refine n_putF cx hN 0 rfl rfl 17 (by decide) q_inX12 tyX12 q_yX12 q_nX12 q_h1566 rfl rfl hin rfl (q_yX12 17 (by decide)) rfl rfl (Nat.le_of_ble_eq_true rfl) dX12_init_65 (fun H locs hN => ?_)
  have hN : q_N g _ _ (fun q => q = b ∨ s.heap.size ≤ q) [(b, .inr (12, [.int 0, .ref a1, .int 0, .int 0, .int 0, .int 0, .int 0, .int 0, .int 0, .int (q_i (-1)), .int 0, .int (q_i (-1)), .long 0, .ref a13, .ref a14, .ref a15, .ref a16, .ref a17, .null, .null, .null, .int 0, .int 0, .int 0, .null, .null, .int 0, .int 0, .int 0, .null, .null, .null, .null, .null, .null, .int 0, .int 0, .int 0, .null, .int 0, .int 0]))] _ s H _ := hN
  refine q_ald_n cx dX12_init_68 rfl (lv_at hl 0 rfl) ?_
  refine q_bipush cx dX12_init_69 rfl ?_
  refine n_newarr (atype := .long) (t0 := 2) (k := 156) (N' := 10) (x0 := .inr (.inl (fun _ => 0))) (ty := .long) cx hA hN q_h1674 rfl rfl (fun _ => rfl) ⟨by decide, by decide⟩ (by decide) rfl (by decide) (by decide) (by decide) (n_shL (by decide) rfl (fun _ => rfl)) dX12_init_71 (fun a18 K L f H ha18 ka18 fa18 oa18 hN => ?_)
  have ka1 := (oa18 _ ha1).2.1.trans ka1
  have ha1 := (oa18 _ ha1).1
  have ka13 := (oa18 _ ha13).2.1.trans ka13
  have ha13 := (oa18 _ ha13).1
  have ka14 := (oa18 _ ha14).2.1.trans ka14
  have ha14 := (oa18 _ ha14).1
  have ka15 := (oa18 _ ha15).2.1.trans ka15
  have ha15 := (oa18 _ ha15).1
  have ka16 := (oa18 _ ha16).2.1.trans ka16
  have ha16 := (oa18 _ ha16).1
  have ka17 := (oa18 _ ha17).2.1.trans ka17
  have ha17 := (oa18 _ ha17).1
  have hN : q_N g _ _ (fun q => q = b ∨ s.heap.size ≤ q) [(b, .inr (12, [.int 0, .ref a1, .int 0, .int 0, .int 0, .int 0, .int 0, .int 0, .int 0, .int (q_i (-1)), .int 0, .int (q_i (-1)), .long 0, .ref a13, .ref a14, .ref a15, .ref a16, .ref a17, .null, .null, .null, .int 0, .int 0, .int 0, .null, .null, .int 0, .int 0, .int 0, .null, .null, .null, .null, .null, .null, .int 0, .int 0, .int 0, .null, .int 0, .int 0]))] _ s H _ := hN
  refine n_putF cx hN 0 rfl rfl 18 (by decide) q_inX12 tyX12 q_yX12 q_nX12 q_h1567 rfl rfl hin rfl (q_yX12 18 (by decide)) rfl rfl (Nat.le_of_ble_eq_true rfl) dX12_init_73 (fun H locs hN => ?_)
  have hN : q_N g _ _ (fun q => q = b ∨ s.heap.size ≤ q) [(b, .inr (12, [.int 0, .ref a1, .int 0, .int 0, .int 0, .int 0, .int 0, .int 0, .int 0, .int (q_i (-1)), .int 0, .int (q_i (-1)), .long 0, .ref a13, .ref a14, .ref a15, .ref a16, .ref a17, .ref a18, .null, .null, .int 0, .int 0, .int 0, .null, .null, .int 0, .int 0, .int 0, .null, .null, .null, .null, .null, .null, .int 0, .int 0, .int 0, .null, .int 0, .int 0]))] _ s H _ := hN
  refine q_ald_n cx dX12_init_76 rfl (lv_at hl 0 rfl) ?_
  refine q_bipush cx dX12_init_77 rfl ?_
  refine n_newarr (atype := .long) (t0 := 2) (k := 157) (N' := 10) (x0 := .inr (.inl (fun _ => 0))) (ty := .long) cx hA hN q_h1674 rfl rfl (fun _ => rfl) ⟨by decide, by decide⟩ (by decide) rfl (by decide) (by decide) (by decide) (n_shL (by decide) rfl (fun _ => rfl)) dX12_init_79 (fun a19 K L f H ha19 ka19 fa19 oa19 hN => ?_)
  have ka1 := (oa19 _ ha1).2.1.trans ka1
  have ha1 := (oa19 _ ha1).1
  have ka13 := (oa19 _ ha13).2.1.trans ka13
  have ha13 := (oa19 _ ha13).1
  have ka14 := (oa19 _ ha14).2.1.trans ka14
  have ha14 := (oa19 _ ha14).1
  have ka15 := (oa19 _ ha15).2.1.trans ka15
  have ha15 := (oa19 _ ha15).1
  have ka16 := (oa19 _ ha16).2.1.trans ka16
  have ha16 := (oa19 _ ha16).1
  have ka17 := (oa19 _ ha17).2.1.trans ka17
  have ha17 := (oa19 _ ha17).1
  have ka18 := (oa19 _ ha18).2.1.trans ka18
  have ha18 := (oa19 _ ha18).1
  have hN : q_N g _ _ (fun q => q = b ∨ s.heap.size ≤ q) [(b, .inr (12, [.int 0, .ref a1, .int 0, .int 0, .int 0, .int 0, .int 0, .int 0, .int 0, .int (q_i (-1)), .int 0, .int (q_i (-1)), .long 0, .ref a13, .ref a14, .ref a15, .ref a16, .ref a17, .ref a18, .null, .null, .int 0, .int 0, .int 0, .null, .null, .int 0, .int 0, .int 0, .null, .null, .null, .null, .null, .null, .int 0, .int 0, .int 0, .null, .int 0, .int 0]))] _ s H _ := hN
  refine n_putF cx hN 0 rfl rfl 19 (by decide) q_inX12 tyX12 q_yX12 q_nX12 q_h1568 rfl rfl hin rfl (q_yX12 19 (by decide)) rfl rfl (Nat.le_of_ble_eq_true rfl) dX12_init_81 (fun H locs hN => ?_)
  have hN : q_N g _ _ (fun q => q = b ∨ s.heap.size ≤ q) [(b, .inr (12, [.int 0, .ref a1, .int 0, .int 0, .int 0, .int 0, .int 0, .int 0, .int 0, .int (q_i (-1)), .int 0, .int (q_i (-1)), .long 0, .ref a13, .ref a14, .ref a15, .ref a16, .ref a17, .ref a18, .ref a19, .null, .int 0, .int 0, .int 0, .null, .null, .int 0, .int 0, .int 0, .null, .null, .null, .null, .null, .null, .int 0, .int 0, .int 0, .null, .int 0, .int 0]))] _ s H _ := hN
  refine q_ald_n cx dX12_init_84 rfl (lv_at hl 0 rfl) ?_
  refine q_bipush cx dX12_init_85 rfl ?_
  refine n_newarr (atype := .long) (t0 := 2) (k := 158) (N' := 10) (x0 := .inr (.inl (fun _ => 0))) (ty := .long) cx hA hN q_h1674 rfl rfl (fun _ => rfl) ⟨by decide, by decide⟩ (by decide) rfl (by decide) (by decide) (by decide) (n_shL (by decide) rfl (fun _ => rfl)) dX12_init_87 (fun a20 K L f H ha20 ka20 fa20 oa20 hN => ?_)
  have ka1 := (oa20 _ ha1).2.1.trans ka1
  have ha1 := (oa20 _ ha1).1
  have ka13 := (oa20 _ ha13).2.1.trans ka13
  have ha13 := (oa20 _ ha13).1
  have ka14 := (oa20 _ ha14).2.1.trans ka14
  have ha14 := (oa20 _ ha14).1
  have ka15 := (oa20 _ ha15).2.1.trans ka15
  have ha15 := (oa20 _ ha15).1
  have ka16 := (oa20 _ ha16).2.1.trans ka16
  have ha16 := (oa20 _ ha16).1
  have ka17 := (oa20 _ ha17).2.1.trans ka17
  have ha17 := (oa20 _ ha17).1
  have ka18 := (oa20 _ ha18).2.1.trans ka18
  have ha18 := (oa20 _ ha18).1
  have ka19 := (oa20 _ ha19).2.1.trans ka19
  have ha19 := (oa20 _ ha19).1
  have hN : q_N g _ _ (fun q => q = b ∨ s.heap.size ≤ q) [(b, .inr (12, [.int 0, .ref a1, .int 0, .int 0, .int 0, .int 0, .int 0, .int 0, .int 0, .int (q_i (-1)), .int 0, .int (q_i (-1)), .long 0, .ref a13, .ref a14, .ref a15, .ref a16, .ref a17, .ref a18, .ref a19, .null, .int 0, .int 0, .int 0, .null, .null, .int 0, .int 0, .int 0, .null, .null, .null, .null, .null, .null, .int 0, .int 0, .int 0, .null, .int 0, .int 0]))] _ s H _ := hN
  refine n_putF cx hN 0 rfl rfl 20 (by decide) q_inX12 tyX12 q_yX12 q_nX12 q_h1569 rfl rfl hin rfl (q_yX12 20 (by decide)) rfl rfl (Nat.le_of_ble_eq_true rfl) dX12_init_89 (fun H locs hN => ?_)
  have hN : q_N g _ _ (fun q => q = b ∨ s.heap.size ≤ q) [(b, .inr (12, [.int 0, .ref a1, .int 0, .int 0, .int 0, .int 0, .int 0, .int 0, .int 0, .int (q_i (-1)), .int 0, .int (q_i (-1)), .long 0, .ref a13, .ref a14, .ref a15, .ref a16, .ref a17, .ref a18, .ref a19, .ref a20, .int 0, .int 0, .int 0, .null, .null, .int 0, .int 0, .int 0, .null, .null, .null, .null, .null, .null, .int 0, .int 0, .int 0, .null, .int 0, .int 0]))] _ s H _ := hN
  refine q_ald_n cx dX12_init_92 rfl (lv_at hl 0 rfl) ?_
  refine q_bipush cx dX12_init_93 rfl ?_
  refine n_newarr (atype := .int) (t0 := 1) (k := 159) (N' := 10) (x0 := .inl (fun _ => 0)) (ty := .int) cx hA hN q_h1673 rfl rfl (fun _ => rfl) ⟨by decide, by decide⟩ (by decide) rfl (by decide) (by decide) (by decide) (n_shI (by decide) rfl (Or.inr rfl) (fun i => rfl)) dX12_init_95 (fun a24 K L f H ha24 ka24 fa24 oa24 hN => ?_)
  have ka1 := (oa24 _ ha1).2.1.trans ka1
  have ha1 := (oa24 _ ha1).1
  have ka13 := (oa24 _ ha13).2.1.trans ka13
  have ha13 := (oa24 _ ha13).1
  have ka14 := (oa24 _ ha14).2.1.trans ka14
  have ha14 := (oa24 _ ha14).1
  have ka15 := (oa24 _ ha15).2.1.trans ka15
  have ha15 := (oa24 _ ha15).1
  have ka16 := (oa24 _ ha16).2.1.trans ka16
  have ha16 := (oa24 _ ha16).1
  have ka17 := (oa24 _ ha17).2.1.trans ka17
  have ha17 := (oa24 _ ha17).1
  have ka18 := (oa24 _ ha18).2.1.trans ka18
  have ha18 := (oa24 _ ha18).1
  have ka19 := (oa24 _ ha19).2.1.trans ka19
  have ha19 := (oa24 _ ha19).1
  have ka20 := (oa24 _ ha20).2.1.trans ka20
  have ha20 := (oa24 _ ha20).1
  have hN : q_N g _ _ (fun q => q = b ∨ s.heap.size ≤ q) [(b, .inr (12, [.int 0, .ref a1, .int 0, .int 0, .int 0, .int 0, .int 0, .int 0, .int 0, .int (q_i (-1)), .int 0, .int (q_i (-1)), .long 0, .ref a13, .ref a14, .ref a15, .ref a16, .ref a17, .ref a18, .ref a19, .ref a20, .int 0, .int 0, .int 0, .null, .null, .int 0, .int 0, .int 0, .null, .null, .null, .null, .null, .null, .int 0, .int 0, .int 0, .null, .int 0, .int 0]))] _ s H _ := hN
  refine n_putF cx hN 0 rfl rfl 24 (by decide) q_inX12 tyX12 q_yX12 q_nX12 q_h1573 rfl rfl hin rfl (q_yX12 24 (by decide)) rfl rfl (Nat.le_of_ble_eq_true rfl) dX12_init_97 (fun H locs hN => ?_)
  have hN : q_N g _ _ (fun q => q = b ∨ s.heap.size ≤ q) [(b, .inr (12, [.int 0, .ref a1, .int 0, .int 0, .int 0, .int 0, .int 0, .int 0, .int 0, .int (q_i (-1)), .int 0, .int (q_i (-1)), .long 0, .ref a13, .ref a14, .ref a15, .ref a16, .ref a17, .ref a18, .ref a19, .ref a20, .int 0, .int 0, .int 0, .ref a24, .null, .int 0, .int 0, .int 0, .null, .null, .null, .null, .null, .null, .int 0, .int 0, .int 0, .null, .int 0, .int 0]))] _ s H _ := hN
  refine q_ald_n cx dX12_init_100 rfl (lv_at hl 0 rfl) ?_
  refine q_bipush cx dX12_init_101 rfl ?_
  refine n_newarr (atype := .int) (t0 := 1) (k := 160) (N' := 10) (x0 := .inl (fun _ => 0)) (ty := .int) cx hA hN q_h1673 rfl rfl (fun _ => rfl) ⟨by decide, by decide⟩ (by decide) rfl (by decide) (by decide) (by decide) (n_shI (by decide) rfl (Or.inr rfl) (fun i => rfl)) dX12_init_103 (fun a25 K L f H ha25 ka25 fa25 oa25 hN => ?_)
  have ka1 := (oa25 _ ha1).2.1.trans ka1
  have ha1 := (oa25 _ ha1).1
  have ka13 := (oa25 _ ha13).2.1.trans ka13
  have ha13 := (oa25 _ ha13).1
  have ka14 := (oa25 _ ha14).2.1.trans ka14
  have ha14 := (oa25 _ ha14).1
  have ka15 := (oa25 _ ha15).2.1.trans ka15
  have ha15 := (oa25 _ ha15).1
  have ka16 := (oa25 _ ha16).2.1.trans ka16
  have ha16 := (oa25 _ ha16).1
  have ka17 := (oa25 _ ha17).2.1.trans ka17
  have ha17 := (oa25 _ ha17).1
  have ka18 := (oa25 _ ha18).2.1.trans ka18
  have ha18 := (oa25 _ ha18).1
  have ka19 := (oa25 _ ha19).2.1.trans ka19
  have ha19 := (oa25 _ ha19).1
  have ka20 := (oa25 _ ha20).2.1.trans ka20
  have ha20 := (oa25 _ ha20).1
  have ka24 := (oa25 _ ha24).2.1.trans ka24
  have ha24 := (oa25 _ ha24).1
  have hN : q_N g _ _ (fun q => q = b ∨ s.heap.size ≤ q) [(b, .inr (12, [.int 0, .ref a1, .int 0, .int 0, .int 0, .int 0, .int 0, .int 0, .int 0, .int (q_i (-1)), .int 0, .int (q_i (-1)), .long 0, .ref a13, .ref a14, .ref a15, .ref a16, .ref a17, .ref a18, .ref a19, .ref a20, .int 0, .int 0, .int 0, .ref a24, .null, .int 0, .int 0, .int 0, .null, .null, .null, .null, .null, .null, .int 0, .int 0, .int 0, .null, .int 0, .int 0]))] _ s H _ := hN
  refine n_putF cx hN 0 rfl rfl 25 (by decide) q_inX12 tyX12 q_yX12 q_nX12 q_h1574 rfl rfl hin rfl (q_yX12 25 (by decide)) rfl rfl (Nat.le_of_ble_eq_true rfl) dX12_init_105 (fun H locs hN => ?_)
  have hN : q_N g _ _ (fun q => q = b ∨ s.heap.size ≤ q) [(b, .inr (12, [.int 0, .ref a1, .int 0, .int 0, .int 0, .int 0, .int 0, .int 0, .int 0, .int (q_i (-1)), .int 0, .int (q_i (-1)), .long 0, .ref a13, .ref a14, .ref a15, .ref a16, .ref a17, .ref a18, .ref a19, .ref a20, .int 0, .int 0, .int 0, .ref a24, .ref a25, .int 0, .int 0, .int 0, .null, .null, .null, .null, .null, .null, .int 0, .int 0, .int 0, .null, .int 0, .int 0]))] _ s H _ := hN
  refine q_ald_n cx dX12_init_108 rfl (lv_at hl 0 rfl) ?_
  refine q_bipush cx dX12_init_109 rfl ?_
  refine n_newarr (atype := .int) (t0 := 1) (k := 161) (N' := 60) (x0 := .inl (fun _ => 0)) (ty := .int) cx hA hN q_h1673 rfl rfl (fun _ => rfl) ⟨by decide, by decide⟩ (by decide) rfl (by decide) (by decide) (by decide) (n_shI (by decide) rfl (Or.inr rfl) (fun i => rfl)) dX12_init_111 (fun a29 K L f H ha29 ka29 fa29 oa29 hN => ?_)
  have ka1 := (oa29 _ ha1).2.1.trans ka1
  have ha1 := (oa29 _ ha1).1
  have ka13 := (oa29 _ ha13).2.1.trans ka13
  have ha13 := (oa29 _ ha13).1
  have ka14 := (oa29 _ ha14).2.1.trans ka14
  have ha14 := (oa29 _ ha14).1
  have ka15 := (oa29 _ ha15).2.1.trans ka15
  have ha15 := (oa29 _ ha15).1
  have ka16 := (oa29 _ ha16).2.1.trans ka16
  have ha16 := (oa29 _ ha16).1
  have ka17 := (oa29 _ ha17).2.1.trans ka17
  have ha17 := (oa29 _ ha17).1
  have ka18 := (oa29 _ ha18).2.1.trans ka18
  have ha18 := (oa29 _ ha18).1
  have ka19 := (oa29 _ ha19).2.1.trans ka19
  have ha19 := (oa29 _ ha19).1
  have ka20 := (oa29 _ ha20).2.1.trans ka20
  have ha20 := (oa29 _ ha20).1
  have ka24 := (oa29 _ ha24).2.1.trans ka24
  have ha24 := (oa29 _ ha24).1
  have ka25 := (oa29 _ ha25).2.1.trans ka25
  have ha25 := (oa29 _ ha25).1
  have hN : q_N g _ _ (fun q => q = b ∨ s.heap.size ≤ q) [(b, .inr (12, [.int 0, .ref a1, .int 0, .int 0, .int 0, .int 0, .int 0, .int 0, .int 0, .int (q_i (-1)), .int 0, .int (q_i (-1)), .long 0, .ref a13, .ref a14, .ref a15, .ref a16, .ref a17, .ref a18, .ref a19, .ref a20, .int 0, .int 0, .int 0, .ref a24, .ref a25, .int 0, .int 0, .int 0, .null, .null, .null, .null, .null, .null, .int 0, .int 0, .int 0, .null, .int 0, .int 0]))] _ s H _ := hN
  refine n_putF cx hN 0 rfl rfl 29 (by decide) q_inX12 tyX12 q_yX12 q_nX12 q_h1578 rfl rfl hin rfl (q_yX12 29 (by decide)) rfl rfl (Nat.le_of_ble_eq_true rfl) dX12_init_113 (fun H locs hN => ?_)
  have hN : q_N g _ _ (fun q => q = b ∨ s.heap.size ≤ q) [(b, .inr (12, [.int 0, .ref a1, .int 0, .int 0, .int 0, .int 0, .int 0, .int 0, .int 0, .int (q_i (-1)), .int 0, .int (q_i (-1)), .long 0, .ref a13, .ref a14, .ref a15, .ref a16, .ref a17, .ref a18, .ref a19, .ref a20, .int 0, .int 0, .int 0, .ref a24, .ref a25, .int 0, .int 0, .int 0, .ref a29, .null, .null, .null, .null, .null, .int 0, .int 0, .int 0, .null, .int 0, .int 0]))] _ s H _ := hN
  refine q_ald_n cx dX12_init_116 rfl (lv_at hl 0 rfl) ?_
  refine q_bipush cx dX12_init_117 rfl ?_
  refine n_newarr (atype := .int) (t0 := 1) (k := 162) (N' := 60) (x0 := .inl (fun _ => 0)) (ty := .int) cx hA hN q_h1673 rfl rfl (fun _ => rfl) ⟨by decide, by decide⟩ (by decide) rfl (by decide) (by decide) (by decide) (n_shI (by decide) rfl (Or.inr rfl) (fun i => rfl)) dX12_init_119 (fun a30 K L f H ha30 ka30 fa30 oa30 hN => ?_)
  have ka1 := (oa30 _ ha1).2.1.trans ka1
  have ha1 := (oa30 _ ha1).1
  have ka13 := (oa30 _ ha13).2.1.trans ka13
  have ha13 := (oa30 _ ha13).1
  have ka14 := (oa30 _ ha14).2.1.trans ka14
  have ha14 := (oa30 _ ha14).1
  have ka15 := (oa30 _ ha15).2.1.trans ka15
  have ha15 := (oa30 _ ha15).1
  have ka16 := (oa30 _ ha16).2.1.trans ka16
  have ha16 := (oa30 _ ha16).1
  have ka17 := (oa30 _ ha17).2.1.trans ka17
  have ha17 := (oa30 _ ha17).1
  have ka18 := (oa30 _ ha18).2.1.trans ka18
  have ha18 := (oa30 _ ha18).1
  have ka19 := (oa30 _ ha19).2.1.trans ka19
  have ha19 := (oa30 _ ha19).1
  have ka20 := (oa30 _ ha20).2.1.trans ka20
  have ha20 := (oa30 _ ha20).1
  have ka24 := (oa30 _ ha24).2.1.trans ka24
  have ha24 := (oa30 _ ha24).1
  have ka25 := (oa30 _ ha25).2.1.trans ka25
  have ha25 := (oa30 _ ha25).1
  have ka29 := (oa30 _ ha29).2.1.trans ka29
  have ha29 := (oa30 _ ha29).1
  have hN : q_N g _ _ (fun q => q = b ∨ s.heap.size ≤ q) [(b, .inr (12, [.int 0, .ref a1, .int 0, .int 0, .int 0, .int 0, .int 0, .int 0, .int 0, .int (q_i (-1)), .int 0, .int (q_i (-1)), .long 0, .ref a13, .ref a14, .ref a15, .ref a16, .ref a17, .ref a18, .ref a19, .ref a20, .int 0, .int 0, .int 0, .ref a24, .ref a25, .int 0, .int 0, .int 0, .ref a29, .null, .null, .null, .null, .null, .int 0, .int 0, .int 0, .null, .int 0, .int 0]))] _ s H _ := hN
  refine n_putF cx hN 0 rfl rfl 30 (by decide) q_inX12 tyX12 q_yX12 q_nX12 q_h1579 rfl rfl hin rfl (q_yX12 30 (by decide)) rfl rfl (Nat.le_of_ble_eq_true rfl) dX12_init_121 (fun H locs hN => ?_)
  have hN : q_N g _ _ (fun q => q = b ∨ s.heap.size ≤ q) [(b, .inr (12, [.int 0, .ref a1, .int 0, .int 0, .int 0, .int 0, .int 0, .int 0, .int 0, .int (q_i (-1)), .int 0, .int (q_i (-1)), .long 0, .ref a13, .ref a14, .ref a15, .ref a16, .ref a17, .ref a18, .ref a19, .ref a20, .int 0, .int 0, .int 0, .ref a24, .ref a25, .int 0, .int 0, .int 0, .ref a29, .ref a30, .null, .null, .null, .null, .int 0, .int 0, .int 0, .null, .int 0, .int 0]))] _ s H _ := hN
  refine q_ald_n cx dX12_init_124 rfl (lv_at hl 0 rfl) ?_
  refine q_bipush cx dX12_init_125 rfl ?_
  refine n_newarr (atype := .int) (t0 := 1) (k := 163) (N' := 60) (x0 := .inl (fun _ => 0)) (ty := .int) cx hA hN q_h1673 rfl rfl (fun _ => rfl) ⟨by decide, by decide⟩ (by decide) rfl (by decide) (by decide) (by decide) (n_shI (by decide) rfl (Or.inr rfl) (fun i => rfl)) dX12_init_127 (fun a31 K L f H ha31 ka31 fa31 oa31 hN => ?_)
  have ka1 := (oa31 _ ha1).2.1.trans ka1
  have ha1 := (oa31 _ ha1).1
  have ka13 := (oa31 _ ha13).2.1.trans ka13
  have ha13 := (oa31 _ ha13).1
  have ka14 := (oa31 _ ha14).2.1.trans ka14
  have ha14 := (oa31 _ ha14).1
  have ka15 := (oa31 _ ha15).2.1.trans ka15
  have ha15 := (oa31 _ ha15).1
  have ka16 := (oa31 _ ha16).2.1.trans ka16
  have ha16 := (oa31 _ ha16).1
  have ka17 := (oa31 _ ha17).2.1.trans ka17
  have ha17 := (oa31 _ ha17).1
  have ka18 := (oa31 _ ha18).2.1.trans ka18
  have ha18 := (oa31 _ ha18).1
  have ka19 := (oa31 _ ha19).2.1.trans ka19
  have ha19 := (oa31 _ ha19).1
  have ka20 := (oa31 _ ha20).2.1.trans ka20
  have ha20 := (oa31 _ ha20).1
  have ka24 := (oa31 _ ha24).2.1.trans ka24
  have ha24 := (oa31 _ ha24).1
  have ka25 := (oa31 _ ha25).2.1.trans ka25
  have ha25 := (oa31 _ ha25).1
  have ka29 := (oa31 _ ha29).2.1.trans ka29
  have ha29 := (oa31 _ ha29).1
  have ka30 := (oa31 _ ha30).2.1.trans ka30
  have ha30 := (oa31 _ ha30).1
  have hN : q_N g _ _ (fun q => q = b ∨ s.heap.size ≤ q) [(b, .inr (12, [.int 0, .ref a1, .int 0, .int 0, .int 0, .int 0, .int 0, .int 0, .int 0, .int (q_i (-1)), .int 0, .int (q_i (-1)), .long 0, .ref a13, .ref a14, .ref a15, .ref a16, .ref a17, .ref a18, .ref a19, .ref a20, .int 0, .int 0, .int 0, .ref a24, .ref a25, .int 0, .int 0, .int 0, .ref a29, .ref a30, .null, .null, .null, .null, .int 0, .int 0, .int 0, .null, .int 0, .int 0]))] _ s H _ := hN
  refine n_putF cx hN 0 rfl rfl 31 (by decide) q_inX12 tyX12 q_yX12 q_nX12 q_h1580 rfl rfl hin rfl (q_yX12 31 (by decide)) rfl rfl (Nat.le_of_ble_eq_true rfl) dX12_init_129 (fun H locs hN => ?_)
  have hN : q_N g _ _ (fun q => q = b ∨ s.heap.size ≤ q) [(b, .inr (12, [.int 0, .ref a1, .int 0, .int 0, .int 0, .int 0, .int 0, .int 0, .int 0, .int (q_i (-1)), .int 0, .int (q_i (-1)), .long 0, .ref a13, .ref a14, .ref a15, .ref a16, .ref a17, .ref a18, .ref a19, .ref a20, .int 0, .int 0, .int 0, .ref a24, .ref a25, .int 0, .int 0, .int 0, .ref a29, .ref a30, .ref a31, .null, .null, .null, .int 0, .int 0, .int 0, .null, .int 0, .int 0]))] _ s H _ := hN
  refine q_ald_n cx dX12_init_132 rfl (lv_at hl 0 rfl) ?_
  refine q_bipush cx dX12_init_133 rfl ?_
  refine n_newarr (atype := .int) (t0 := 1) (k := 164) (N' := 60) (x0 := .inl (fun _ => 0)) (ty := .int) cx hA hN q_h1673 rfl rfl (fun _ => rfl) ⟨by decide, by decide⟩ (by decide) rfl (by decide) (by decide) (by decide) (n_shI (by decide) rfl (Or.inr rfl) (fun i => rfl)) dX12_init_135 (fun a32 K L f H ha32 ka32 fa32 oa32 hN => ?_)
  have ka1 := (oa32 _ ha1).2.1.trans ka1
  have ha1 := (oa32 _ ha1).1
  have ka13 := (oa32 _ ha13).2.1.trans ka13
  have ha13 := (oa32 _ ha13).1
  have ka14 := (oa32 _ ha14).2.1.trans ka14
  have ha14 := (oa32 _ ha14).1
  have ka15 := (oa32 _ ha15).2.1.trans ka15
  have ha15 := (oa32 _ ha15).1
  have ka16 := (oa32 _ ha16).2.1.trans ka16
  have ha16 := (oa32 _ ha16).1
  have ka17 := (oa32 _ ha17).2.1.trans ka17
  have ha17 := (oa32 _ ha17).1
  have ka18 := (oa32 _ ha18).2.1.trans ka18
  have ha18 := (oa32 _ ha18).1
  have ka19 := (oa32 _ ha19).2.1.trans ka19
  have ha19 := (oa32 _ ha19).1
  have ka20 := (oa32 _ ha20).2.1.trans ka20
  have ha20 := (oa32 _ ha20).1
  have ka24 := (oa32 _ ha24).2.1.trans ka24
  have ha24 := (oa32 _ ha24).1
  have ka25 := (oa32 _ ha25).2.1.trans ka25
  have ha25 := (oa32 _ ha25).1
  have ka29 := (oa32 _ ha29).2.1.trans ka29
  have ha29 := (oa32 _ ha29).1
  have ka30 := (oa32 _ ha30).2.1.trans ka30
  have ha30 := (oa32 _ ha30).1
  have ka31 := (oa32 _ ha31).2.1.trans ka31
  have ha31 := (oa32 _ ha31).1
  have hN : q_N g _ _ (fun q => q = b ∨ s.heap.size ≤ q) [(b, .inr (12, [.int 0, .ref a1, .int 0, .int 0, .int 0, .int 0, .int 0, .int 0, .int 0, .int (q_i (-1)), .int 0, .int (q_i (-1)), .long 0, .ref a13, .ref a14, .ref a15, .ref a16, .ref a17, .ref a18, .ref a19, .ref a20, .int 0, .int 0, .int 0, .ref a24, .ref a25, .int 0, .int 0, .int 0, .ref a29, .ref a30, .ref a31, .null, .null, .null, .int 0, .int 0, .int 0, .null, .int 0, .int 0]))] _ s H _ := hN
  refine n_putF cx hN 0 rfl rfl 32 (by decide) q_inX12 tyX12 q_yX12 q_nX12 q_h1581 rfl rfl hin rfl (q_yX12 32 (by decide)) rfl rfl (Nat.le_of_ble_eq_true rfl) dX12_init_137 (fun H locs hN => ?_)
  have hN : q_N g _ _ (fun q => q = b ∨ s.heap.size ≤ q) [(b, .inr (12, [.int 0, .ref a1, .int 0, .int 0, .int 0, .int 0, .int 0, .int 0, .int 0, .int (q_i (-1)), .int 0, .int (q_i (-1)), .long 0, .ref a13, .ref a14, .ref a15, .ref a16, .ref a17, .ref a18, .ref a19, .ref a20, .int 0, .int 0, .int 0, .ref a24, .ref a25, .int 0, .int 0, .int 0, .ref a29, .ref a30, .ref a31, .ref a32, .null, .null, .int 0, .int 0, .int 0, .null, .int 0, .int 0]))] _ s H _ := hN
  refine q_ald_n cx dX12_init_140 rfl (lv_at hl 0 rfl) ?_
  refine q_iconst cx dX12_init_141 ?_
  refine n_newarr (atype := .int) (t0 := 1) (k := 165) (N' := 2) (x0 := .inl (fun _ => 0)) (ty := .int) cx hA hN q_h1673 rfl rfl (fun _ => rfl) ⟨by decide, by decide⟩ (by decide) rfl (by decide) (by decide) (by decide) (n_shI (by decide) rfl (Or.inr rfl) (fun i => rfl)) dX12_init_142 (fun a33 K L f H ha33 ka33 fa33 oa33 hN => ?_)
  have ka1 := (oa33 _ ha1).2.1.trans ka1
  have ha1 := (oa33 _ ha1).1
  have ka13 := (oa33 _ ha13).2.1.trans ka13
  have ha13 := (oa33 _ ha13).1
  have ka14 := (oa33 _ ha14).2.1.trans ka14
  have ha14 := (oa33 _ ha14).1
  have ka15 := (oa33 _ ha15).2.1.trans ka15
  have ha15 := (oa33 _ ha15).1
  have ka16 := (oa33 _ ha16).2.1.trans ka16
  have ha16 := (oa33 _ ha16).1
  have ka17 := (oa33 _ ha17).2.1.trans ka17
  have ha17 := (oa33 _ ha17).1
  have ka18 := (oa33 _ ha18).2.1.trans ka18
  have ha18 := (oa33 _ ha18).1
  have ka19 := (oa33 _ ha19).2.1.trans ka19
  have ha19 := (oa33 _ ha19).1
  have ka20 := (oa33 _ ha20).2.1.trans ka20
  have ha20 := (oa33 _ ha20).1
  have ka24 := (oa33 _ ha24).2.1.trans ka24
  have ha24 := (oa33 _ ha24).1
  have ka25 := (oa33 _ ha25).2.1.trans ka25
  have ha25 := (oa33 _ ha25).1
  have ka29 := (oa33 _ ha29).2.1.trans ka29
  have ha29 := (oa33 _ ha29).1
  have ka30 := (oa33 _ ha30).2.1.trans ka30
  have ha30 := (oa33 _ ha30).1
  have ka31 := (oa33 _ ha31).2.1.trans ka31
  have ha31 := (oa33 _ ha31).1
  have ka32 := (oa33 _ ha32).2.1.trans ka32
  have ha32 := (oa33 _ ha32).1
  have hN : q_N g _ _ (fun q => q = b ∨ s.heap.size ≤ q) [(b, .inr (12, [.int 0, .ref a1, .int 0, .int 0, .int 0, .int 0, .int 0, .int 0, .int 0, .int (q_i (-1)), .int 0, .int (q_i (-1)), .long 0, .ref a13, .ref a14, .ref a15, .ref a16, .ref a17, .ref a18, .ref a19, .ref a20, .int 0, .int 0, .int 0, .ref a24, .ref a25, .int 0, .int 0, .int 0, .ref a29, .ref a30, .ref a31, .ref a32, .null, .null, .int 0, .int 0, .int 0, .null, .int 0, .int 0]))] _ s H _ := hN
  refine n_putF cx hN 0 rfl rfl 33 (by decide) q_inX12 tyX12 q_yX12 q_nX12 q_h1582 rfl rfl hin rfl (q_yX12 33 (by decide)) rfl rfl (Nat.le_of_ble_eq_true rfl) dX12_init_144 (fun H locs hN => ?_)
  have hN : q_N g _ _ (fun q => q = b ∨ s.heap.size ≤ q) [(b, .inr (12, [.int 0, .ref a1, .int 0, .int 0, .int 0, .int 0, .int 0, .int 0, .int 0, .int (q_i (-1)), .int 0, .int (q_i (-1)), .long 0, .ref a13, .ref a14, .ref a15, .ref a16, .ref a17, .ref a18, .ref a19, .ref a20, .int 0, .int 0, .int 0, .ref a24, .ref a25, .int 0, .int 0, .int 0, .ref a29, .ref a30, .ref a31, .ref a32, .ref a33, .null, .int 0, .int 0, .int 0, .null, .int 0, .int 0]))] _ s H _ := hN
  refine q_ald_n cx dX12_init_147 rfl (lv_at hl 0 rfl) ?_
  refine q_iconst cx dX12_init_148 ?_
  refine n_newarr (atype := .int) (t0 := 1) (k := 166) (N' := 2) (x0 := .inl (fun _ => 0)) (ty := .int) cx hA hN q_h1673 rfl rfl (fun _ => rfl) ⟨by decide, by decide⟩ (by decide) rfl (by decide) (by decide) (by decide) (n_shI (by decide) rfl (Or.inr rfl) (fun i => rfl)) dX12_init_149 (fun a34 K L f H ha34 ka34 fa34 oa34 hN => ?_)
  have ka1 := (oa34 _ ha1).2.1.trans ka1
  have ha1 := (oa34 _ ha1).1
  have ka13 := (oa34 _ ha13).2.1.trans ka13
  have ha13 := (oa34 _ ha13).1
  have ka14 := (oa34 _ ha14).2.1.trans ka14
  have ha14 := (oa34 _ ha14).1
  have ka15 := (oa34 _ ha15).2.1.trans ka15
  have ha15 := (oa34 _ ha15).1
  have ka16 := (oa34 _ ha16).2.1.trans ka16
  have ha16 := (oa34 _ ha16).1
  have ka17 := (oa34 _ ha17).2.1.trans ka17
  have ha17 := (oa34 _ ha17).1
  have ka18 := (oa34 _ ha18).2.1.trans ka18
  have ha18 := (oa34 _ ha18).1
  have ka19 := (oa34 _ ha19).2.1.trans ka19
  have ha19 := (oa34 _ ha19).1
  have ka20 := (oa34 _ ha20).2.1.trans ka20
  have ha20 := (oa34 _ ha20).1
  have ka24 := (oa34 _ ha24).2.1.trans ka24
  have ha24 := (oa34 _ ha24).1
  have ka25 := (oa34 _ ha25).2.1.trans ka25
  have ha25 := (oa34 _ ha25).1
  have ka29 := (oa34 _ ha29).2.1.trans ka29
  have ha29 := (oa34 _ ha29).1
  have ka30 := (oa34 _ ha30).2.1.trans ka30
  have ha30 := (oa34 _ ha30).1
  have ka31 := (oa34 _ ha31).2.1.trans ka31
  have ha31 := (oa34 _ ha31).1
  have ka32 := (oa34 _ ha32).2.1.trans ka32
  have ha32 := (oa34 _ ha32).1
  have ka33 := (oa34 _ ha33).2.1.trans ka33
  have ha33 := (oa34 _ ha33).1
  have hN : q_N g _ _ (fun q => q = b ∨ s.heap.size ≤ q) [(b, .inr (12, [.int 0, .ref a1, .int 0, .int 0, .int 0, .int 0, .int 0, .int 0, .int 0, .int (q_i (-1)), .int 0, .int (q_i (-1)), .long 0, .ref a13, .ref a14, .ref a15, .ref a16, .ref a17, .ref a18, .ref a19, .ref a20, .int 0, .int 0, .int 0, .ref a24, .ref a25, .int 0, .int 0, .int 0, .ref a29, .ref a30, .ref a31, .ref a32, .ref a33, .null, .int 0, .int 0, .int 0, .null, .int 0, .int 0]))] _ s H _ := hN
  refine n_putF cx hN 0 rfl rfl 34 (by decide) q_inX12 tyX12 q_yX12 q_nX12 q_h1583 rfl rfl hin rfl (q_yX12 34 (by decide)) rfl rfl (Nat.le_of_ble_eq_true rfl) dX12_init_151 (fun H locs hN => ?_)
  have hN : q_N g _ _ (fun q => q = b ∨ s.heap.size ≤ q) [(b, .inr (12, [.int 0, .ref a1, .int 0, .int 0, .int 0, .int 0, .int 0, .int 0, .int 0, .int (q_i (-1)), .int 0, .int (q_i (-1)), .long 0, .ref a13, .ref a14, .ref a15, .ref a16, .ref a17, .ref a18, .ref a19, .ref a20, .int 0, .int 0, .int 0, .ref a24, .ref a25, .int 0, .int 0, .int 0, .ref a29, .ref a30, .ref a31, .ref a32, .ref a33, .ref a34, .int 0, .int 0, .int 0, .null, .int 0, .int 0]))] _ s H _ := hN
  refine q_ald_n cx dX12_init_154 rfl (lv_at hl 0 rfl) ?_
  refine q_sipush cx dX12_init_155 rfl ?_
  refine n_newarr (atype := .int) (t0 := 1) (k := 167) (N' := 480) (x0 := .inl (fun _ => 0)) (ty := .int) cx hA hN q_h1673 rfl rfl (fun _ => rfl) ⟨by decide, by decide⟩ (by decide) rfl (by decide) (by decide) (by decide) (n_shI (by decide) rfl (Or.inr rfl) (fun i => rfl)) dX12_init_158 (fun a38 K L f H ha38 ka38 fa38 oa38 hN => ?_)
  have ka1 := (oa38 _ ha1).2.1.trans ka1
  have ha1 := (oa38 _ ha1).1
  have ka13 := (oa38 _ ha13).2.1.trans ka13
  have ha13 := (oa38 _ ha13).1
  have ka14 := (oa38 _ ha14).2.1.trans ka14
  have ha14 := (oa38 _ ha14).1
  have ka15 := (oa38 _ ha15).2.1.trans ka15
  have ha15 := (oa38 _ ha15).1
  have ka16 := (oa38 _ ha16).2.1.trans ka16
  have ha16 := (oa38 _ ha16).1
  have ka17 := (oa38 _ ha17).2.1.trans ka17
  have ha17 := (oa38 _ ha17).1
  have ka18 := (oa38 _ ha18).2.1.trans ka18
  have ha18 := (oa38 _ ha18).1
  have ka19 := (oa38 _ ha19).2.1.trans ka19
  have ha19 := (oa38 _ ha19).1
  have ka20 := (oa38 _ ha20).2.1.trans ka20
  have ha20 := (oa38 _ ha20).1
  have ka24 := (oa38 _ ha24).2.1.trans ka24
  have ha24 := (oa38 _ ha24).1
  have ka25 := (oa38 _ ha25).2.1.trans ka25
  have ha25 := (oa38 _ ha25).1
  have ka29 := (oa38 _ ha29).2.1.trans ka29
  have ha29 := (oa38 _ ha29).1
  have ka30 := (oa38 _ ha30).2.1.trans ka30
  have ha30 := (oa38 _ ha30).1
  have ka31 := (oa38 _ ha31).2.1.trans ka31
  have ha31 := (oa38 _ ha31).1
  have ka32 := (oa38 _ ha32).2.1.trans ka32
  have ha32 := (oa38 _ ha32).1
  have ka33 := (oa38 _ ha33).2.1.trans ka33
  have ha33 := (oa38 _ ha33).1
  have ka34 := (oa38 _ ha34).2.1.trans ka34
  have ha34 := (oa38 _ ha34).1
  have hN : q_N g _ _ (fun q => q = b ∨ s.heap.size ≤ q) [(b, .inr (12, [.int 0, .ref a1, .int 0, .int 0, .int 0, .int 0, .int 0, .int 0, .int 0, .int (q_i (-1)), .int 0, .int (q_i (-1)), .long 0, .ref a13, .ref a14, .ref a15, .ref a16, .ref a17, .ref a18, .ref a19, .ref a20, .int 0, .int 0, .int 0, .ref a24, .ref a25, .int 0, .int 0, .int 0, .ref a29, .ref a30, .ref a31, .ref a32, .ref a33, .ref a34, .int 0, .int 0, .int 0, .null, .int 0, .int 0]))] _ s H _ := hN
  refine n_putF cx hN 0 rfl rfl 38 (by decide) q_inX12 tyX12 q_yX12 q_nX12 q_h1587 rfl rfl hin rfl (q_yX12 38 (by decide)) rfl rfl (Nat.le_of_ble_eq_true rfl) dX12_init_160 (fun H locs hN => ?_)
  have hN : q_N g _ _ (fun q => q = b ∨ s.heap.size ≤ q) [(b, .inr (12, [.int 0, .ref a1, .int 0, .int 0, .int 0, .int 0, .int 0, .int 0, .int 0, .int (q_i (-1)), .int 0, .int (q_i (-1)), .long 0, .ref a13, .ref a14, .ref a15, .ref a16, .ref a17, .ref a18, .ref a19, .ref a20, .int 0, .int 0, .int 0, .ref a24, .ref a25, .int 0, .int 0, .int 0, .ref a29, .ref a30, .ref a31, .ref a32, .ref a33, .ref a34, .int 0, .int 0, .int 0, .ref a38, .int 0, .int 0]))] _ s H _ := hN
  obtain ⟨K, L, f, hb, kb, fb, ob, hN⟩ := n_seal (Xs := []) (k := 12) hN (n_shO (by decide) ⟨⟨_, rfl, by decide, by decide⟩, ⟨a1, rfl, ha1, ka1⟩, ⟨_, rfl, by decide, by decide⟩, ⟨_, rfl, by decide, by decide⟩, ⟨_, rfl, by decide, by decide⟩, ⟨_, rfl, by decide, by decide⟩, ⟨_, rfl, by decide, by decide⟩, ⟨_, rfl, by decide, by decide⟩, ⟨_, rfl, by decide, by decide⟩, ⟨_, rfl, by decide, by decide⟩, ⟨_, rfl, by decide, by decide⟩, ⟨_, rfl, by decide, by decide⟩, ⟨_, rfl⟩, ⟨a13, rfl, ha13, ka13⟩, ⟨a14, rfl, ha14, ka14⟩, ⟨a15, rfl, ha15, ka15⟩, ⟨a16, rfl, ha16, ka16⟩, ⟨a17, rfl, ha17, ka17⟩, ⟨a18, rfl, ha18, ka18⟩, ⟨a19, rfl, ha19, ka19⟩, ⟨a20, rfl, ha20, ka20⟩, ⟨_, rfl, by decide, by decide⟩, ⟨_, rfl, by decide, by decide⟩, ⟨_, rfl, by decide, by decide⟩, ⟨a24, rfl, ha24, ka24⟩, ⟨a25, rfl, ha25, ka25⟩, ⟨_, rfl, by decide, by decide⟩, ⟨_, rfl, by decide, by decide⟩, ⟨_, rfl, by decide, by decide⟩, ⟨a29, rfl, ha29, ka29⟩, ⟨a30, rfl, ha30, ka30⟩, ⟨a31, rfl, ha31, ka31⟩, ⟨a32, rfl, ha32, ka32⟩, ⟨a33, rfl, ha33, ka33⟩, ⟨a34, rfl, ha34, ka34⟩, ⟨_, rfl, by decide, by decide⟩, ⟨_, rfl, by decide, by decide⟩, ⟨_, rfl, by decide, by decide⟩, ⟨a38, rfl, ha38, ka38⟩, ⟨_, rfl, by decide, by decide⟩, ⟨_, rfl, by decide, by decide⟩, trivial⟩)
  have ka13 := (ob _ ha13).2.1.trans ka13
  have ha13 := (ob _ ha13).1
  have ka18 := (ob _ ha18).2.1.trans ka18
  have ha18 := (ob _ ha18).1
  refine q_ald_n cx dX12_init_163 rfl (lv_at hl 0 rfl) ?_
  have hH := q_Has.one hb fb
  have r13 : q_r f b 13 = a13 := hH.r (List.mem_singleton.mpr rfl) rfl
  have r18 : q_r f b 18 = a18 := hH.r (List.mem_singleton.mpr rfl) rfl
  have w2 : q_z f b 2 = 0 := hH.z (List.mem_singleton.mpr rfl) rfl
  have w21 : q_z f b 21 = 0 := hH.z (List.mem_singleton.mpr rfl) rfl
  have w22 : q_z f b 22 = 0 := hH.z (List.mem_singleton.mpr rfl) rfl
  have w10 : q_z f b 10 = 0 := hH.z (List.mem_singleton.mpr rfl) rfl
  have w11 : q_z f b 11 = (-1) := hH.z (List.mem_singleton.mpr rfl) rfl
  refine q_cVv (As := []) (rest := []) cx (q_toB (w := [(151, 0, 657), (156, 0, 9)]) hN) (fun q h => (n_nodup hN).2 q h) (n_nodup hN).1 hb kb (by decide) rfl (r_clears l g (n_nodup hN).1 hN.2.2.2.2 b hb kb a13 ha13 ka13 a18 ha18 ka18 r13 r18) q_cX12_72 q_dX12_clears (by decide) rfl rfl hl.1 rfl (Nat.le_of_ble_eq_true rfl) dX12_init_164 (fun H locs f1 hc hF hB => ?_)
  obtain ⟨c3l, c3u, c4l, c4u, c0, cg⟩ := hc
  have hN := q_toN hB
  have s13 : q_r f1 b 13 = a13 := (hF.r hb (by rw [kb]; rfl)).trans r13
  exact n_ret cx hr hlk hN hb kb (show n_PM _ _ _ from ⟨by rw [s13]; exact ha13, ⟨(hF.z hb (by rw [kb]; rfl)).trans w2, (hF.z hb (by rw [kb]; rfl)).trans w21, (hF.z hb (by rw [kb]; rfl)).trans w22, (hF.z hb (by rw [kb]; rfl)).trans w10, (hF.z hb (by rw [kb]; rfl)).trans w11⟩, by rw [s13]; exact ⟨cg, c3u, c4u, c0⟩⟩) dX12_init_167
