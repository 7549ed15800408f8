set_option maxHeartbeats 4000000 in
set_option maxRecDepth 100000 in
theorem n_X5_5 (l : Launch) (g : q_G) : q_Nw l g yX5_init cX5_init 1 1 12 0 0 5 [.long 0, .long 0, .int 0, .int 0, .int 0, .int 0, .int 0, .int 0, .int 0, .int 0] 5 (fun L f b => q_Has L f [(b, .inr (5, [.long 0, .long 0, .int 0, .int 0, .int 0, .int 0, .int 0, .int 0, .int 0, .int 0]))]) := by
  refine n_ofb (by decide +kernel) rfl (by decide) ?_
  intro p e s m below meth c ls b cx hr hlk hin hE hN hl
  have hA : ∀ q, s.heap.size ≤ q → (fun q => q = b ∨ s.heap.size ≤ q) q := fun q h => Or.inr h
  have hl : lv_has ls 1 [(0, .ref b)] := hl
  refine q_ald_n cx dX5_init_0 rfl (lv_at hl 0 rfl) ?_
  refine n_objInit cx q_h302 q_h167 q_h168 hl.1 dX5_init_1 (by decide) (by decide) ?_
  obtain ⟨K, L, f, hb, kb, fb, ob, hN⟩ := n_seal (Xs := []) (k := 5) hN (n_shO (by decide) ⟨⟨_, rfl⟩, ⟨_, rfl⟩, ⟨_, rfl, by decide, by decide⟩, ⟨_, rfl, by decide, by decide⟩, ⟨_, rfl, by decide, by decide⟩, ⟨_, rfl, by decide, by decide⟩, ⟨_, rfl, by decide, by decide⟩, ⟨_, rfl, by decide, by decide⟩, ⟨_, rfl, by decide, by decide⟩, ⟨_, rfl, by decide, by decide⟩, trivial⟩)
  exact n_ret cx hr hlk hN hb kb (q_Has.one hb fb) dX5_init_4
set_option maxHeartbeats 4000000 in
set_option maxRecDepth 100000 in
theorem n_X3_3 (l : Launch) (g : q_G) : q_Nw l g yX3_init cX3_init 1 1 12 0 0 3 [.int 0, .int 0, .int 0, .int 0, .int 0] 3 (fun L f b => q_Has L f [(b, .inr (3, [.int 0, .int 0, .int 0, .int 0, .int 0]))]) := by
  refine n_ofb (by decide +kernel) rfl (by decide) ?_
  intro p e s m below meth c ls b cx hr hlk hin hE hN hl
  have hA : ∀ q, s.heap.size ≤ q → (fun q => q = b ∨ s.heap.size ≤ q) q := fun q h => Or.inr h
  have hl : lv_has ls 1 [(0, .ref b)] := hl
  refine q_ald_n cx dX3_init_0 rfl (lv_at hl 0 rfl) ?_
  refine n_objInit cx q_h355 q_h167 q_h168 hl.1 dX3_init_1 (by decide) (by decide) ?_
  obtain ⟨K, L, f, hb, kb, fb, ob, hN⟩ := n_seal (Xs := []) (k := 3) hN (n_shO (by decide) ⟨⟨_, rfl, by decide, by decide⟩, ⟨_, rfl, by decide, by decide⟩, ⟨_, rfl, by decide, by decide⟩, ⟨_, rfl, by decide, by decide⟩, ⟨_, rfl, by decide, by decide⟩, trivial⟩)
  exact n_ret cx hr hlk hN hb kb (q_Has.one hb fb) dX3_init_4
set_option maxHeartbeats 4000000 in
set_option maxRecDepth 100000 in
theorem n_X4_4 (l : Launch) (g : q_G) : q_Nw l g yX4_init cX4_init 1 1 12 0 0 4 [.int 0, .int 0, .int 0, .int 0, .int 0, .int 0, .int 0, .int 0] 4 (fun L f b => q_Has L f [(b, .inr (4, [.int 0, .int 0, .int 0, .int 0, .int 0, .int 0, .int 0, .int 0]))]) := by
  refine n_ofb (by decide +kernel) rfl (by decide) ?_
  intro p e s m below meth c ls b cx hr hlk hin hE hN hl
  have hA : ∀ q, s.heap.size ≤ q → (fun q => q = b ∨ s.heap.size ≤ q) q := fun q h => Or.inr h
  have hl : lv_has ls 1 [(0, .ref b)] := hl
  refine q_ald_n cx dX4_init_0 rfl (lv_at hl 0 rfl) ?_
  refine n_objInit cx q_h381 q_h167 q_h168 hl.1 dX4_init_1 (by decide) (by decide) ?_
  obtain ⟨K, L, f, hb, kb, fb, ob, hN⟩ := n_seal (Xs := []) (k := 4) hN (n_shO (by decide) ⟨⟨_, rfl, by decide, by decide⟩, ⟨_, rfl, by decide, by decide⟩, ⟨_, rfl, by decide, by decide⟩, ⟨_, rfl, by decide, by decide⟩, ⟨_, rfl, by decide, by decide⟩, ⟨_, rfl, by decide, by decide⟩, ⟨_, rfl, by decide, by decide⟩, ⟨_, rfl, by decide, by decide⟩, trivial⟩)
  exact n_ret cx hr hlk hN hb kb (q_Has.one hb fb) dX4_init_4
set_option maxHeartbeats 4000000 in
set_option maxRecDepth 100000 in
theorem n_X5_17 (l : Launch) (g : q_G) : q_Nw l g yX5_init cX5_init 1 1 12 0 0 5 [.long 0, .long 0, .int 0, .int 0, .int 0, .int 0, .int 0, .int 0, .int 0, .int 0] 17 (fun L f b => q_Has L f [(b, .inr (5, [.long 0, .long 0, .int 0, .int 0, .int 0, .int 0, .int 0, .int 0, .int 0, .int 0]))]) := by
  refine n_ofb (by decide +kernel) rfl (by decide) ?_
  intro p e s m below meth c ls b cx hr hlk hin hE hN hl
  have hA : ∀ q, s.heap.size ≤ q → (fun q => q = b ∨ s.heap.size ≤ q) q := fun q h => Or.inr h
  have hl : lv_has ls 1 [(0, .ref b)] := hl
  refine q_ald_n cx dX5_init_0 rfl (lv_at hl 0 rfl) ?_
  refine n_objInit cx q_h302 q_h167 q_h168 hl.1 dX5_init_1 (by decide) (by decide) ?_
  obtain ⟨K, L, f, hb, kb, fb, ob, hN⟩ := n_seal (Xs := []) (k := 17) hN (n_shO (by decide) ⟨⟨_, rfl⟩, ⟨_, rfl⟩, ⟨_, rfl, by decide, by decide⟩, ⟨_, rfl, by decide, by decide⟩, ⟨_, rfl, by decide, by decide⟩, ⟨_, rfl, by decide, by decide⟩, ⟨_, rfl, by decide, by decide⟩, ⟨_, rfl, by decide, by decide⟩, ⟨_, rfl, by decide, by decide⟩, ⟨_, rfl, by decide, by decide⟩, trivial⟩)
  exact n_ret cx hr hlk hN hb kb (q_Has.one hb fb) dX5_init_4
set_option maxHeartbeats 4000000 in
set_option maxRecDepth 100000 in
theorem n_X3_21 (l : Launch) (g : q_G) : q_Nw l g yX3_init cX3_init 1 1 12 0 0 3 [.int 0, .int 0, .int 0, .int 0, .int 0] 21 (fun L f b => q_Has L f [(b, .inr (3, [.int 0, .int 0, .int 0, .int 0, .int 0]))]) := by
  refine n_ofb (by decide +kernel) rfl (by decide) ?_
  intro p e s m below meth c ls b cx hr hlk hin hE hN hl
  have hA : ∀ q, s.heap.size ≤ q → (fun q => q = b ∨ s.heap.size ≤ q) q := fun q h => Or.inr h
  have hl : lv_has ls 1 [(0, .ref b)] := hl
  refine q_ald_n cx dX3_init_0 rfl (lv_at hl 0 rfl) ?_
  refine n_objInit cx q_h355 q_h167 q_h168 hl.1 dX3_init_1 (by decide) (by decide) ?_
  obtain ⟨K, L, f, hb, kb, fb, ob, hN⟩ := n_seal (Xs := []) (k := 21) hN (n_shO (by decide) ⟨⟨_, rfl, by decide, by decide⟩, ⟨_, rfl, by decide, by decide⟩, ⟨_, rfl, by decide, by decide⟩, ⟨_, rfl, by decide, by decide⟩, ⟨_, rfl, by decide, by decide⟩, trivial⟩)
  exact n_ret cx hr hlk hN hb kb (q_Has.one hb fb) dX3_init_4
set_option maxHeartbeats 4000000 in
set_option maxRecDepth 100000 in
theorem n_X4_25 (l : Launch) (g : q_G) : q_Nw l g yX4_init cX4_init 1 1 12 0 0 4 [.int 0, .int 0, .int 0, .int 0, .int 0, .int 0, .int 0, .int 0] 25 (fun L f b => q_Has L f [(b, .inr (4, [.int 0, .int 0, .int 0, .int 0, .int 0, .int 0, .int 0, .int 0]))]) := by
  refine n_ofb (by decide +kernel) rfl (by decide) ?_
  intro p e s m below meth c ls b cx hr hlk hin hE hN hl
  have hA : ∀ q, s.heap.size ≤ q → (fun q => q = b ∨ s.heap.size ≤ q) q := fun q h => Or.inr h
  have hl : lv_has ls 1 [(0, .ref b)] := hl
  refine q_ald_n cx dX4_init_0 rfl (lv_at hl 0 rfl) ?_
  refine n_objInit cx q_h381 q_h167 q_h168 hl.1 dX4_init_1 (by decide) (by decide) ?_
  obtain ⟨K, L, f, hb, kb, fb, ob, hN⟩ := n_seal (Xs := []) (k := 25) hN (n_shO (by decide) ⟨⟨_, rfl, by decide, by decide⟩, ⟨_, rfl, by decide, by decide⟩, ⟨_, rfl, by decide, by decide⟩, ⟨_, rfl, by decide, by decide⟩, ⟨_, rfl, by decide, by decide⟩, ⟨_, rfl, by decide, by decide⟩, ⟨_, rfl, by decide, by decide⟩, ⟨_, rfl, by decide, by decide⟩, trivial⟩)
  exact n_ret cx hr hlk hN hb kb (q_Has.one hb fb) dX4_init_4
set_option maxHeartbeats 4000000 in
set_option maxRecDepth 100000 in
theorem n_X5_18 (l : Launch) (g : q_G) : q_Nw l g yX5_init cX5_init 1 1 12 0 0 5 [.long 0, .long 0, .int 0, .int 0, .int 0, .int 0, .int 0, .int 0, .int 0, .int 0] 18 (fun L f b => q_Has L f [(b, .inr (5, [.long 0, .long 0, .int 0, .int 0, .int 0, .int 0, .int 0, .int 0, .int 0, .int 0]))]) := by
  refine n_ofb (by decide +kernel) rfl (by decide) ?_
  intro p e s m below meth c ls b cx hr hlk hin hE hN hl
  have hA : ∀ q, s.heap.size ≤ q → (fun q => q = b ∨ s.heap.size ≤ q) q := fun q h => Or.inr h
  have hl : lv_has ls 1 [(0, .ref b)] := hl
  refine q_ald_n cx dX5_init_0 rfl (lv_at hl 0 rfl) ?_
  refine n_objInit cx q_h302 q_h167 q_h168 hl.1 dX5_init_1 (by decide) (by decide) ?_
  obtain ⟨K, L, f, hb, kb, fb, ob, hN⟩ := n_seal (Xs := []) (k := 18) hN (n_shO (by decide) ⟨⟨_, rfl⟩, ⟨_, rfl⟩, ⟨_, rfl, by decide, by decide⟩, ⟨_, rfl, by decide, by decide⟩, ⟨_, rfl, by decide, by decide⟩, ⟨_, rfl, by decide, by decide⟩, ⟨_, rfl, by decide, by decide⟩, ⟨_, rfl, by decide, by decide⟩, ⟨_, rfl, by decide, by decide⟩, ⟨_, rfl, by decide, by decide⟩, trivial⟩)
  exact n_ret cx hr hlk hN hb kb (q_Has.one hb fb) dX5_init_4
set_option maxHeartbeats 4000000 in
set_option maxRecDepth 100000 in
theorem n_X3_22 (l : Launch) (g : q_G) : q_Nw l g yX3_init cX3_init 1 1 12 0 0 3 [.int 0, .int 0, .int 0, .int 0, .int 0] 22 (fun L f b => q_Has L f [(b, .inr (3, [.int 0, .int 0, .int 0, .int 0, .int 0]))]) := by
  refine n_ofb (by decide +kernel) rfl (by decide) ?_
  intro p e s m below meth c ls b cx hr hlk hin hE hN hl
  have hA : ∀ q, s.heap.size ≤ q → (fun q => q = b ∨ s.heap.size ≤ q) q := fun q h => Or.inr h
  have hl : lv_has ls 1 [(0, .ref b)] := hl
  refine q_ald_n cx dX3_init_0 rfl (lv_at hl 0 rfl) ?_
  refine n_objInit cx q_h355 q_h167 q_h168 hl.1 dX3_init_1 (by decide) (by decide) ?_
  obtain ⟨K, L, f, hb, kb, fb, ob, hN⟩ := n_seal (Xs := []) (k := 22) hN (n_shO (by decide) ⟨⟨_, rfl, by decide, by decide⟩, ⟨_, rfl, by decide, by decide⟩, ⟨_, rfl, by decide, by decide⟩, ⟨_, rfl, by decide, by decide⟩, ⟨_, rfl, by decide, by decide⟩, trivial⟩)
  exact n_ret cx hr hlk hN hb kb (q_Has.one hb fb) dX3_init_4
set_option maxHeartbeats 4000000 in
set_option maxRecDepth 100000 in
theorem n_X4_26 (l : Launch) (g : q_G) : q_Nw l g yX4_init cX4_init 1 1 12 0 0 4 [.int 0, .int 0, .int 0, .int 0, .int 0, .int 0, .int 0, .int 0] 26 (fun L f b => q_Has L f [(b, .inr (4, [.int 0, .int 0, .int 0, .int 0, .int 0, .int 0, .int 0, .int 0]))]) := by
  refine n_ofb (by decide +kernel) rfl (by decide) ?_
  intro p e s m below meth c ls b cx hr hlk hin hE hN hl
  have hA : ∀ q, s.heap.size ≤ q → (fun q => q = b ∨ s.heap.size ≤ q) q := fun q h => Or.inr h
  have hl : lv_has ls 1 [(0, .ref b)] := hl
  refine q_ald_n cx dX4_init_0 rfl (lv_at hl 0 rfl) ?_
  refine n_objInit cx q_h381 q_h167 q_h168 hl.1 dX4_init_1 (by decide) (by decide) ?_
  obtain ⟨K, L, f, hb, kb, fb, ob, hN⟩ := n_seal (Xs := []) (k := 26) hN (n_shO (by decide) ⟨⟨_, rfl, by decide, by decide⟩, ⟨_, rfl, by decide, by decide⟩, ⟨_, rfl, by decide, by decide⟩, ⟨_, rfl, by decide, by decide⟩, ⟨_, rfl, by decide, by decide⟩, ⟨_, rfl, by decide, by decide⟩, ⟨_, rfl, by decide, by decide⟩, ⟨_, rfl, by decide, by decide⟩, trivial⟩)
  exact n_ret cx hr hlk hN hb kb (q_Has.one hb fb) dX4_init_4
set_option maxHeartbeats 4000000 in
set_option maxRecDepth 100000 in
theorem n_X5_19 (l : Launch) (g : q_G) : q_Nw l g yX5_init cX5_init 1 1 12 0 0 5 [.long 0, .long 0, .int 0, .int 0, .int 0, .int 0, .int 0, .int 0, .int 0, .int 0] 19 (fun L f b => q_Has L f [(b, .inr (5, [.long 0, .long 0, .int 0, .int 0, .int 0, .int 0, .int 0, .int 0, .int 0, .int 0]))]) := by
  refine n_ofb (by decide +kernel) rfl (by decide) ?_
  intro p e s m below meth c ls b cx hr hlk hin hE hN hl
  have hA : ∀ q, s.heap.size ≤ q → (fun q => q = b ∨ s.heap.size ≤ q) q := fun q h => Or.inr h
  have hl : lv_has ls 1 [(0, .ref b)] := hl
  refine q_ald_n cx dX5_init_0 rfl (lv_at hl 0 rfl) ?_
  refine n_objInit cx q_h302 q_h167 q_h168 hl.1 dX5_init_1 (by decide) (by decide) ?_
  obtain ⟨K, L, f, hb, kb, fb, ob, hN⟩ := n_seal (Xs := []) (k := 19) hN (n_shO (by decide) ⟨⟨_, rfl⟩, ⟨_, rfl⟩, ⟨_, rfl, by decide, by decide⟩, ⟨_, rfl, by decide, by decide⟩, ⟨_, rfl, by decide, by decide⟩, ⟨_, rfl, by decide, by decide⟩, ⟨_, rfl, by decide, by decide⟩, ⟨_, rfl, by decide, by decide⟩, ⟨_, rfl, by decide, by decide⟩, ⟨_, rfl, by decide, by decide⟩, trivial⟩)
  exact n_ret cx hr hlk hN hb kb (q_Has.one hb fb) dX5_init_4
set_option maxHeartbeats 4000000 in
set_option maxRecDepth 100000 in
theorem n_X3_23 (l : Launch) (g : q_G) : q_Nw l g yX3_init cX3_init 1 1 12 0 0 3 [.int 0, .int 0, .int 0, .int 0, .int 0] 23 (fun L f b => q_Has L f [(b, .inr (3, [.int 0, .int 0, .int 0, .int 0, .int 0]))]) := by
  refine n_ofb (by decide +kernel) rfl (by decide) ?_
  intro p e s m below meth c ls b cx hr hlk hin hE hN hl
  have hA : ∀ q, s.heap.size ≤ q → (fun q => q = b ∨ s.heap.size ≤ q) q := fun q h => Or.inr h
  have hl : lv_has ls 1 [(0, .ref b)] := hl
  refine q_ald_n cx dX3_init_0 rfl (lv_at hl 0 rfl) ?_
  refine n_objInit cx q_h355 q_h167 q_h168 hl.1 dX3_init_1 (by decide) (by decide) ?_
  obtain ⟨K, L, f, hb, kb, fb, ob, hN⟩ := n_seal (Xs := []) (k := 23) hN (n_shO (by decide) ⟨⟨_, rfl, by decide, by decide⟩, ⟨_, rfl, by decide, by decide⟩, ⟨_, rfl, by decide, by decide⟩, ⟨_, rfl, by decide, by decide⟩, ⟨_, rfl, by decide, by decide⟩, trivial⟩)
  exact n_ret cx hr hlk hN hb kb (q_Has.one hb fb) dX3_init_4
set_option maxHeartbeats 4000000 in
set_option maxRecDepth 100000 in
theorem n_X4_27 (l : Launch) (g : q_G) : q_Nw l g yX4_init cX4_init 1 1 12 0 0 4 [.int 0, .int 0, .int 0, .int 0, .int 0, .int 0, .int 0, .int 0] 27 (fun L f b => q_Has L f [(b, .inr (4, [.int 0, .int 0, .int 0, .int 0, .int 0, .int 0, .int 0, .int 0]))]) := by
  refine n_ofb (by decide +kernel) rfl (by decide) ?_
  intro p e s m below meth c ls b cx hr hlk hin hE hN hl
  have hA : ∀ q, s.heap.size ≤ q → (fun q => q = b ∨ s.heap.size ≤ q) q := fun q h => Or.inr h
  have hl : lv_has ls 1 [(0, .ref b)] := hl
  refine q_ald_n cx dX4_init_0 rfl (lv_at hl 0 rfl) ?_
  refine n_objInit cx q_h381 q_h167 q_h168 hl.1 dX4_init_1 (by decide) (by decide) ?_
  obtain ⟨K, L, f, hb, kb, fb, ob, hN⟩ := n_seal (Xs := []) (k := 27) hN (n_shO (by decide) ⟨⟨_, rfl, by decide, by decide⟩, ⟨_, rfl, by decide, by decide⟩, ⟨_, rfl, by decide, by decide⟩, ⟨_, rfl, by decide, by decide⟩, ⟨_, rfl, by decide, by decide⟩, ⟨_, rfl, by decide, by decide⟩, ⟨_, rfl, by decide, by decide⟩, ⟨_, rfl, by decide, by decide⟩, trivial⟩)
  exact n_ret cx hr hlk hN hb kb (q_Has.one hb fb) dX4_init_4
set_option maxHeartbeats 4000000 in
set_option maxRecDepth 100000 in
theorem n_X5_20 (l : Launch) (g : q_G) : q_Nw l g yX5_init cX5_init 1 1 12 0 0 5 [.long 0, .long 0, .int 0, .int 0, .int 0, .int 0, .int 0, .int 0, .int 0, .int 0] 20 (fun L f b => q_Has L f [(b, .inr (5, [.long 0, .long 0, .int 0, .int 0, .int 0, .int 0, .int 0, .int 0, .int 0, .int 0]))]) := by
  refine n_ofb (by decide +kernel) rfl (by decide) ?_
  intro p e s m below meth c ls b cx hr hlk hin hE hN hl
  have hA : ∀ q, s.heap.size ≤ q → (fun q => q = b ∨ s.heap.size ≤ q) q := fun q h => Or.inr h
  have hl : lv_has ls 1 [(0, .ref b)] := hl
  refine q_ald_n cx dX5_init_0 rfl (lv_at hl 0 rfl) ?_
  refine n_objInit cx q_h302 q_h167 q_h168 hl.1 dX5_init_1 (by decide) (by decide) ?_
  obtain ⟨K, L, f, hb, kb, fb, ob, hN⟩ := n_seal (Xs := []) (k := 20) hN (n_shO (by decide) ⟨⟨_, rfl⟩, ⟨_, rfl⟩, ⟨_, rfl, by decide, by decide⟩, ⟨_, rfl, by decide, by decide⟩, ⟨_, rfl, by decide, by decide⟩, ⟨_, rfl, by decide, by decide⟩, ⟨_, rfl, by decide, by decide⟩, ⟨_, rfl, by decide, by decide⟩, ⟨_, rfl, by decide, by decide⟩, ⟨_, rfl, by decide, by decide⟩, trivial⟩)
  exact n_ret cx hr hlk hN hb kb (q_Has.one hb fb) dX5_init_4
set_option maxHeartbeats 4000000 in
set_option maxRecDepth 100000 in
theorem n_X3_24 (l : Launch) (g : q_G) : q_Nw l g yX3_init cX3_init 1 1 12 0 0 3 [.int 0, .int 0, .int 0, .int 0, .int 0] 24 (fun L f b => q_Has L f [(b, .inr (3, [.int 0, .int 0, .int 0, .int 0, .int 0]))]) := by
  refine n_ofb (by decide +kernel) rfl (by decide) ?_
  intro p e s m below meth c ls b cx hr hlk hin hE hN hl
  have hA : ∀ q, s.heap.size ≤ q → (fun q => q = b ∨ s.heap.size ≤ q) q := fun q h => Or.inr h
  have hl : lv_has ls 1 [(0, .ref b)] := hl
  refine q_ald_n cx dX3_init_0 rfl (lv_at hl 0 rfl) ?_
  refine n_objInit cx q_h355 q_h167 q_h168 hl.1 dX3_init_1 (by decide) (by decide) ?_
  obtain ⟨K, L, f, hb, kb, fb, ob, hN⟩ := n_seal (Xs := []) (k := 24) hN (n_shO (by decide) ⟨⟨_, rfl, by decide, by decide⟩, ⟨_, rfl, by decide, by decide⟩, ⟨_, rfl, by decide, by decide⟩, ⟨_, rfl, by decide, by decide⟩, ⟨_, rfl, by decide, by decide⟩, trivial⟩)
  exact n_ret cx hr hlk hN hb kb (q_Has.one hb fb) dX3_init_4
set_option maxHeartbeats 4000000 in
set_option maxRecDepth 100000 in
theorem n_X4_28 (l : Launch) (g : q_G) : q_Nw l g yX4_init cX4_init 1 1 12 0 0 4 [.int 0, .int 0, .int 0, .int 0, .int 0, .int 0, .int 0, .int 0] 28 (fun L f b => q_Has L f [(b, .inr (4, [.int 0, .int 0, .int 0, .int 0, .int 0, .int 0, .int 0, .int 0]))]) := by
  refine n_ofb (by decide +kernel) rfl (by decide) ?_
  intro p e s m below meth c ls b cx hr hlk hin hE hN hl
  have hA : ∀ q, s.heap.size ≤ q → (fun q => q = b ∨ s.heap.size ≤ q) q := fun q h => Or.inr h
  have hl : lv_has ls 1 [(0, .ref b)] := hl
  refine q_ald_n cx dX4_init_0 rfl (lv_at hl 0 rfl) ?_
  refine n_objInit cx q_h381 q_h167 q_h168 hl.1 dX4_init_1 (by decide) (by decide) ?_
  obtain ⟨K, L, f, hb, kb, fb, ob, hN⟩ := n_seal (Xs := []) (k := 28) hN (n_shO (by decide) ⟨⟨_, rfl, by decide, by decide⟩, ⟨_, rfl, by decide, by decide⟩, ⟨_, rfl, by decide, by decide⟩, ⟨_, rfl, by decide, by decide⟩, ⟨_, rfl, by decide, by decide⟩, ⟨_, rfl, by decide, by decide⟩, ⟨_, rfl, by decide, by decide⟩, ⟨_, rfl, by decide, by decide⟩, trivial⟩)
  exact n_ret cx hr hlk hN hb kb (q_Has.one hb fb) dX4_init_4
set_option maxHeartbeats 4000000 in
set_option maxRecDepth 100000 in
theorem n_X0_0 (l : Launch) (g : q_G) : q_Nw l g yX0_init cX0_init 1 1 12 0 0 0 [.int 0, .int 0, .int 0, .int 0, .int 0, .int 0, .int 0] 0 (fun L f b => q_Has L f [(b, .inr (0, [.int 0, .int 0, .int 0, .int 0, .int 0, .int 0, .int 0]))]) := by
  refine n_ofb (by decide +kernel) rfl (by decide) ?_
  intro p e s m below meth c ls b cx hr hlk hin hE hN hl
  have hA : ∀ q, s.heap.size ≤ q → (fun q => q = b ∨ s.heap.size ≤ q) q := fun q h => Or.inr h
  have hl : lv_has ls 1 [(0, .ref b)] := hl
  refine q_ald_n cx dX0_init_0 rfl (lv_at hl 0 rfl) ?_
  refine n_objInit cx q_h241 q_h167 q_h168 hl.1 dX0_init_1 (by decide) (by decide) ?_
  obtain ⟨K, L, f, hb, kb, fb, ob, hN⟩ := n_seal (Xs := []) (k := 0) hN (n_shO (by decide) ⟨⟨_, rfl, by decide, by decide⟩, ⟨_, rfl, by decide, by decide⟩, ⟨_, rfl, by decide, by decide⟩, ⟨_, rfl, by decide, by decide⟩, ⟨_, rfl, by decide, by decide⟩, ⟨_, rfl, by decide, by decide⟩, ⟨_, rfl, by decide, by decide⟩, trivial⟩)
  exact n_ret cx hr hlk hN hb kb (q_Has.one hb fb) dX0_init_4
set_option maxHeartbeats 4000000 in
set_option maxRecDepth 100000 in
theorem n_X9_9 (l : Launch) (g : q_G) : q_Nw l g yX9_init cX9_init 1 1 12 0 0 9 [.int 0, .int 0, .int 0] 9 (fun L f b => q_Has L f [(b, .inr (9, [.int 0, .int 0, .int 0]))]) := by
  refine n_ofb (by decide +kernel) rfl (by decide) ?_
  intro p e s m below meth c ls b cx hr hlk hin hE hN hl
  have hA : ∀ q, s.heap.size ≤ q → (fun q => q = b ∨ s.heap.size ≤ q) q := fun q h => Or.inr h
  have hl : lv_has ls 1 [(0, .ref b)] := hl
  refine q_ald_n cx dX9_init_0 rfl (lv_at hl 0 rfl) ?_
  refine n_objInit cx q_h218 q_h167 q_h168 hl.1 dX9_init_1 (by decide) (by decide) ?_
  obtain ⟨K, L, f, hb, kb, fb, ob, hN⟩ := n_seal (Xs := []) (k := 9) hN (n_shO (by decide) ⟨⟨_, rfl, by decide, by decide⟩, ⟨_, rfl, by decide, by decide⟩, ⟨_, rfl, by decide, by decide⟩, trivial⟩)
  exact n_ret cx hr hlk hN hb kb (q_Has.one hb fb) dX9_init_4
set_option maxHeartbeats 4000000 in
set_option maxRecDepth 100000 in
theorem n_X8 (l : Launch) (g : q_G) : q_Nw l g yX8_init cX8_init 1 1 12 1 600 8 [.null, .int 0, .int 0, .int 0, .long 0, .int 0, .int 0, .int 0, .int 0, .int 0] 8 (fun L f b => ∃ a1 : Nat, q_Has L f [(b, .inr (8, [.ref a1, .int 0, .int 0, .int (q_i (-1)), .long 0, .int 0, .int 0, .int 0, .int 0, .int 0]))]) := by
  refine n_ofb (by decide +kernel) rfl (by decide) ?_
  intro p e s m below meth c ls b cx hr hlk hin hE hN hl
  have hA : ∀ q, s.heap.size ≤ q → (fun q => q = b ∨ s.heap.size ≤ q) q := fun q h => Or.inr h
  have hl : lv_has ls 1 [(0, .ref b)] := hl
  refine q_ald_n cx dX8_init_0 rfl (lv_at hl 0 rfl) ?_
  refine n_objInit cx q_h174 q_h167 q_h168 hl.1 dX8_init_1 (by decide) (by decide) ?_
  refine q_ald_n cx dX8_init_4 rfl (lv_at hl 0 rfl) ?_
  refine q_sipush cx dX8_init_5 rfl ?_
  refine n_newarr (atype := .byte) (t0 := 0) (k := 142) (N' := 600) (x0 := .inl (fun _ => 0)) (ty := .byte) cx hA hN q_h212 rfl rfl (fun _ => rfl) ⟨by decide, by decide⟩ (by decide) rfl (by decide) (by decide) (by decide) (n_shI (by decide) rfl (Or.inl rfl) (fun _ => rfl)) dX8_init_8 (fun a1 K L f H ha1 ka1 fa1 oa1 hN => ?_)
  have hN : q_N g _ _ (fun q => q = b ∨ s.heap.size ≤ q) [(b, .inr (8, [.null, .int 0, .int 0, .int 0, .long 0, .int 0, .int 0, .int 0, .int 0, .int 0]))] _ s H _ := hN
  refine n_putF cx hN 0 rfl rfl 0 (by decide) q_inX8 tyX8 q_yX8 q_nX8 q_h175 rfl rfl hin rfl (q_yX8 0 (by decide)) rfl rfl (Nat.le_of_ble_eq_true rfl) dX8_init_10 (fun H locs hN => ?_)
  have hN : q_N g _ _ (fun q => q = b ∨ s.heap.size ≤ q) [(b, .inr (8, [.ref a1, .int 0, .int 0, .int 0, .long 0, .int 0, .int 0, .int 0, .int 0, .int 0]))] _ s H _ := hN
  refine q_ald_n cx dX8_init_13 rfl (lv_at hl 0 rfl) ?_
  refine q_iconst cx dX8_init_14 ?_
  refine n_put cx hN 0 rfl rfl 3 (by decide) q_inX8 tyX8 q_yX8 q_nX8 q_h180 rfl rfl (q_yX8 3 (by decide)) rfl rfl (Nat.le_of_ble_eq_true rfl) dX8_init_15 (fun H locs hN => ?_)
  have hN : q_N g _ _ (fun q => q = b ∨ s.heap.size ≤ q) [(b, .inr (8, [.ref a1, .int 0, .int 0, .int (q_i (-1)), .long 0, .int 0, .int 0, .int 0, .int 0, .int 0]))] _ s H _ := hN
  obtain ⟨K, L, f, hb, kb, fb, ob, hN⟩ := n_seal (Xs := []) (k := 8) hN (n_shO (by decide) ⟨⟨a1, rfl, ha1, ka1⟩, ⟨_, rfl, by decide, by decide⟩, ⟨_, rfl, by decide, by decide⟩, ⟨_, rfl, by decide, by decide⟩, ⟨_, rfl⟩, ⟨_, rfl, by decide, by decide⟩, ⟨_, rfl, by decide, by decide⟩, ⟨_, rfl, by decide, by decide⟩, ⟨_, rfl, by decide, by decide⟩, ⟨_, rfl, by decide, by decide⟩, trivial⟩)
  exact n_ret cx hr hlk hN hb kb ⟨a1, q_Has.one hb fb⟩ dX8_init_18
set_option maxHeartbeats 4000000 in
set_option maxRecDepth 100000 in
theorem n_X6 (l : Launch) (g : q_G) : q_Nw l g yX6_init cX6_init 1 1 12 1 600 6 [.null, .int 0] 6 (fun L f b => ∃ a1 : Nat, q_Has L f [(b, .inr (6, [.ref a1, .int 0]))]) := by
  refine n_ofb (by decide +kernel) rfl (by decide) ?_
  intro p e s m below meth c ls b cx hr hlk hin hE hN hl
  have hA : ∀ q, s.heap.size ≤ q → (fun q => q = b ∨ s.heap.size ≤ q) q := fun q h => Or.inr h
  have hl : lv_has ls 1 [(0, .ref b)] := hl
  refine q_ald_n cx dX6_init_0 rfl (lv_at hl 0 rfl) ?_
  refine n_objInit cx q_h516 q_h167 q_h168 hl.1 dX6_init_1 (by decide) (by decide) ?_
  refine q_ald_n cx dX6_init_4 rfl (lv_at hl 0 rfl) ?_
  refine q_sipush cx dX6_init_5 rfl ?_
  refine n_newarr (atype := .byte) (t0 := 0) (k := 143) (N' := 600) (x0 := .inl (fun _ => 0)) (ty := .byte) cx hA hN q_h212 rfl rfl (fun _ => rfl) ⟨by decide, by decide⟩ (by decide) rfl (by decide) (by decide) (by decide) (n_shI (by decide) rfl (Or.inl rfl) (fun _ => rfl)) dX6_init_8 (fun a1 K L f H ha1 ka1 fa1 oa1 hN => ?_)
  have hN : q_N g _ _ (fun q => q = b ∨ s.heap.size ≤ q) [(b, .inr (6, [.null, .int 0]))] _ s H _ := hN
  refine n_putF cx hN 0 rfl rfl 0 (by decide) q_inX6 tyX6 q_yX6 q_nX6 q_h517 rfl rfl hin rfl (q_yX6 0 (by decide)) rfl rfl (Nat.le_of_ble_eq_true rfl) dX6_init_10 (fun H locs hN => ?_)
  have hN : q_N g _ _ (fun q => q = b ∨ s.heap.size ≤ q) [(b, .inr (6, [.ref a1, .int 0]))] _ s H _ := hN
  obtain ⟨K, L, f, hb, kb, fb, ob, hN⟩ := n_seal (Xs := []) (k := 6) hN (n_shO (by decide) ⟨⟨a1, rfl, ha1, ka1⟩, ⟨_, rfl, by decide, by decide⟩, trivial⟩)
  exact n_ret cx hr hlk hN hb kb ⟨a1, q_Has.one hb fb⟩ dX6_init_13
set_option maxHeartbeats 4000000 in
set_option maxRecDepth 100000 in
theorem n_makeEmpty (l : Launch) (g : q_G) (v0 v1 v2 : Value) : q_Rw l g yX10_makeEmpty cX10_makeEmpty 1 1 12 (.inr (10, [v0, v1, v2, .int 0, .int 0, .int 0, .int 0, .int 0, .int 0, .int 0, .int 0, .int 0, .int 0, .int 0, .int 0, .int 0])) (.inr (10, [v0, v1, v2, .int (q_i 0), .int (q_i 0), .int (q_i 0), .int (q_i 12), .int (q_i 1), .int (q_i 2), .int (q_i 5), .int (q_i 3), .int (q_i 0), .int (q_i 0), .int 0, .int 0, .int 0])) := by
  refine r_ofb (by decide +kernel) (by decide) ?_
  intro p e s m below meth c ls b cx hr hlk hN hl
  have hl : lv_has ls 1 [(0, .ref b)] := hl
  refine q_ald_n cx dX10_makeEmpty_0 rfl (lv_at hl 0 rfl) ?_
  refine q_iconst cx dX10_makeEmpty_1 ?_
  refine n_put cx hN 0 rfl rfl 3 (by decide) q_inX10 tyX10 q_yX10 q_nX10 q_h424 rfl rfl (q_yX10 3 (by decide)) rfl rfl (Nat.le_of_ble_eq_true rfl) dX10_makeEmpty_2 (fun H locs hN => ?_)
  have hN : q_N g _ _ (fun q => q = b) [(b, .inr (10, [v0, v1, v2, .int (q_i 0), .int 0, .int 0, .int 0, .int 0, .int 0, .int 0, .int 0, .int 0, .int 0, .int 0, .int 0, .int 0]))] _ s H _ := hN
  refine q_ald_n cx dX10_makeEmpty_5 rfl (lv_at hl 0 rfl) ?_
  refine q_iconst cx dX10_makeEmpty_6 ?_
  refine n_put cx hN 0 rfl rfl 4 (by decide) q_inX10 tyX10 q_yX10 q_nX10 q_h428 rfl rfl (q_yX10 4 (by decide)) rfl rfl (Nat.le_of_ble_eq_true rfl) dX10_makeEmpty_7 (fun H locs hN => ?_)
  have hN : q_N g _ _ (fun q => q = b) [(b, .inr (10, [v0, v1, v2, .int (q_i 0), .int (q_i 0), .int 0, .int 0, .int 0, .int 0, .int 0, .int 0, .int 0, .int 0, .int 0, .int 0, .int 0]))] _ s H _ := hN
  refine q_ald_n cx dX10_makeEmpty_10 rfl (lv_at hl 0 rfl) ?_
  refine q_iconst cx dX10_makeEmpty_11 ?_
  refine n_put cx hN 0 rfl rfl 5 (by decide) q_inX10 tyX10 q_yX10 q_nX10 q_h431 rfl rfl (q_yX10 5 (by decide)) rfl rfl (Nat.le_of_ble_eq_true rfl) dX10_makeEmpty_12 (fun H locs hN => ?_)
  have hN : q_N g _ _ (fun q => q = b) [(b, .inr (10, [v0, v1, v2, .int (q_i 0), .int (q_i 0), .int (q_i 0), .int 0, .int 0, .int 0, .int 0, .int 0, .int 0, .int 0, .int 0, .int 0, .int 0]))] _ s H _ := hN
  refine q_ald_n cx dX10_makeEmpty_15 rfl (lv_at hl 0 rfl) ?_
  refine q_bipush cx dX10_makeEmpty_16 rfl ?_
  refine n_put cx hN 0 rfl rfl 6 (by decide) q_inX10 tyX10 q_yX10 q_nX10 q_h434 rfl rfl (q_yX10 6 (by decide)) rfl rfl (Nat.le_of_ble_eq_true rfl) dX10_makeEmpty_18 (fun H locs hN => ?_)
  have hN : q_N g _ _ (fun q => q = b) [(b, .inr (10, [v0, v1, v2, .int (q_i 0), .int (q_i 0), .int (q_i 0), .int (q_i 12), .int 0, .int 0, .int 0, .int 0, .int 0, .int 0, .int 0, .int 0, .int 0]))] _ s H _ := hN
  refine q_ald_n cx dX10_makeEmpty_21 rfl (lv_at hl 0 rfl) ?_
  refine q_iconst cx dX10_makeEmpty_22 ?_
  refine n_put cx hN 0 rfl rfl 7 (by decide) q_inX10 tyX10 q_yX10 q_nX10 q_h438 rfl rfl (q_yX10 7 (by decide)) rfl rfl (Nat.le_of_ble_eq_true rfl) dX10_makeEmpty_23 (fun H locs hN => ?_)
  have hN : q_N g _ _ (fun q => q = b) [(b, .inr (10, [v0, v1, v2, .int (q_i 0), .int (q_i 0), .int (q_i 0), .int (q_i 12), .int (q_i 1), .int 0, .int 0, .int 0, .int 0, .int 0, .int 0, .int 0, .int 0]))] _ s H _ := hN
  refine q_ald_n cx dX10_makeEmpty_26 rfl (lv_at hl 0 rfl) ?_
  refine q_iconst cx dX10_makeEmpty_27 ?_
  refine n_put cx hN 0 rfl rfl 8 (by decide) q_inX10 tyX10 q_yX10 q_nX10 q_h440 rfl rfl (q_yX10 8 (by decide)) rfl rfl (Nat.le_of_ble_eq_true rfl) dX10_makeEmpty_28 (fun H locs hN => ?_)
  have hN : q_N g _ _ (fun q => q = b) [(b, .inr (10, [v0, v1, v2, .int (q_i 0), .int (q_i 0), .int (q_i 0), .int (q_i 12), .int (q_i 1), .int (q_i 2), .int 0, .int 0, .int 0, .int 0, .int 0, .int 0, .int 0]))] _ s H _ := hN
  refine q_ald_n cx dX10_makeEmpty_31 rfl (lv_at hl 0 rfl) ?_
  refine q_iconst cx dX10_makeEmpty_32 ?_
  refine n_put cx hN 0 rfl rfl 9 (by decide) q_inX10 tyX10 q_yX10 q_nX10 q_h442 rfl rfl (q_yX10 9 (by decide)) rfl rfl (Nat.le_of_ble_eq_true rfl) dX10_makeEmpty_33 (fun H locs hN => ?_)
  have hN : q_N g _ _ (fun q => q = b) [(b, .inr (10, [v0, v1, v2, .int (q_i 0), .int (q_i 0), .int (q_i 0), .int (q_i 12), .int (q_i 1), .int (q_i 2), .int (q_i 5), .int 0, .int 0, .int 0, .int 0, .int 0, .int 0]))] _ s H _ := hN
  refine q_ald_n cx dX10_makeEmpty_36 rfl (lv_at hl 0 rfl) ?_
  refine q_iconst cx dX10_makeEmpty_37 ?_
  refine n_put cx hN 0 rfl rfl 10 (by decide) q_inX10 tyX10 q_yX10 q_nX10 q_h444 rfl rfl (q_yX10 10 (by decide)) rfl rfl (Nat.le_of_ble_eq_true rfl) dX10_makeEmpty_38 (fun H locs hN => ?_)
  have hN : q_N g _ _ (fun q => q = b) [(b, .inr (10, [v0, v1, v2, .int (q_i 0), .int (q_i 0), .int (q_i 0), .int (q_i 12), .int (q_i 1), .int (q_i 2), .int (q_i 5), .int (q_i 3), .int 0, .int 0, .int 0, .int 0, .int 0]))] _ s H _ := hN
  refine q_ald_n cx dX10_makeEmpty_41 rfl (lv_at hl 0 rfl) ?_
  refine q_iconst cx dX10_makeEmpty_42 ?_
  refine n_put cx hN 0 rfl rfl 11 (by decide) q_inX10 tyX10 q_yX10 q_nX10 q_h447 rfl rfl (q_yX10 11 (by decide)) rfl rfl (Nat.le_of_ble_eq_true rfl) dX10_makeEmpty_43 (fun H locs hN => ?_)
  have hN : q_N g _ _ (fun q => q = b) [(b, .inr (10, [v0, v1, v2, .int (q_i 0), .int (q_i 0), .int (q_i 0), .int (q_i 12), .int (q_i 1), .int (q_i 2), .int (q_i 5), .int (q_i 3), .int (q_i 0), .int 0, .int 0, .int 0, .int 0]))] _ s H _ := hN
  refine q_ald_n cx dX10_makeEmpty_46 rfl (lv_at hl 0 rfl) ?_
  refine q_iconst cx dX10_makeEmpty_47 ?_
  refine n_put cx hN 0 rfl rfl 12 (by decide) q_inX10 tyX10 q_yX10 q_nX10 q_h449 rfl rfl (q_yX10 12 (by decide)) rfl rfl (Nat.le_of_ble_eq_true rfl) dX10_makeEmpty_48 (fun H locs hN => ?_)
  have hN : q_N g _ _ (fun q => q = b) [(b, .inr (10, [v0, v1, v2, .int (q_i 0), .int (q_i 0), .int (q_i 0), .int (q_i 12), .int (q_i 1), .int (q_i 2), .int (q_i 5), .int (q_i 3), .int (q_i 0), .int (q_i 0), .int 0, .int 0, .int 0]))] _ s H _ := hN
  exact r_ret cx hr hlk hN dX10_makeEmpty_51
theorem n_cme : ∀ w ∈ wsV RX10 32 RX10 yX10_makeEmpty (.code yX10_makeEmpty cX10_makeEmpty 1 none :: q_al), w ∈ q_al := q_cons q_h417 (q_cons q_h418 (q_cons q_h419 (q_cons q_h141 (q_cons q_h420 q_self))))
theorem n_dfX4 : ∀ j, j < 8 → defaultValue (tyX4 j) = vp_V [.int 0, .int 0, .int 0, .int 0, .int 0, .int 0, .int 0, .int 0] j := fun j hj => by
  rcases (show j = 0 ∨ j = 1 ∨ j = 2 ∨ j = 3 ∨ j = 4 ∨ j = 5 ∨ j = 6 ∨ j = 7 by omega) with rfl | rfl | rfl | rfl | rfl | rfl | rfl | rfl <;> rfl
theorem n_dfX3 : ∀ j, j < 5 → defaultValue (tyX3 j) = vp_V [.int 0, .int 0, .int 0, .int 0, .int 0] j := fun j hj => by
  rcases (show j = 0 ∨ j = 1 ∨ j = 2 ∨ j = 3 ∨ j = 4 by omega) with rfl | rfl | rfl | rfl | rfl <;> rfl
theorem n_dfX5 : ∀ j, j < 10 → defaultValue (tyX5 j) = vp_V [.long 0, .long 0, .int 0, .int 0, .int 0, .int 0, .int 0, .int 0, .int 0, .int 0] j := fun j hj => by
  rcases (show j = 0 ∨ j = 1 ∨ j = 2 ∨ j = 3 ∨ j = 4 ∨ j = 5 ∨ j = 6 ∨ j = 7 ∨ j = 8 ∨ j = 9 by omega) with rfl | rfl | rfl | rfl | rfl | rfl | rfl | rfl | rfl | rfl <;> rfl
set_option maxHeartbeats 4000000 in
set_option maxRecDepth 100000 in
theorem n_V0 (l : Launch) (g : q_G) : q_Nw l g yX10_init cX10_init 2 2 32 90 755 10 [.null, .null, .null, .int 0, .int 0, .int 0, .int 0, .int 0, .int 0, .int 0, .int 0, .int 0, .int 0, .int 0, .int 0, .int 0] 10 (fun L f b => ∃ a1 a2 a3 : Nat, q_Has L f [(b, .inr (10, [.ref a1, .ref a2, .ref a3, .int (q_i 0), .int (q_i 0), .int (q_i 0), .int (q_i 12), .int (q_i 1), .int (q_i 2), .int (q_i 5), .int (q_i 3), .int (q_i 0), .int (q_i 0), .int 0, .int 0, .int 0]))] ∧ n_vl L f a1) := by
  refine n_ofb (by decide +kernel) rfl (by decide) ?_
  intro p e s m below meth c ls b cx hr hlk hin hE hN hl
  have hA : ∀ q, s.heap.size ≤ q → (fun q => q = b ∨ s.heap.size ≤ q) q := fun q h => Or.inr h
  have hl : lv_has ls 2 [(0, .ref b)] := hl
  refine q_ald_n cx dX10_init_0 rfl (lv_at hl 0 rfl) ?_
  refine n_objInit cx q_h291 q_h167 q_h168 hl.1 dX10_init_1 (by decide) (by decide) ?_
  refine q_ald_n cx dX10_init_4 rfl (lv_at hl 0 rfl) ?_
  refine q_bipush cx dX10_init_5 rfl ?_
  refine n_anew (t0 := 7) (N' := 10) cx hA hE.1.2.1 hN q_h292 rfl ⟨by decide, by decide⟩ (by decide) rfl (by decide) (by decide) (by decide) dX10_init_7 (fun a1 H hN => ?_)
  have hN : q_N g _ _ (fun q => q = b ∨ s.heap.size ≤ q) [(b, .inr (10, [.null, .null, .null, .int 0, .int 0, .int 0, .int 0, .int 0, .int 0, .int 0, .int 0, .int 0, .int 0, .int 0, .int 0, .int 0])), (a1, .inl (g.2 7, 10, .inr (.inr (.inr (.inr (fun _ => none))))))] _ s H _ := hN
  refine n_putF cx hN 0 rfl rfl 0 (by decide) q_inX10 tyX10 q_yX10 q_nX10 q_h421 rfl rfl hin rfl (q_yX10 0 (by decide)) rfl rfl (Nat.le_of_ble_eq_true rfl) dX10_init_10 (fun H locs hN => ?_)
  have hN : q_N g _ _ (fun q => q = b ∨ s.heap.size ≤ q) [(b, .inr (10, [.ref a1, .null, .null, .int 0, .int 0, .int 0, .int 0, .int 0, .int 0, .int 0, .int 0, .int 0, .int 0, .int 0, .int 0, .int 0])), (a1, .inl (g.2 7, 10, .inr (.inr (.inr (.inr (fun _ => none))))))] _ s H _ := hN
  refine q_ald_n cx dX10_init_13 rfl (lv_at hl 0 rfl) ?_
  refine q_bipush cx dX10_init_14 rfl ?_
  refine n_anew (t0 := 5) (N' := 16) cx hA hE.1.2.2.1 hN q_h294 rfl ⟨by decide, by decide⟩ (by decide) rfl (by decide) (by decide) (by decide) dX10_init_16 (fun a2 H hN => ?_)
  have hN : q_N g _ _ (fun q => q = b ∨ s.heap.size ≤ q) [(b, .inr (10, [.ref a1, .null, .null, .int 0, .int 0, .int 0, .int 0, .int 0, .int 0, .int 0, .int 0, .int 0, .int 0, .int 0, .int 0, .int 0])), (a1, .inl (g.2 7, 10, .inr (.inr (.inr (.inr (fun _ => none)))))), (a2, .inl (g.2 5, 16, .inr (.inr (.inr (.inr (fun _ => none))))))] _ s H _ := hN
  refine n_putF cx hN 0 rfl rfl 1 (by decide) q_inX10 tyX10 q_yX10 q_nX10 q_h422 rfl rfl hin rfl (q_yX10 1 (by decide)) rfl rfl (Nat.le_of_ble_eq_true rfl) dX10_init_19 (fun H locs hN => ?_)
  have hN : q_N g _ _ (fun q => q = b ∨ s.heap.size ≤ q) [(b, .inr (10, [.ref a1, .ref a2, .null, .int 0, .int 0, .int 0, .int 0, .int 0, .int 0, .int 0, .int 0, .int 0, .int 0, .int 0, .int 0, .int 0])), (a1, .inl (g.2 7, 10, .inr (.inr (.inr (.inr (fun _ => none)))))), (a2, .inl (g.2 5, 16, .inr (.inr (.inr (.inr (fun _ => none))))))] _ s H _ := hN
  refine q_ald_n cx dX10_init_22 rfl (lv_at hl 0 rfl) ?_
  refine q_bipush cx dX10_init_23 rfl ?_
  refine n_anew (t0 := 6) (N' := 61) cx hA hE.1.2.2.2.1 hN q_h296 rfl ⟨by decide, by decide⟩ (by decide) rfl (by decide) (by decide) (by decide) dX10_init_25 (fun a3 H hN => ?_)
  have hN : q_N g _ _ (fun q => q = b ∨ s.heap.size ≤ q) [(b, .inr (10, [.ref a1, .ref a2, .null, .int 0, .int 0, .int 0, .int 0, .int 0, .int 0, .int 0, .int 0, .int 0, .int 0, .int 0, .int 0, .int 0])), (a1, .inl (g.2 7, 10, .inr (.inr (.inr (.inr (fun _ => none)))))), (a2, .inl (g.2 5, 16, .inr (.inr (.inr (.inr (fun _ => none)))))), (a3, .inl (g.2 6, 61, .inr (.inr (.inr (.inr (fun _ => none))))))] _ s H _ := hN
  refine n_putF cx hN 0 rfl rfl 2 (by decide) q_inX10 tyX10 q_yX10 q_nX10 q_h423 rfl rfl hin rfl (q_yX10 2 (by decide)) rfl rfl (Nat.le_of_ble_eq_true rfl) dX10_init_28 (fun H locs hN => ?_)
  have hN : q_N g _ _ (fun q => q = b ∨ s.heap.size ≤ q) [(b, .inr (10, [.ref a1, .ref a2, .ref a3, .int 0, .int 0, .int 0, .int 0, .int 0, .int 0, .int 0, .int 0, .int 0, .int 0, .int 0, .int 0, .int 0])), (a1, .inl (g.2 7, 10, .inr (.inr (.inr (.inr (fun _ => none)))))), (a2, .inl (g.2 5, 16, .inr (.inr (.inr (.inr (fun _ => none)))))), (a3, .inl (g.2 6, 61, .inr (.inr (.inr (.inr (fun _ => none))))))] _ s H _ := hN
  have J93 : ∀ (n : Nat) (i : Int) (hi0 : 0 ≤ i) (hi1 : i ≤ 61) (hmu : Int.toNat (61 - i) < n) (K : Nat → Nat) (L : List Nat) (f : Nat → va_E) (H : Heap) (locs : List Loc) (r1 r2 r3 : Nat → Option Nat) (g1 : ∀ j : Nat, (j : Int) < 10 → ∃ q, r1 j = some q ∧ q ∈ L ∧ K q = 5) (g2 : ∀ j : Nat, (j : Int) < 16 → ∃ q, r2 j = some q ∧ q ∈ L ∧ K q = 3) (g3 : ∀ j : Nat, (j : Int) < i → ∃ q, r3 j = some q ∧ q ∈ L ∧ K q = 4) (gi9 : n_ri r1 10) (cc9 ss9 : Nat) (hc9 : cc9 = 29 + 1 * i.toNat) (hs9 : ss9 = 267 + 8 * i.toNat) (hN : q_N g K L (fun q => q = b ∨ s.heap.size ≤ q) [(b, .inr (10, [.ref a1, .ref a2, .ref a3, .int 0, .int 0, .int 0, .int 0, .int 0, .int 0, .int 0, .int 0, .int 0, .int 0, .int 0, .int 0, .int 0])), (a1, .inl (g.2 7, 10, .inr (.inr (.inr (.inr r1))))), (a2, .inl (g.2 5, 16, .inr (.inr (.inr (.inr r2))))), (a3, .inl (g.2 6, 61, .inr (.inr (.inr (.inr r3)))))] f s H locs) (ls : Array Slot) (hl : lv_has ls 2 [(1, .int (q_i i)), (0, .ref b)]), W p l e { frames := 2, cells := 90, slots := 755, locals := 32 } s m ([.ref b] : List Value).toArray below meth c H locs cc9 ss9 (MQ below (n_Q g b s.heap.size 10 (fun L f b => ∃ a1 a2 a3 : Nat, q_Has L f [(b, .inr (10, [.ref a1, .ref a2, .ref a3, .int (q_i 0), .int (q_i 0), .int (q_i 0), .int (q_i 12), .int (q_i 1), .int (q_i 2), .int (q_i 5), .int (q_i 3), .int (q_i 0), .int (q_i 0), .int 0, .int 0, .int 0]))] ∧ n_vl L f a1)) ([.ref b] : List Value).toArray s 90 755 (fun q => q = b ∨ s.heap.size ≤ q)) (F0 m 93 ls []) := by
    intro n
    induction n with
    | zero =>
      intro i hi0 hi1 hmu
      exact absurd hmu (Nat.not_lt_zero _)
    | succ n ih =>
      intro i hi0 hi1 hmu K L f H locs r1 r2 r3 g1 g2 g3 gi9 cc9 ss9 hc9 hs9 hN ls hl
      refine q_ild_n cx dX10_init_93 rfl (lv_at hl 0 rfl) ?_
      refine q_ald_n cx dX10_init_94 rfl (lv_at hl 1 rfl) ?_
      refine n_get cx hN 0 rfl rfl 2 (by decide) q_inX10 q_h423 rfl rfl dX10_init_95 ?_
      refine n_alen (t0 := 6) cx hN 3 rfl rfl (by decide) dX10_init_98 ?_
      refine q_icge (tgt := 121) cx ⟨by omega, by omega⟩ ⟨by decide, by decide⟩ dX10_init_99 (by decide) (fun h9 => ?_) (fun h9 => ?_)
      · obtain rfl : i = 61 := by omega
        refine q_ald_n cx dX10_init_121 rfl (lv_at hl 1 rfl) ?_
        refine n_callR cx hN hA rfl (n_makeEmpty l g _ _ _) n_cme (by decide +kernel) ⟨by decide, by show cc9 ≤ 90; omega, by show ss9 ≤ 755; omega⟩ hl.1 (Nat.le_of_ble_eq_true rfl) dX10_init_122 (fun H locs hN => ?_)
        obtain ⟨K, L, f, hs2, ks2, fs2, os2, hN⟩ := n_seal (Xs := [(b, .inr (10, [.ref a1, .ref a2, .ref a3, .int (q_i 0), .int (q_i 0), .int (q_i 0), .int (q_i 12), .int (q_i 1), .int (q_i 2), .int (q_i 5), .int (q_i 3), .int (q_i 0), .int (q_i 0), .int 0, .int 0, .int 0])), (a1, .inl (g.2 7, 10, .inr (.inr (.inr (.inr r1))))), (a2, .inl (g.2 5, 16, .inr (.inr (.inr (.inr r2)))))]) (k := 130) hN (n_shR (by decide) rfl (by decide) (fun _ => rfl) (fun j hj => g3 j (by omega)))
        have g1 := q_full g1 (fun a ha => ⟨(os2 a ha).1, (os2 a ha).2.1⟩)
        have g2 := q_full g2 (fun a ha => ⟨(os2 a ha).1, (os2 a ha).2.1⟩)
        obtain ⟨K, L, f, hs1, ks1, fs1, os1, hN⟩ := n_seal (Xs := [(b, .inr (10, [.ref a1, .ref a2, .ref a3, .int (q_i 0), .int (q_i 0), .int (q_i 0), .int (q_i 12), .int (q_i 1), .int (q_i 2), .int (q_i 5), .int (q_i 3), .int (q_i 0), .int (q_i 0), .int 0, .int 0, .int 0])), (a1, .inl (g.2 7, 10, .inr (.inr (.inr (.inr r1)))))]) (k := 120) hN (n_shR (by decide) rfl (by decide) (fun _ => rfl) (fun j hj => g2 j (by omega)))
        have g1 := q_full g1 (fun a ha => ⟨(os1 a ha).1, (os1 a ha).2.1⟩)
        obtain ⟨K, L, f, hs0, ks0, fs0, os0, hN⟩ := n_seal (Xs := [(b, .inr (10, [.ref a1, .ref a2, .ref a3, .int (q_i 0), .int (q_i 0), .int (q_i 0), .int (q_i 12), .int (q_i 1), .int (q_i 2), .int (q_i 5), .int (q_i 3), .int (q_i 0), .int (q_i 0), .int 0, .int 0, .int 0]))]) (k := 110) hN (n_shR (by decide) rfl (by decide) (fun _ => rfl) (fun j hj => g1 j (by omega)))
        obtain ⟨K, L, f, hb, kb, fb, ob, hN⟩ := n_seal (Xs := []) (k := 10) hN (n_shO (by decide) ⟨⟨a1, rfl, hs0, ks0⟩, ⟨a2, rfl, (os0 _ hs1).1, ((os0 _ hs1).2.1.trans ks1)⟩, ⟨a3, rfl, (os0 _ (os1 _ hs2).1).1, ((os0 _ (os1 _ hs2).1).2.1.trans ((os1 _ hs2).2.1.trans ks2))⟩, ⟨_, rfl, by decide, by decide⟩, ⟨_, rfl, by decide, by decide⟩, ⟨_, rfl, by decide, by decide⟩, ⟨_, rfl, by decide, by decide⟩, ⟨_, rfl, by decide, by decide⟩, ⟨_, rfl, by decide, by decide⟩, ⟨_, rfl, by decide, by decide⟩, ⟨_, rfl, by decide, by decide⟩, ⟨_, rfl, by decide, by decide⟩, ⟨_, rfl, by decide, by decide⟩, ⟨_, rfl, by decide, by decide⟩, ⟨_, rfl, by decide, by decide⟩, ⟨_, rfl, by decide, by decide⟩, trivial⟩)
        refine W.widen (k := 90) (n := 755) (by omega) (by omega) ?_
        have hin9 : n_vl _ f a1 := n_vl_tr (fun a ha => ⟨(ob a ha).1, (ob a ha).2.2⟩) ⟨hs0, n_inj_of fs0 g1 gi9, n_in_of fs0 (q_full g1 (fun a ha => ⟨(os0 a ha).1, (os0 a ha).2.1⟩))⟩
        exact n_ret cx hr hlk hN hb kb ⟨a1, a2, a3, q_Has.one hb fb, hin9⟩ dX10_init_125
      · refine q_ald_n cx dX10_init_102 rfl (lv_at hl 1 rfl) ?_
        refine n_get cx hN 0 rfl rfl 2 (by decide) q_inX10 q_h423 rfl rfl dX10_init_103 ?_
        refine q_ild_n cx dX10_init_106 rfl (lv_at hl 0 rfl) ?_
        refine n_new (ci := 4) (fs := [.int 0, .int 0, .int 0, .int 0, .int 0, .int 0, .int 0, .int 0]) cx hA hN q_inX4 q_yX4 q_h296 q_h377 q_h144 rfl n_dfX4 (by show cc9 + 1 ≤ 90; omega) (by show ss9 + 8 ≤ 755; omega) dX10_init_107 (fun q9 H hN => ?_)
        refine lv_dup cx.1 cx.2.1 dX10_init_110 rfl ?_
        have hfr9 := n_fresh hN
        refine n_callIN (Xs := [(b, .inr (10, [.ref a1, .ref a2, .ref a3, .int 0, .int 0, .int 0, .int 0, .int 0, .int 0, .int 0, .int 0, .int 0, .int 0, .int 0, .int 0, .int 0])), (a1, .inl (g.2 7, 10, .inr (.inr (.inr (.inr r1))))), (a2, .inl (g.2 5, 16, .inr (.inr (.inr (.inr r2))))), (a3, .inl (g.2 6, 61, .inr (.inr (.inr (.inr r3)))))]) (k := 4) cx hE hA hN (n_X4_4 l g) (fun L1 f1 L2 f2 h _ h2 => h2.mono h) q_h144 (by decide +kernel) q_h379 q_h380 rfl (by decide +kernel) ⟨by decide, by show cc9 + 1 + 0 ≤ 90; omega, by show ss9 + 8 + 0 ≤ 755; omega⟩ hl.1 (Nat.le_of_ble_eq_true rfl) dX10_init_111 (fun K L f H locs hq9 kq9 oq9 pq9 hN => ?_)
        refine n_ast (t0 := 6) (k := 4) cx hN 3 rfl rfl hq9 kq9 (by decide) rfl hi0 (by omega) (by decide) dX10_init_114 (fun H locs hN => ?_)
        refine q_iinc (lv' := [(1, .int (q_i (i + 1))), (0, .ref b)]) cx dX10_init_115 hl (k := 0) rfl (by decide) rfl (fun ls hl => ?_)
        refine lv_goto (tgt := 93) cx.1 cx.2.1 dX10_init_118 (by decide) ?_
        exact ih (i + 1) (by omega) (by omega) (by omega) K L f H locs r1 r2 (va_up r3 i.toNat (some q9)) (q_full g1 (fun a ha => ⟨(oq9 a ha).1, (oq9 a ha).2.1⟩)) (q_full g2 (fun a ha => ⟨(oq9 a ha).1, (oq9 a ha).2.1⟩)) (q_fullS hi0 (q_full g3 (fun a ha => ⟨(oq9 a ha).1, (oq9 a ha).2.1⟩)) hq9 kq9) gi9 _ _ (by omega) (by omega) hN ls hl
  have J63 : ∀ (n : Nat) (i : Int) (hi0 : 0 ≤ i) (hi1 : i ≤ 16) (hmu : Int.toNat (16 - i) < n) (K : Nat → Nat) (L : List Nat) (f : Nat → va_E) (H : Heap) (locs : List Loc) (r1 r2 r3 : Nat → Option Nat) (g1 : ∀ j : Nat, (j : Int) < 10 → ∃ q, r1 j = some q ∧ q ∈ L ∧ K q = 5) (g2 : ∀ j : Nat, (j : Int) < i → ∃ q, r2 j = some q ∧ q ∈ L ∧ K q = 3) (gi9 : n_ri r1 10) (cc9 ss9 : Nat) (hc9 : cc9 = 13 + 1 * i.toNat) (hs9 : ss9 = 187 + 5 * i.toNat) (hN : q_N g K L (fun q => q = b ∨ s.heap.size ≤ q) [(b, .inr (10, [.ref a1, .ref a2, .ref a3, .int 0, .int 0, .int 0, .int 0, .int 0, .int 0, .int 0, .int 0, .int 0, .int 0, .int 0, .int 0, .int 0])), (a1, .inl (g.2 7, 10, .inr (.inr (.inr (.inr r1))))), (a2, .inl (g.2 5, 16, .inr (.inr (.inr (.inr r2))))), (a3, .inl (g.2 6, 61, .inr (.inr (.inr (.inr r3)))))] f s H locs) (ls : Array Slot) (hl : lv_has ls 2 [(1, .int (q_i i)), (0, .ref b)]), W p l e { frames := 2, cells := 90, slots := 755, locals := 32 } s m ([.ref b] : List Value).toArray below meth c H locs cc9 ss9 (MQ below (n_Q g b s.heap.size 10 (fun L f b => ∃ a1 a2 a3 : Nat, q_Has L f [(b, .inr (10, [.ref a1, .ref a2, .ref a3, .int (q_i 0), .int (q_i 0), .int (q_i 0), .int (q_i 12), .int (q_i 1), .int (q_i 2), .int (q_i 5), .int (q_i 3), .int (q_i 0), .int (q_i 0), .int 0, .int 0, .int 0]))] ∧ n_vl L f a1)) ([.ref b] : List Value).toArray s 90 755 (fun q => q = b ∨ s.heap.size ≤ q)) (F0 m 63 ls []) := by
    intro n
    induction n with
    | zero =>
      intro i hi0 hi1 hmu
      exact absurd hmu (Nat.not_lt_zero _)
    | succ n ih =>
      intro i hi0 hi1 hmu K L f H locs r1 r2 r3 g1 g2 gi9 cc9 ss9 hc9 hs9 hN ls hl
      refine q_ild_n cx dX10_init_63 rfl (lv_at hl 0 rfl) ?_
      refine q_ald_n cx dX10_init_64 rfl (lv_at hl 1 rfl) ?_
      refine n_get cx hN 0 rfl rfl 1 (by decide) q_inX10 q_h422 rfl rfl dX10_init_65 ?_
      refine n_alen (t0 := 5) cx hN 2 rfl rfl (by decide) dX10_init_68 ?_
      refine q_icge (tgt := 91) cx ⟨by omega, by omega⟩ ⟨by decide, by decide⟩ dX10_init_69 (by decide) (fun h9 => ?_) (fun h9 => ?_)
      · obtain rfl : i = 16 := by omega
        refine q_iconst cx dX10_init_91 ?_
        refine lv_istore_n (lv' := [(1, .int (q_i 0)), (0, .ref b)]) cx.1 cx.2.1 dX10_init_92 rfl hl (by decide) rfl (fun ls hl => ?_)
        exact J93 _ 0 (by decide) (by decide) (Nat.lt_succ_self _) K L f H locs r1 r2 r3 g1 g2 (fun j hj => absurd hj (by omega)) gi9 _ _ (by omega) (by omega) hN ls hl
      · refine q_ald_n cx dX10_init_72 rfl (lv_at hl 1 rfl) ?_
        refine n_get cx hN 0 rfl rfl 1 (by decide) q_inX10 q_h422 rfl rfl dX10_init_73 ?_
        refine q_ild_n cx dX10_init_76 rfl (lv_at hl 0 rfl) ?_
        refine n_new (ci := 3) (fs := [.int 0, .int 0, .int 0, .int 0, .int 0]) cx hA hN q_inX3 q_yX3 q_h294 q_h351 q_h143 rfl n_dfX3 (by show cc9 + 1 ≤ 90; omega) (by show ss9 + 5 ≤ 755; omega) dX10_init_77 (fun q9 H hN => ?_)
        refine lv_dup cx.1 cx.2.1 dX10_init_80 rfl ?_
        have hfr9 := n_fresh hN
        refine n_callIN (Xs := [(b, .inr (10, [.ref a1, .ref a2, .ref a3, .int 0, .int 0, .int 0, .int 0, .int 0, .int 0, .int 0, .int 0, .int 0, .int 0, .int 0, .int 0, .int 0])), (a1, .inl (g.2 7, 10, .inr (.inr (.inr (.inr r1))))), (a2, .inl (g.2 5, 16, .inr (.inr (.inr (.inr r2))))), (a3, .inl (g.2 6, 61, .inr (.inr (.inr (.inr r3)))))]) (k := 3) cx hE hA hN (n_X3_3 l g) (fun L1 f1 L2 f2 h _ h2 => h2.mono h) q_h143 (by decide +kernel) q_h353 q_h354 rfl (by decide +kernel) ⟨by decide, by show cc9 + 1 + 0 ≤ 90; omega, by show ss9 + 5 + 0 ≤ 755; omega⟩ hl.1 (Nat.le_of_ble_eq_true rfl) dX10_init_81 (fun K L f H locs hq9 kq9 oq9 pq9 hN => ?_)
        refine n_ast (t0 := 5) (k := 3) cx hN 2 rfl rfl hq9 kq9 (by decide) rfl hi0 (by omega) (by decide) dX10_init_84 (fun H locs hN => ?_)
        refine q_iinc (lv' := [(1, .int (q_i (i + 1))), (0, .ref b)]) cx dX10_init_85 hl (k := 0) rfl (by decide) rfl (fun ls hl => ?_)
        refine lv_goto (tgt := 63) cx.1 cx.2.1 dX10_init_88 (by decide) ?_
        exact ih (i + 1) (by omega) (by omega) (by omega) K L f H locs r1 (va_up r2 i.toNat (some q9)) r3 (q_full g1 (fun a ha => ⟨(oq9 a ha).1, (oq9 a ha).2.1⟩)) (q_fullS hi0 (q_full g2 (fun a ha => ⟨(oq9 a ha).1, (oq9 a ha).2.1⟩)) hq9 kq9) gi9 _ _ (by omega) (by omega) hN ls hl
  have J33 : ∀ (n : Nat) (i : Int) (hi0 : 0 ≤ i) (hi1 : i ≤ 10) (hmu : Int.toNat (10 - i) < n) (K : Nat → Nat) (L : List Nat) (f : Nat → va_E) (H : Heap) (locs : List Loc) (r1 r2 r3 : Nat → Option Nat) (g1 : ∀ j : Nat, (j : Int) < i → ∃ q, r1 j = some q ∧ q ∈ L ∧ K q = 5) (gi9 : n_ri r1 i) (cc9 ss9 : Nat) (hc9 : cc9 = 3 + 1 * i.toNat) (hs9 : ss9 = 87 + 10 * i.toNat) (hN : q_N g K L (fun q => q = b ∨ s.heap.size ≤ q) [(b, .inr (10, [.ref a1, .ref a2, .ref a3, .int 0, .int 0, .int 0, .int 0, .int 0, .int 0, .int 0, .int 0, .int 0, .int 0, .int 0, .int 0, .int 0])), (a1, .inl (g.2 7, 10, .inr (.inr (.inr (.inr r1))))), (a2, .inl (g.2 5, 16, .inr (.inr (.inr (.inr r2))))), (a3, .inl (g.2 6, 61, .inr (.inr (.inr (.inr r3)))))] f s H locs) (ls : Array Slot) (hl : lv_has ls 2 [(1, .int (q_i i)), (0, .ref b)]), W p l e { frames := 2, cells := 90, slots := 755, locals := 32 } s m ([.ref b] : List Value).toArray below meth c H locs cc9 ss9 (MQ below (n_Q g b s.heap.size 10 (fun L f b => ∃ a1 a2 a3 : Nat, q_Has L f [(b, .inr (10, [.ref a1, .ref a2, .ref a3, .int (q_i 0), .int (q_i 0), .int (q_i 0), .int (q_i 12), .int (q_i 1), .int (q_i 2), .int (q_i 5), .int (q_i 3), .int (q_i 0), .int (q_i 0), .int 0, .int 0, .int 0]))] ∧ n_vl L f a1)) ([.ref b] : List Value).toArray s 90 755 (fun q => q = b ∨ s.heap.size ≤ q)) (F0 m 33 ls []) := by
    intro n
    induction n with
    | zero =>
      intro i hi0 hi1 hmu
      exact absurd hmu (Nat.not_lt_zero _)
    | succ n ih =>
      intro i hi0 hi1 hmu K L f H locs r1 r2 r3 g1 gi9 cc9 ss9 hc9 hs9 hN ls hl
      refine q_ild_n cx dX10_init_33 rfl (lv_at hl 0 rfl) ?_
      refine q_ald_n cx dX10_init_34 rfl (lv_at hl 1 rfl) ?_
      refine n_get cx hN 0 rfl rfl 0 (by decide) q_inX10 q_h421 rfl rfl dX10_init_35 ?_
      refine n_alen (t0 := 7) cx hN 1 rfl rfl (by decide) dX10_init_38 ?_
      refine q_icge (tgt := 61) cx ⟨by omega, by omega⟩ ⟨by decide, by decide⟩ dX10_init_39 (by decide) (fun h9 => ?_) (fun h9 => ?_)
      · obtain rfl : i = 10 := by omega
        refine q_iconst cx dX10_init_61 ?_
        refine lv_istore_n (lv' := [(1, .int (q_i 0)), (0, .ref b)]) cx.1 cx.2.1 dX10_init_62 rfl hl (by decide) rfl (fun ls hl => ?_)
        exact J63 _ 0 (by decide) (by decide) (Nat.lt_succ_self _) K L f H locs r1 r2 r3 g1 (fun j hj => absurd hj (by omega)) gi9 _ _ (by omega) (by omega) hN ls hl
      · refine q_ald_n cx dX10_init_42 rfl (lv_at hl 1 rfl) ?_
        refine n_get cx hN 0 rfl rfl 0 (by decide) q_inX10 q_h421 rfl rfl dX10_init_43 ?_
        refine q_ild_n cx dX10_init_46 rfl (lv_at hl 0 rfl) ?_
        refine n_new (ci := 5) (fs := [.long 0, .long 0, .int 0, .int 0, .int 0, .int 0, .int 0, .int 0, .int 0, .int 0]) cx hA hN q_inX5 q_yX5 q_h292 q_h298 q_h142 rfl n_dfX5 (by show cc9 + 1 ≤ 90; omega) (by show ss9 + 10 ≤ 755; omega) dX10_init_47 (fun q9 H hN => ?_)
        refine lv_dup cx.1 cx.2.1 dX10_init_50 rfl ?_
        have hfr9 := n_fresh hN
        refine n_callIN (Xs := [(b, .inr (10, [.ref a1, .ref a2, .ref a3, .int 0, .int 0, .int 0, .int 0, .int 0, .int 0, .int 0, .int 0, .int 0, .int 0, .int 0, .int 0, .int 0])), (a1, .inl (g.2 7, 10, .inr (.inr (.inr (.inr r1))))), (a2, .inl (g.2 5, 16, .inr (.inr (.inr (.inr r2))))), (a3, .inl (g.2 6, 61, .inr (.inr (.inr (.inr r3)))))]) (k := 5) cx hE hA hN (n_X5_5 l g) (fun L1 f1 L2 f2 h _ h2 => h2.mono h) q_h142 (by decide +kernel) q_h300 q_h301 rfl (by decide +kernel) ⟨by decide, by show cc9 + 1 + 0 ≤ 90; omega, by show ss9 + 10 + 0 ≤ 755; omega⟩ hl.1 (Nat.le_of_ble_eq_true rfl) dX10_init_51 (fun K L f H locs hq9 kq9 oq9 pq9 hN => ?_)
        refine n_ast (t0 := 7) (k := 5) cx hN 1 rfl rfl hq9 kq9 (by decide) rfl hi0 (by omega) (by decide) dX10_init_54 (fun H locs hN => ?_)
        refine q_iinc (lv' := [(1, .int (q_i (i + 1))), (0, .ref b)]) cx dX10_init_55 hl (k := 0) rfl (by decide) rfl (fun ls hl => ?_)
        refine lv_goto (tgt := 33) cx.1 cx.2.1 dX10_init_58 (by decide) ?_
        exact ih (i + 1) (by omega) (by omega) (by omega) K L f H locs (va_up r1 i.toNat (some q9)) r2 r3 (q_fullS hi0 (q_full g1 (fun a ha => ⟨(oq9 a ha).1, (oq9 a ha).2.1⟩)) hq9 kq9) (n_riS hi0 gi9 g1 hfr9) _ _ (by omega) (by omega) hN ls hl
  refine q_iconst cx dX10_init_31 ?_
  refine lv_istore_n (lv' := [(1, .int (q_i 0)), (0, .ref b)]) cx.1 cx.2.1 dX10_init_32 rfl hl (by decide) rfl (fun ls hl => ?_)
  exact J33 _ 0 (by decide) (by decide) (Nat.lt_succ_self _) _ _ _ _ _ (fun _ => none) (fun _ => none) (fun _ => none) (fun j hj => absurd hj (by omega)) n_ri0 _ _ (by omega) (by omega) hN ls hl
set_option maxHeartbeats 4000000 in
set_option maxRecDepth 100000 in
theorem n_V1 (l : Launch) (g : q_G) : q_Nw l g yX10_init cX10_init 2 2 32 90 755 10 [.null, .null, .null, .int 0, .int 0, .int 0, .int 0, .int 0, .int 0, .int 0, .int 0, .int 0, .int 0, .int 0, .int 0, .int 0] 13 (fun L f b => ∃ a1 a2 a3 : Nat, q_Has L f [(b, .inr (10, [.ref a1, .ref a2, .ref a3, .int (q_i 0), .int (q_i 0), .int (q_i 0), .int (q_i 12), .int (q_i 1), .int (q_i 2), .int (q_i 5), .int (q_i 3), .int (q_i 0), .int (q_i 0), .int 0, .int 0, .int 0]))] ∧ n_vl L f a1) := by
  refine n_ofb (by decide +kernel) rfl (by decide) ?_
  intro p e s m below meth c ls b cx hr hlk hin hE hN hl
  have hA : ∀ q, s.heap.size ≤ q → (fun q => q = b ∨ s.heap.size ≤ q) q := fun q h => Or.inr h
  have hl : lv_has ls 2 [(0, .ref b)] := hl
  refine q_ald_n cx dX10_init_0 rfl (lv_at hl 0 rfl) ?_
  refine n_objInit cx q_h291 q_h167 q_h168 hl.1 dX10_init_1 (by decide) (by decide) ?_
  refine q_ald_n cx dX10_init_4 rfl (lv_at hl 0 rfl) ?_
  refine q_bipush cx dX10_init_5 rfl ?_
  refine n_anew (t0 := 7) (N' := 10) cx hA hE.1.2.1 hN q_h292 rfl ⟨by decide, by decide⟩ (by decide) rfl (by decide) (by decide) (by decide) dX10_init_7 (fun a1 H hN => ?_)
  have hN : q_N g _ _ (fun q => q = b ∨ s.heap.size ≤ q) [(b, .inr (10, [.null, .null, .null, .int 0, .int 0, .int 0, .int 0, .int 0, .int 0, .int 0, .int 0, .int 0, .int 0, .int 0, .int 0, .int 0])), (a1, .inl (g.2 7, 10, .inr (.inr (.inr (.inr (fun _ => none))))))] _ s H _ := hN
  refine n_putF cx hN 0 rfl rfl 0 (by decide) q_inX10 tyX10 q_yX10 q_nX10 q_h421 rfl rfl hin rfl (q_yX10 0 (by decide)) rfl rfl (Nat.le_of_ble_eq_true rfl) dX10_init_10 (fun H locs hN => ?_)
  have hN : q_N g _ _ (fun q => q = b ∨ s.heap.size ≤ q) [(b, .inr (10, [.ref a1, .null, .null, .int 0, .int 0, .int 0, .int 0, .int 0, .int 0, .int 0, .int 0, .int 0, .int 0, .int 0, .int 0, .int 0])), (a1, .inl (g.2 7, 10, .inr (.inr (.inr (.inr (fun _ => none))))))] _ s H _ := hN
  refine q_ald_n cx dX10_init_13 rfl (lv_at hl 0 rfl) ?_
  refine q_bipush cx dX10_init_14 rfl ?_
  refine n_anew (t0 := 5) (N' := 16) cx hA hE.1.2.2.1 hN q_h294 rfl ⟨by decide, by decide⟩ (by decide) rfl (by decide) (by decide) (by decide) dX10_init_16 (fun a2 H hN => ?_)
  have hN : q_N g _ _ (fun q => q = b ∨ s.heap.size ≤ q) [(b, .inr (10, [.ref a1, .null, .null, .int 0, .int 0, .int 0, .int 0, .int 0, .int 0, .int 0, .int 0, .int 0, .int 0, .int 0, .int 0, .int 0])), (a1, .inl (g.2 7, 10, .inr (.inr (.inr (.inr (fun _ => none)))))), (a2, .inl (g.2 5, 16, .inr (.inr (.inr (.inr (fun _ => none))))))] _ s H _ := hN
  refine n_putF cx hN 0 rfl rfl 1 (by decide) q_inX10 tyX10 q_yX10 q_nX10 q_h422 rfl rfl hin rfl (q_yX10 1 (by decide)) rfl rfl (Nat.le_of_ble_eq_true rfl) dX10_init_19 (fun H locs hN => ?_)
  have hN : q_N g _ _ (fun q => q = b ∨ s.heap.size ≤ q) [(b, .inr (10, [.ref a1, .ref a2, .null, .int 0, .int 0, .int 0, .int 0, .int 0, .int 0, .int 0, .int 0, .int 0, .int 0, .int 0, .int 0, .int 0])), (a1, .inl (g.2 7, 10, .inr (.inr (.inr (.inr (fun _ => none)))))), (a2, .inl (g.2 5, 16, .inr (.inr (.inr (.inr (fun _ => none))))))] _ s H _ := hN
  refine q_ald_n cx dX10_init_22 rfl (lv_at hl 0 rfl) ?_
  refine q_bipush cx dX10_init_23 rfl ?_
  refine n_anew (t0 := 6) (N' := 61) cx hA hE.1.2.2.2.1 hN q_h296 rfl ⟨by decide, by decide⟩ (by decide) rfl (by decide) (by decide) (by decide) dX10_init_25 (fun a3 H hN => ?_)
  have hN : q_N g _ _ (fun q => q = b ∨ s.heap.size ≤ q) [(b, .inr (10, [.ref a1, .ref a2, .null, .int 0, .int 0, .int 0, .int 0, .int 0, .int 0, .int 0, .int 0, .int 0, .int 0, .int 0, .int 0, .int 0])), (a1, .inl (g.2 7, 10, .inr (.inr (.inr (.inr (fun _ => none)))))), (a2, .inl (g.2 5, 16, .inr (.inr (.inr (.inr (fun _ => none)))))), (a3, .inl (g.2 6, 61, .inr (.inr (.inr (.inr (fun _ => none))))))] _ s H _ := hN
  refine n_putF cx hN 0 rfl rfl 2 (by decide) q_inX10 tyX10 q_yX10 q_nX10 q_h423 rfl rfl hin rfl (q_yX10 2 (by decide)) rfl rfl (Nat.le_of_ble_eq_true rfl) dX10_init_28 (fun H locs hN => ?_)
  have hN : q_N g _ _ (fun q => q = b ∨ s.heap.size ≤ q) [(b, .inr (10, [.ref a1, .ref a2, .ref a3, .int 0, .int 0, .int 0, .int 0, .int 0, .int 0, .int 0, .int 0, .int 0, .int 0, .int 0, .int 0, .int 0])), (a1, .inl (g.2 7, 10, .inr (.inr (.inr (.inr (fun _ => none)))))), (a2, .inl (g.2 5, 16, .inr (.inr (.inr (.inr (fun _ => none)))))), (a3, .inl (g.2 6, 61, .inr (.inr (.inr (.inr (fun _ => none))))))] _ s H _ := hN
  have J93 : ∀ (n : Nat) (i : Int) (hi0 : 0 ≤ i) (hi1 : i ≤ 61) (hmu : Int.toNat (61 - i) < n) (K : Nat → Nat) (L : List Nat) (f : Nat → va_E) (H : Heap) (locs : List Loc) (r1 r2 r3 : Nat → Option Nat) (g1 : ∀ j : Nat, (j : Int) < 10 → ∃ q, r1 j = some q ∧ q ∈ L ∧ K q = 17) (g2 : ∀ j : Nat, (j : Int) < 16 → ∃ q, r2 j = some q ∧ q ∈ L ∧ K q = 21) (g3 : ∀ j : Nat, (j : Int) < i → ∃ q, r3 j = some q ∧ q ∈ L ∧ K q = 25) (gi9 : n_ri r1 10) (cc9 ss9 : Nat) (hc9 : cc9 = 29 + 1 * i.toNat) (hs9 : ss9 = 267 + 8 * i.toNat) (hN : q_N g K L (fun q => q = b ∨ s.heap.size ≤ q) [(b, .inr (10, [.ref a1, .ref a2, .ref a3, .int 0, .int 0, .int 0, .int 0, .int 0, .int 0, .int 0, .int 0, .int 0, .int 0, .int 0, .int 0, .int 0])), (a1, .inl (g.2 7, 10, .inr (.inr (.inr (.inr r1))))), (a2, .inl (g.2 5, 16, .inr (.inr (.inr (.inr r2))))), (a3, .inl (g.2 6, 61, .inr (.inr (.inr (.inr r3)))))] f s H locs) (ls : Array Slot) (hl : lv_has ls 2 [(1, .int (q_i i)), (0, .ref b)]), W p l e { frames := 2, cells := 90, slots := 755, locals := 32 } s m ([.ref b] : List Value).toArray below meth c H locs cc9 ss9 (MQ below (n_Q g b s.heap.size 13 (fun L f b => ∃ a1 a2 a3 : Nat, q_Has L f [(b, .inr (10, [.ref a1, .ref a2, .ref a3, .int (q_i 0), .int (q_i 0), .int (q_i 0), .int (q_i 12), .int (q_i 1), .int (q_i 2), .int (q_i 5), .int (q_i 3), .int (q_i 0), .int (q_i 0), .int 0, .int 0, .int 0]))] ∧ n_vl L f a1)) ([.ref b] : List Value).toArray s 90 755 (fun q => q = b ∨ s.heap.size ≤ q)) (F0 m 93 ls []) := by
    intro n
    induction n with
    | zero =>
      intro i hi0 hi1 hmu
      exact absurd hmu (Nat.not_lt_zero _)
    | succ n ih =>
      intro i hi0 hi1 hmu K L f H locs r1 r2 r3 g1 g2 g3 gi9 cc9 ss9 hc9 hs9 hN ls hl
      refine q_ild_n cx dX10_init_93 rfl (lv_at hl 0 rfl) ?_
      refine q_ald_n cx dX10_init_94 rfl (lv_at hl 1 rfl) ?_
      refine n_get cx hN 0 rfl rfl 2 (by decide) q_inX10 q_h423 rfl rfl dX10_init_95 ?_
      refine n_alen (t0 := 6) cx hN 3 rfl rfl (by decide) dX10_init_98 ?_
      refine q_icge (tgt := 121) cx ⟨by omega, by omega⟩ ⟨by decide, by decide⟩ dX10_init_99 (by decide) (fun h9 => ?_) (fun h9 => ?_)
      · obtain rfl : i = 61 := by omega
        refine q_ald_n cx dX10_init_121 rfl (lv_at hl 1 rfl) ?_
        refine n_callR cx hN hA rfl (n_makeEmpty l g _ _ _) n_cme (by decide +kernel) ⟨by decide, by show cc9 ≤ 90; omega, by show ss9 ≤ 755; omega⟩ hl.1 (Nat.le_of_ble_eq_true rfl) dX10_init_122 (fun H locs hN => ?_)
        obtain ⟨K, L, f, hs2, ks2, fs2, os2, hN⟩ := n_seal (Xs := [(b, .inr (10, [.ref a1, .ref a2, .ref a3, .int (q_i 0), .int (q_i 0), .int (q_i 0), .int (q_i 12), .int (q_i 1), .int (q_i 2), .int (q_i 5), .int (q_i 3), .int (q_i 0), .int (q_i 0), .int 0, .int 0, .int 0])), (a1, .inl (g.2 7, 10, .inr (.inr (.inr (.inr r1))))), (a2, .inl (g.2 5, 16, .inr (.inr (.inr (.inr r2)))))]) (k := 131) hN (n_shR (by decide) rfl (by decide) (fun _ => rfl) (fun j hj => g3 j (by omega)))
        have g1 := q_full g1 (fun a ha => ⟨(os2 a ha).1, (os2 a ha).2.1⟩)
        have g2 := q_full g2 (fun a ha => ⟨(os2 a ha).1, (os2 a ha).2.1⟩)
        obtain ⟨K, L, f, hs1, ks1, fs1, os1, hN⟩ := n_seal (Xs := [(b, .inr (10, [.ref a1, .ref a2, .ref a3, .int (q_i 0), .int (q_i 0), .int (q_i 0), .int (q_i 12), .int (q_i 1), .int (q_i 2), .int (q_i 5), .int (q_i 3), .int (q_i 0), .int (q_i 0), .int 0, .int 0, .int 0])), (a1, .inl (g.2 7, 10, .inr (.inr (.inr (.inr r1)))))]) (k := 121) hN (n_shR (by decide) rfl (by decide) (fun _ => rfl) (fun j hj => g2 j (by omega)))
        have g1 := q_full g1 (fun a ha => ⟨(os1 a ha).1, (os1 a ha).2.1⟩)
        obtain ⟨K, L, f, hs0, ks0, fs0, os0, hN⟩ := n_seal (Xs := [(b, .inr (10, [.ref a1, .ref a2, .ref a3, .int (q_i 0), .int (q_i 0), .int (q_i 0), .int (q_i 12), .int (q_i 1), .int (q_i 2), .int (q_i 5), .int (q_i 3), .int (q_i 0), .int (q_i 0), .int 0, .int 0, .int 0]))]) (k := 111) hN (n_shR (by decide) rfl (by decide) (fun _ => rfl) (fun j hj => g1 j (by omega)))
        obtain ⟨K, L, f, hb, kb, fb, ob, hN⟩ := n_seal (Xs := []) (k := 13) hN (n_shO (by decide) ⟨⟨a1, rfl, hs0, ks0⟩, ⟨a2, rfl, (os0 _ hs1).1, ((os0 _ hs1).2.1.trans ks1)⟩, ⟨a3, rfl, (os0 _ (os1 _ hs2).1).1, ((os0 _ (os1 _ hs2).1).2.1.trans ((os1 _ hs2).2.1.trans ks2))⟩, ⟨_, rfl, by decide, by decide⟩, ⟨_, rfl, by decide, by decide⟩, ⟨_, rfl, by decide, by decide⟩, ⟨_, rfl, by decide, by decide⟩, ⟨_, rfl, by decide, by decide⟩, ⟨_, rfl, by decide, by decide⟩, ⟨_, rfl, by decide, by decide⟩, ⟨_, rfl, by decide, by decide⟩, ⟨_, rfl, by decide, by decide⟩, ⟨_, rfl, by decide, by decide⟩, ⟨_, rfl, by decide, by decide⟩, ⟨_, rfl, by decide, by decide⟩, ⟨_, rfl, by decide, by decide⟩, trivial⟩)
        refine W.widen (k := 90) (n := 755) (by omega) (by omega) ?_
        have hin9 : n_vl _ f a1 := n_vl_tr (fun a ha => ⟨(ob a ha).1, (ob a ha).2.2⟩) ⟨hs0, n_inj_of fs0 g1 gi9, n_in_of fs0 (q_full g1 (fun a ha => ⟨(os0 a ha).1, (os0 a ha).2.1⟩))⟩
        exact n_ret cx hr hlk hN hb kb ⟨a1, a2, a3, q_Has.one hb fb, hin9⟩ dX10_init_125
      · refine q_ald_n cx dX10_init_102 rfl (lv_at hl 1 rfl) ?_
        refine n_get cx hN 0 rfl rfl 2 (by decide) q_inX10 q_h423 rfl rfl dX10_init_103 ?_
        refine q_ild_n cx dX10_init_106 rfl (lv_at hl 0 rfl) ?_
        refine n_new (ci := 4) (fs := [.int 0, .int 0, .int 0, .int 0, .int 0, .int 0, .int 0, .int 0]) cx hA hN q_inX4 q_yX4 q_h296 q_h377 q_h144 rfl n_dfX4 (by show cc9 + 1 ≤ 90; omega) (by show ss9 + 8 ≤ 755; omega) dX10_init_107 (fun q9 H hN => ?_)
        refine lv_dup cx.1 cx.2.1 dX10_init_110 rfl ?_
        have hfr9 := n_fresh hN
        refine n_callIN (Xs := [(b, .inr (10, [.ref a1, .ref a2, .ref a3, .int 0, .int 0, .int 0, .int 0, .int 0, .int 0, .int 0, .int 0, .int 0, .int 0, .int 0, .int 0, .int 0])), (a1, .inl (g.2 7, 10, .inr (.inr (.inr (.inr r1))))), (a2, .inl (g.2 5, 16, .inr (.inr (.inr (.inr r2))))), (a3, .inl (g.2 6, 61, .inr (.inr (.inr (.inr r3)))))]) (k := 25) cx hE hA hN (n_X4_25 l g) (fun L1 f1 L2 f2 h _ h2 => h2.mono h) q_h144 (by decide +kernel) q_h379 q_h380 rfl (by decide +kernel) ⟨by decide, by show cc9 + 1 + 0 ≤ 90; omega, by show ss9 + 8 + 0 ≤ 755; omega⟩ hl.1 (Nat.le_of_ble_eq_true rfl) dX10_init_111 (fun K L f H locs hq9 kq9 oq9 pq9 hN => ?_)
        refine n_ast (t0 := 6) (k := 25) cx hN 3 rfl rfl hq9 kq9 (by decide) rfl hi0 (by omega) (by decide) dX10_init_114 (fun H locs hN => ?_)
        refine q_iinc (lv' := [(1, .int (q_i (i + 1))), (0, .ref b)]) cx dX10_init_115 hl (k := 0) rfl (by decide) rfl (fun ls hl => ?_)
        refine lv_goto (tgt := 93) cx.1 cx.2.1 dX10_init_118 (by decide) ?_
        exact ih (i + 1) (by omega) (by omega) (by omega) K L f H locs r1 r2 (va_up r3 i.toNat (some q9)) (q_full g1 (fun a ha => ⟨(oq9 a ha).1, (oq9 a ha).2.1⟩)) (q_full g2 (fun a ha => ⟨(oq9 a ha).1, (oq9 a ha).2.1⟩)) (q_fullS hi0 (q_full g3 (fun a ha => ⟨(oq9 a ha).1, (oq9 a ha).2.1⟩)) hq9 kq9) gi9 _ _ (by omega) (by omega) hN ls hl
  have J63 : ∀ (n : Nat) (i : Int) (hi0 : 0 ≤ i) (hi1 : i ≤ 16) (hmu : Int.toNat (16 - i) < n) (K : Nat → Nat) (L : List Nat) (f : Nat → va_E) (H : Heap) (locs : List Loc) (r1 r2 r3 : Nat → Option Nat) (g1 : ∀ j : Nat, (j : Int) < 10 → ∃ q, r1 j = some q ∧ q ∈ L ∧ K q = 17) (g2 : ∀ j : Nat, (j : Int) < i → ∃ q, r2 j = some q ∧ q ∈ L ∧ K q = 21) (gi9 : n_ri r1 10) (cc9 ss9 : Nat) (hc9 : cc9 = 13 + 1 * i.toNat) (hs9 : ss9 = 187 + 5 * i.toNat) (hN : q_N g K L (fun q => q = b ∨ s.heap.size ≤ q) [(b, .inr (10, [.ref a1, .ref a2, .ref a3, .int 0, .int 0, .int 0, .int 0, .int 0, .int 0, .int 0, .int 0, .int 0, .int 0, .int 0, .int 0, .int 0])), (a1, .inl (g.2 7, 10, .inr (.inr (.inr (.inr r1))))), (a2, .inl (g.2 5, 16, .inr (.inr (.inr (.inr r2))))), (a3, .inl (g.2 6, 61, .inr (.inr (.inr (.inr r3)))))] f s H locs) (ls : Array Slot) (hl : lv_has ls 2 [(1, .int (q_i i)), (0, .ref b)]), W p l e { frames := 2, cells := 90, slots := 755, locals := 32 } s m ([.ref b] : List Value).toArray below meth c H locs cc9 ss9 (MQ below (n_Q g b s.heap.size 13 (fun L f b => ∃ a1 a2 a3 : Nat, q_Has L f [(b, .inr (10, [.ref a1, .ref a2, .ref a3, .int (q_i 0), .int (q_i 0), .int (q_i 0), .int (q_i 12), .int (q_i 1), .int (q_i 2), .int (q_i 5), .int (q_i 3), .int (q_i 0), .int (q_i 0), .int 0, .int 0, .int 0]))] ∧ n_vl L f a1)) ([.ref b] : List Value).toArray s 90 755 (fun q => q = b ∨ s.heap.size ≤ q)) (F0 m 63 ls []) := by
    intro n
    induction n with
    | zero =>
      intro i hi0 hi1 hmu
      exact absurd hmu (Nat.not_lt_zero _)
    | succ n ih =>
      intro i hi0 hi1 hmu K L f H locs r1 r2 r3 g1 g2 gi9 cc9 ss9 hc9 hs9 hN ls hl
      refine q_ild_n cx dX10_init_63 rfl (lv_at hl 0 rfl) ?_
      refine q_ald_n cx dX10_init_64 rfl (lv_at hl 1 rfl) ?_
      refine n_get cx hN 0 rfl rfl 1 (by decide) q_inX10 q_h422 rfl rfl dX10_init_65 ?_
      refine n_alen (t0 := 5) cx hN 2 rfl rfl (by decide) dX10_init_68 ?_
      refine q_icge (tgt := 91) cx ⟨by omega, by omega⟩ ⟨by decide, by decide⟩ dX10_init_69 (by decide) (fun h9 => ?_) (fun h9 => ?_)
      · obtain rfl : i = 16 := by omega
        refine q_iconst cx dX10_init_91 ?_
        refine lv_istore_n (lv' := [(1, .int (q_i 0)), (0, .ref b)]) cx.1 cx.2.1 dX10_init_92 rfl hl (by decide) rfl (fun ls hl => ?_)
        exact J93 _ 0 (by decide) (by decide) (Nat.lt_succ_self _) K L f H locs r1 r2 r3 g1 g2 (fun j hj => absurd hj (by omega)) gi9 _ _ (by omega) (by omega) hN ls hl
      · refine q_ald_n cx dX10_init_72 rfl (lv_at hl 1 rfl) ?_
        refine n_get cx hN 0 rfl rfl 1 (by decide) q_inX10 q_h422 rfl rfl dX10_init_73 ?_
        refine q_ild_n cx dX10_init_76 rfl (lv_at hl 0 rfl) ?_
        refine n_new (ci := 3) (fs := [.int 0, .int 0, .int 0, .int 0, .int 0]) cx hA hN q_inX3 q_yX3 q_h294 q_h351 q_h143 rfl n_dfX3 (by show cc9 + 1 ≤ 90; omega) (by show ss9 + 5 ≤ 755; omega) dX10_init_77 (fun q9 H hN => ?_)
        refine lv_dup cx.1 cx.2.1 dX10_init_80 rfl ?_
        have hfr9 := n_fresh hN
        refine n_callIN (Xs := [(b, .inr (10, [.ref a1, .ref a2, .ref a3, .int 0, .int 0, .int 0, .int 0, .int 0, .int 0, .int 0, .int 0, .int 0, .int 0, .int 0, .int 0, .int 0])), (a1, .inl (g.2 7, 10, .inr (.inr (.inr (.inr r1))))), (a2, .inl (g.2 5, 16, .inr (.inr (.inr (.inr r2))))), (a3, .inl (g.2 6, 61, .inr (.inr (.inr (.inr r3)))))]) (k := 21) cx hE hA hN (n_X3_21 l g) (fun L1 f1 L2 f2 h _ h2 => h2.mono h) q_h143 (by decide +kernel) q_h353 q_h354 rfl (by decide +kernel) ⟨by decide, by show cc9 + 1 + 0 ≤ 90; omega, by show ss9 + 5 + 0 ≤ 755; omega⟩ hl.1 (Nat.le_of_ble_eq_true rfl) dX10_init_81 (fun K L f H locs hq9 kq9 oq9 pq9 hN => ?_)
        refine n_ast (t0 := 5) (k := 21) cx hN 2 rfl rfl hq9 kq9 (by decide) rfl hi0 (by omega) (by decide) dX10_init_84 (fun H locs hN => ?_)
        refine q_iinc (lv' := [(1, .int (q_i (i + 1))), (0, .ref b)]) cx dX10_init_85 hl (k := 0) rfl (by decide) rfl (fun ls hl => ?_)
        refine lv_goto (tgt := 63) cx.1 cx.2.1 dX10_init_88 (by decide) ?_
        exact ih (i + 1) (by omega) (by omega) (by omega) K L f H locs r1 (va_up r2 i.toNat (some q9)) r3 (q_full g1 (fun a ha => ⟨(oq9 a ha).1, (oq9 a ha).2.1⟩)) (q_fullS hi0 (q_full g2 (fun a ha => ⟨(oq9 a ha).1, (oq9 a ha).2.1⟩)) hq9 kq9) gi9 _ _ (by omega) (by omega) hN ls hl
  have J33 : ∀ (n : Nat) (i : Int) (hi0 : 0 ≤ i) (hi1 : i ≤ 10) (hmu : Int.toNat (10 - i) < n) (K : Nat → Nat) (L : List Nat) (f : Nat → va_E) (H : Heap) (locs : List Loc) (r1 r2 r3 : Nat → Option Nat) (g1 : ∀ j : Nat, (j : Int) < i → ∃ q, r1 j = some q ∧ q ∈ L ∧ K q = 17) (gi9 : n_ri r1 i) (cc9 ss9 : Nat) (hc9 : cc9 = 3 + 1 * i.toNat) (hs9 : ss9 = 87 + 10 * i.toNat) (hN : q_N g K L (fun q => q = b ∨ s.heap.size ≤ q) [(b, .inr (10, [.ref a1, .ref a2, .ref a3, .int 0, .int 0, .int 0, .int 0, .int 0, .int 0, .int 0, .int 0, .int 0, .int 0, .int 0, .int 0, .int 0])), (a1, .inl (g.2 7, 10, .inr (.inr (.inr (.inr r1))))), (a2, .inl (g.2 5, 16, .inr (.inr (.inr (.inr r2))))), (a3, .inl (g.2 6, 61, .inr (.inr (.inr (.inr r3)))))] f s H locs) (ls : Array Slot) (hl : lv_has ls 2 [(1, .int (q_i i)), (0, .ref b)]), W p l e { frames := 2, cells := 90, slots := 755, locals := 32 } s m ([.ref b] : List Value).toArray below meth c H locs cc9 ss9 (MQ below (n_Q g b s.heap.size 13 (fun L f b => ∃ a1 a2 a3 : Nat, q_Has L f [(b, .inr (10, [.ref a1, .ref a2, .ref a3, .int (q_i 0), .int (q_i 0), .int (q_i 0), .int (q_i 12), .int (q_i 1), .int (q_i 2), .int (q_i 5), .int (q_i 3), .int (q_i 0), .int (q_i 0), .int 0, .int 0, .int 0]))] ∧ n_vl L f a1)) ([.ref b] : List Value).toArray s 90 755 (fun q => q = b ∨ s.heap.size ≤ q)) (F0 m 33 ls []) := by
    intro n
    induction n with
    | zero =>
      intro i hi0 hi1 hmu
      exact absurd hmu (Nat.not_lt_zero _)
    | succ n ih =>
      intro i hi0 hi1 hmu K L f H locs r1 r2 r3 g1 gi9 cc9 ss9 hc9 hs9 hN ls hl
      refine q_ild_n cx dX10_init_33 rfl (lv_at hl 0 rfl) ?_
      refine q_ald_n cx dX10_init_34 rfl (lv_at hl 1 rfl) ?_
      refine n_get cx hN 0 rfl rfl 0 (by decide) q_inX10 q_h421 rfl rfl dX10_init_35 ?_
      refine n_alen (t0 := 7) cx hN 1 rfl rfl (by decide) dX10_init_38 ?_
      refine q_icge (tgt := 61) cx ⟨by omega, by omega⟩ ⟨by decide, by decide⟩ dX10_init_39 (by decide) (fun h9 => ?_) (fun h9 => ?_)
      · obtain rfl : i = 10 := by omega
        refine q_iconst cx dX10_init_61 ?_
        refine lv_istore_n (lv' := [(1, .int (q_i 0)), (0, .ref b)]) cx.1 cx.2.1 dX10_init_62 rfl hl (by decide) rfl (fun ls hl => ?_)
        exact J63 _ 0 (by decide) (by decide) (Nat.lt_succ_self _) K L f H locs r1 r2 r3 g1 (fun j hj => absurd hj (by omega)) gi9 _ _ (by omega) (by omega) hN ls hl
      · refine q_ald_n cx dX10_init_42 rfl (lv_at hl 1 rfl) ?_
        refine n_get cx hN 0 rfl rfl 0 (by decide) q_inX10 q_h421 rfl rfl dX10_init_43 ?_
        refine q_ild_n cx dX10_init_46 rfl (lv_at hl 0 rfl) ?_
        refine n_new (ci := 5) (fs := [.long 0, .long 0, .int 0, .int 0, .int 0, .int 0, .int 0, .int 0, .int 0, .int 0]) cx hA hN q_inX5 q_yX5 q_h292 q_h298 q_h142 rfl n_dfX5 (by show cc9 + 1 ≤ 90; omega) (by show ss9 + 10 ≤ 755; omega) dX10_init_47 (fun q9 H hN => ?_)
        refine lv_dup cx.1 cx.2.1 dX10_init_50 rfl ?_
        have hfr9 := n_fresh hN
        refine n_callIN (Xs := [(b, .inr (10, [.ref a1, .ref a2, .ref a3, .int 0, .int 0, .int 0, .int 0, .int 0, .int 0, .int 0, .int 0, .int 0, .int 0, .int 0, .int 0, .int 0])), (a1, .inl (g.2 7, 10, .inr (.inr (.inr (.inr r1))))), (a2, .inl (g.2 5, 16, .inr (.inr (.inr (.inr r2))))), (a3, .inl (g.2 6, 61, .inr (.inr (.inr (.inr r3)))))]) (k := 17) cx hE hA hN (n_X5_17 l g) (fun L1 f1 L2 f2 h _ h2 => h2.mono h) q_h142 (by decide +kernel) q_h300 q_h301 rfl (by decide +kernel) ⟨by decide, by show cc9 + 1 + 0 ≤ 90; omega, by show ss9 + 10 + 0 ≤ 755; omega⟩ hl.1 (Nat.le_of_ble_eq_true rfl) dX10_init_51 (fun K L f H locs hq9 kq9 oq9 pq9 hN => ?_)
        refine n_ast (t0 := 7) (k := 17) cx hN 1 rfl rfl hq9 kq9 (by decide) rfl hi0 (by omega) (by decide) dX10_init_54 (fun H locs hN => ?_)
        refine q_iinc (lv' := [(1, .int (q_i (i + 1))), (0, .ref b)]) cx dX10_init_55 hl (k := 0) rfl (by decide) rfl (fun ls hl => ?_)
        refine lv_goto (tgt := 33) cx.1 cx.2.1 dX10_init_58 (by decide) ?_
        exact ih (i + 1) (by omega) (by omega) (by omega) K L f H locs (va_up r1 i.toNat (some q9)) r2 r3 (q_fullS hi0 (q_full g1 (fun a ha => ⟨(oq9 a ha).1, (oq9 a ha).2.1⟩)) hq9 kq9) (n_riS hi0 gi9 g1 hfr9) _ _ (by omega) (by omega) hN ls hl
  refine q_iconst cx dX10_init_31 ?_
  refine lv_istore_n (lv' := [(1, .int (q_i 0)), (0, .ref b)]) cx.1 cx.2.1 dX10_init_32 rfl hl (by decide) rfl (fun ls hl => ?_)
  exact J33 _ 0 (by decide) (by decide) (Nat.lt_succ_self _) _ _ _ _ _ (fun _ => none) (fun _ => none) (fun _ => none) (fun j hj => absurd hj (by omega)) n_ri0 _ _ (by omega) (by omega) hN ls hl
set_option maxHeartbeats 4000000 in
set_option maxRecDepth 100000 in
theorem n_V2 (l : Launch) (g : q_G) : q_Nw l g yX10_init cX10_init 2 2 32 90 755 10 [.null, .null, .null, .int 0, .int 0, .int 0, .int 0, .int 0, .int 0, .int 0, .int 0, .int 0, .int 0, .int 0, .int 0, .int 0] 14 (fun L f b => ∃ a1 a2 a3 : Nat, q_Has L f [(b, .inr (10, [.ref a1, .ref a2, .ref a3, .int (q_i 0), .int (q_i 0), .int (q_i 0), .int (q_i 12), .int (q_i 1), .int (q_i 2), .int (q_i 5), .int (q_i 3), .int (q_i 0), .int (q_i 0), .int 0, .int 0, .int 0]))] ∧ n_vl L f a1) := by
  refine n_ofb (by decide +kernel) rfl (by decide) ?_
  intro p e s m below meth c ls b cx hr hlk hin hE hN hl
  have hA : ∀ q, s.heap.size ≤ q → (fun q => q = b ∨ s.heap.size ≤ q) q := fun q h => Or.inr h
  have hl : lv_has ls 2 [(0, .ref b)] := hl
  refine q_ald_n cx dX10_init_0 rfl (lv_at hl 0 rfl) ?_
  refine n_objInit cx q_h291 q_h167 q_h168 hl.1 dX10_init_1 (by decide) (by decide) ?_
  refine q_ald_n cx dX10_init_4 rfl (lv_at hl 0 rfl) ?_
  refine q_bipush cx dX10_init_5 rfl ?_
  refine n_anew (t0 := 7) (N' := 10) cx hA hE.1.2.1 hN q_h292 rfl ⟨by decide, by decide⟩ (by decide) rfl (by decide) (by decide) (by decide) dX10_init_7 (fun a1 H hN => ?_)
  have hN : q_N g _ _ (fun q => q = b ∨ s.heap.size ≤ q) [(b, .inr (10, [.null, .null, .null, .int 0, .int 0, .int 0, .int 0, .int 0, .int 0, .int 0, .int 0, .int 0, .int 0, .int 0, .int 0, .int 0])), (a1, .inl (g.2 7, 10, .inr (.inr (.inr (.inr (fun _ => none))))))] _ s H _ := hN
  refine n_putF cx hN 0 rfl rfl 0 (by decide) q_inX10 tyX10 q_yX10 q_nX10 q_h421 rfl rfl hin rfl (q_yX10 0 (by decide)) rfl rfl (Nat.le_of_ble_eq_true rfl) dX10_init_10 (fun H locs hN => ?_)
  have hN : q_N g _ _ (fun q => q = b ∨ s.heap.size ≤ q) [(b, .inr (10, [.ref a1, .null, .null, .int 0, .int 0, .int 0, .int 0, .int 0, .int 0, .int 0, .int 0, .int 0, .int 0, .int 0, .int 0, .int 0])), (a1, .inl (g.2 7, 10, .inr (.inr (.inr (.inr (fun _ => none))))))] _ s H _ := hN
  refine q_ald_n cx dX10_init_13 rfl (lv_at hl 0 rfl) ?_
  refine q_bipush cx dX10_init_14 rfl ?_
  refine n_anew (t0 := 5) (N' := 16) cx hA hE.1.2.2.1 hN q_h294 rfl ⟨by decide, by decide⟩ (by decide) rfl (by decide) (by decide) (by decide) dX10_init_16 (fun a2 H hN => ?_)
  have hN : q_N g _ _ (fun q => q = b ∨ s.heap.size ≤ q) [(b, .inr (10, [.ref a1, .null, .null, .int 0, .int 0, .int 0, .int 0, .int 0, .int 0, .int 0, .int 0, .int 0, .int 0, .int 0, .int 0, .int 0])), (a1, .inl (g.2 7, 10, .inr (.inr (.inr (.inr (fun _ => none)))))), (a2, .inl (g.2 5, 16, .inr (.inr (.inr (.inr (fun _ => none))))))] _ s H _ := hN
  refine n_putF cx hN 0 rfl rfl 1 (by decide) q_inX10 tyX10 q_yX10 q_nX10 q_h422 rfl rfl hin rfl (q_yX10 1 (by decide)) rfl rfl (Nat.le_of_ble_eq_true rfl) dX10_init_19 (fun H locs hN => ?_)
  have hN : q_N g _ _ (fun q => q = b ∨ s.heap.size ≤ q) [(b, .inr (10, [.ref a1, .ref a2, .null, .int 0, .int 0, .int 0, .int 0, .int 0, .int 0, .int 0, .int 0, .int 0, .int 0, .int 0, .int 0, .int 0])), (a1, .inl (g.2 7, 10, .inr (.inr (.inr (.inr (fun _ => none)))))), (a2, .inl (g.2 5, 16, .inr (.inr (.inr (.inr (fun _ => none))))))] _ s H _ := hN
  refine q_ald_n cx dX10_init_22 rfl (lv_at hl 0 rfl) ?_
  refine q_bipush cx dX10_init_23 rfl ?_
  refine n_anew (t0 := 6) (N' := 61) cx hA hE.1.2.2.2.1 hN q_h296 rfl ⟨by decide, by decide⟩ (by decide) rfl (by decide) (by decide) (by decide) dX10_init_25 (fun a3 H hN => ?_)
  have hN : q_N g _ _ (fun q => q = b ∨ s.heap.size ≤ q) [(b, .inr (10, [.ref a1, .ref a2, .null, .int 0, .int 0, .int 0, .int 0, .int 0, .int 0, .int 0, .int 0, .int 0, .int 0, .int 0, .int 0, .int 0])), (a1, .inl (g.2 7, 10, .inr (.inr (.inr (.inr (fun _ => none)))))), (a2, .inl (g.2 5, 16, .inr (.inr (.inr (.inr (fun _ => none)))))), (a3, .inl (g.2 6, 61, .inr (.inr (.inr (.inr (fun _ => none))))))] _ s H _ := hN
  refine n_putF cx hN 0 rfl rfl 2 (by decide) q_inX10 tyX10 q_yX10 q_nX10 q_h423 rfl rfl hin rfl (q_yX10 2 (by decide)) rfl rfl (Nat.le_of_ble_eq_true rfl) dX10_init_28 (fun H locs hN => ?_)
  have hN : q_N g _ _ (fun q => q = b ∨ s.heap.size ≤ q) [(b, .inr (10, [.ref a1, .ref a2, .ref a3, .int 0, .int 0, .int 0, .int 0, .int 0, .int 0, .int 0, .int 0, .int 0, .int 0, .int 0, .int 0, .int 0])), (a1, .inl (g.2 7, 10, .inr (.inr (.inr (.inr (fun _ => none)))))), (a2, .inl (g.2 5, 16, .inr (.inr (.inr (.inr (fun _ => none)))))), (a3, .inl (g.2 6, 61, .inr (.inr (.inr (.inr (fun _ => none))))))] _ s H _ := hN
  have J93 : ∀ (n : Nat) (i : Int) (hi0 : 0 ≤ i) (hi1 : i ≤ 61) (hmu : Int.toNat (61 - i) < n) (K : Nat → Nat) (L : List Nat) (f : Nat → va_E) (H : Heap) (locs : List Loc) (r1 r2 r3 : Nat → Option Nat) (g1 : ∀ j : Nat, (j : Int) < 10 → ∃ q, r1 j = some q ∧ q ∈ L ∧ K q = 18) (g2 : ∀ j : Nat, (j : Int) < 16 → ∃ q, r2 j = some q ∧ q ∈ L ∧ K q = 22) (g3 : ∀ j : Nat, (j : Int) < i → ∃ q, r3 j = some q ∧ q ∈ L ∧ K q = 26) (gi9 : n_ri r1 10) (cc9 ss9 : Nat) (hc9 : cc9 = 29 + 1 * i.toNat) (hs9 : ss9 = 267 + 8 * i.toNat) (hN : q_N g K L (fun q => q = b ∨ s.heap.size ≤ q) [(b, .inr (10, [.ref a1, .ref a2, .ref a3, .int 0, .int 0, .int 0, .int 0, .int 0, .int 0, .int 0, .int 0, .int 0, .int 0, .int 0, .int 0, .int 0])), (a1, .inl (g.2 7, 10, .inr (.inr (.inr (.inr r1))))), (a2, .inl (g.2 5, 16, .inr (.inr (.inr (.inr r2))))), (a3, .inl (g.2 6, 61, .inr (.inr (.inr (.inr r3)))))] f s H locs) (ls : Array Slot) (hl : lv_has ls 2 [(1, .int (q_i i)), (0, .ref b)]), W p l e { frames := 2, cells := 90, slots := 755, locals := 32 } s m ([.ref b] : List Value).toArray below meth c H locs cc9 ss9 (MQ below (n_Q g b s.heap.size 14 (fun L f b => ∃ a1 a2 a3 : Nat, q_Has L f [(b, .inr (10, [.ref a1, .ref a2, .ref a3, .int (q_i 0), .int (q_i 0), .int (q_i 0), .int (q_i 12), .int (q_i 1), .int (q_i 2), .int (q_i 5), .int (q_i 3), .int (q_i 0), .int (q_i 0), .int 0, .int 0, .int 0]))] ∧ n_vl L f a1)) ([.ref b] : List Value).toArray s 90 755 (fun q => q = b ∨ s.heap.size ≤ q)) (F0 m 93 ls []) := by
    intro n
    induction n with
    | zero =>
      intro i hi0 hi1 hmu
      exact absurd hmu (Nat.not_lt_zero _)
    | succ n ih =>
      intro i hi0 hi1 hmu K L f H locs r1 r2 r3 g1 g2 g3 gi9 cc9 ss9 hc9 hs9 hN ls hl
      refine q_ild_n cx dX10_init_93 rfl (lv_at hl 0 rfl) ?_
      refine q_ald_n cx dX10_init_94 rfl (lv_at hl 1 rfl) ?_
      refine n_get cx hN 0 rfl rfl 2 (by decide) q_inX10 q_h423 rfl rfl dX10_init_95 ?_
      refine n_alen (t0 := 6) cx hN 3 rfl rfl (by decide) dX10_init_98 ?_
      refine q_icge (tgt := 121) cx ⟨by omega, by omega⟩ ⟨by decide, by decide⟩ dX10_init_99 (by decide) (fun h9 => ?_) (fun h9 => ?_)
      · obtain rfl : i = 61 := by omega
        refine q_ald_n cx dX10_init_121 rfl (lv_at hl 1 rfl) ?_
        refine n_callR cx hN hA rfl (n_makeEmpty l g _ _ _) n_cme (by decide +kernel) ⟨by decide, by show cc9 ≤ 90; omega, by show ss9 ≤ 755; omega⟩ hl.1 (Nat.le_of_ble_eq_true rfl) dX10_init_122 (fun H locs hN => ?_)
        obtain ⟨K, L, f, hs2, ks2, fs2, os2, hN⟩ := n_seal (Xs := [(b, .inr (10, [.ref a1, .ref a2, .ref a3, .int (q_i 0), .int (q_i 0), .int (q_i 0), .int (q_i 12), .int (q_i 1), .int (q_i 2), .int (q_i 5), .int (q_i 3), .int (q_i 0), .int (q_i 0), .int 0, .int 0, .int 0])), (a1, .inl (g.2 7, 10, .inr (.inr (.inr (.inr r1))))), (a2, .inl (g.2 5, 16, .inr (.inr (.inr (.inr r2)))))]) (k := 132) hN (n_shR (by decide) rfl (by decide) (fun _ => rfl) (fun j hj => g3 j (by omega)))
        have g1 := q_full g1 (fun a ha => ⟨(os2 a ha).1, (os2 a ha).2.1⟩)
        have g2 := q_full g2 (fun a ha => ⟨(os2 a ha).1, (os2 a ha).2.1⟩)
        obtain ⟨K, L, f, hs1, ks1, fs1, os1, hN⟩ := n_seal (Xs := [(b, .inr (10, [.ref a1, .ref a2, .ref a3, .int (q_i 0), .int (q_i 0), .int (q_i 0), .int (q_i 12), .int (q_i 1), .int (q_i 2), .int (q_i 5), .int (q_i 3), .int (q_i 0), .int (q_i 0), .int 0, .int 0, .int 0])), (a1, .inl (g.2 7, 10, .inr (.inr (.inr (.inr r1)))))]) (k := 122) hN (n_shR (by decide) rfl (by decide) (fun _ => rfl) (fun j hj => g2 j (by omega)))
        have g1 := q_full g1 (fun a ha => ⟨(os1 a ha).1, (os1 a ha).2.1⟩)
        obtain ⟨K, L, f, hs0, ks0, fs0, os0, hN⟩ := n_seal (Xs := [(b, .inr (10, [.ref a1, .ref a2, .ref a3, .int (q_i 0), .int (q_i 0), .int (q_i 0), .int (q_i 12), .int (q_i 1), .int (q_i 2), .int (q_i 5), .int (q_i 3), .int (q_i 0), .int (q_i 0), .int 0, .int 0, .int 0]))]) (k := 112) hN (n_shR (by decide) rfl (by decide) (fun _ => rfl) (fun j hj => g1 j (by omega)))
        obtain ⟨K, L, f, hb, kb, fb, ob, hN⟩ := n_seal (Xs := []) (k := 14) hN (n_shO (by decide) ⟨⟨a1, rfl, hs0, ks0⟩, ⟨a2, rfl, (os0 _ hs1).1, ((os0 _ hs1).2.1.trans ks1)⟩, ⟨a3, rfl, (os0 _ (os1 _ hs2).1).1, ((os0 _ (os1 _ hs2).1).2.1.trans ((os1 _ hs2).2.1.trans ks2))⟩, ⟨_, rfl, by decide, by decide⟩, ⟨_, rfl, by decide, by decide⟩, ⟨_, rfl, by decide, by decide⟩, ⟨_, rfl, by decide, by decide⟩, ⟨_, rfl, by decide, by decide⟩, ⟨_, rfl, by decide, by decide⟩, ⟨_, rfl, by decide, by decide⟩, ⟨_, rfl, by decide, by decide⟩, ⟨_, rfl, by decide, by decide⟩, ⟨_, rfl, by decide, by decide⟩, ⟨_, rfl, by decide, by decide⟩, ⟨_, rfl, by decide, by decide⟩, ⟨_, rfl, by decide, by decide⟩, trivial⟩)
        refine W.widen (k := 90) (n := 755) (by omega) (by omega) ?_
        have hin9 : n_vl _ f a1 := n_vl_tr (fun a ha => ⟨(ob a ha).1, (ob a ha).2.2⟩) ⟨hs0, n_inj_of fs0 g1 gi9, n_in_of fs0 (q_full g1 (fun a ha => ⟨(os0 a ha).1, (os0 a ha).2.1⟩))⟩
        exact n_ret cx hr hlk hN hb kb ⟨a1, a2, a3, q_Has.one hb fb, hin9⟩ dX10_init_125
      · refine q_ald_n cx dX10_init_102 rfl (lv_at hl 1 rfl) ?_
        refine n_get cx hN 0 rfl rfl 2 (by decide) q_inX10 q_h423 rfl rfl dX10_init_103 ?_
        refine q_ild_n cx dX10_init_106 rfl (lv_at hl 0 rfl) ?_
        refine n_new (ci := 4) (fs := [.int 0, .int 0, .int 0, .int 0, .int 0, .int 0, .int 0, .int 0]) cx hA hN q_inX4 q_yX4 q_h296 q_h377 q_h144 rfl n_dfX4 (by show cc9 + 1 ≤ 90; omega) (by show ss9 + 8 ≤ 755; omega) dX10_init_107 (fun q9 H hN => ?_)
        refine lv_dup cx.1 cx.2.1 dX10_init_110 rfl ?_
        have hfr9 := n_fresh hN
        refine n_callIN (Xs := [(b, .inr (10, [.ref a1, .ref a2, .ref a3, .int 0, .int 0, .int 0, .int 0, .int 0, .int 0, .int 0, .int 0, .int 0, .int 0, .int 0, .int 0, .int 0])), (a1, .inl (g.2 7, 10, .inr (.inr (.inr (.inr r1))))), (a2, .inl (g.2 5, 16, .inr (.inr (.inr (.inr r2))))), (a3, .inl (g.2 6, 61, .inr (.inr (.inr (.inr r3)))))]) (k := 26) cx hE hA hN (n_X4_26 l g) (fun L1 f1 L2 f2 h _ h2 => h2.mono h) q_h144 (by decide +kernel) q_h379 q_h380 rfl (by decide +kernel) ⟨by decide, by show cc9 + 1 + 0 ≤ 90; omega, by show ss9 + 8 + 0 ≤ 755; omega⟩ hl.1 (Nat.le_of_ble_eq_true rfl) dX10_init_111 (fun K L f H locs hq9 kq9 oq9 pq9 hN => ?_)
        refine n_ast (t0 := 6) (k := 26) cx hN 3 rfl rfl hq9 kq9 (by decide) rfl hi0 (by omega) (by decide) dX10_init_114 (fun H locs hN => ?_)
        refine q_iinc (lv' := [(1, .int (q_i (i + 1))), (0, .ref b)]) cx dX10_init_115 hl (k := 0) rfl (by decide) rfl (fun ls hl => ?_)
        refine lv_goto (tgt := 93) cx.1 cx.2.1 dX10_init_118 (by decide) ?_
        exact ih (i + 1) (by omega) (by omega) (by omega) K L f H locs r1 r2 (va_up r3 i.toNat (some q9)) (q_full g1 (fun a ha => ⟨(oq9 a ha).1, (oq9 a ha).2.1⟩)) (q_full g2 (fun a ha => ⟨(oq9 a ha).1, (oq9 a ha).2.1⟩)) (q_fullS hi0 (q_full g3 (fun a ha => ⟨(oq9 a ha).1, (oq9 a ha).2.1⟩)) hq9 kq9) gi9 _ _ (by omega) (by omega) hN ls hl
  have J63 : ∀ (n : Nat) (i : Int) (hi0 : 0 ≤ i) (hi1 : i ≤ 16) (hmu : Int.toNat (16 - i) < n) (K : Nat → Nat) (L : List Nat) (f : Nat → va_E) (H : Heap) (locs : List Loc) (r1 r2 r3 : Nat → Option Nat) (g1 : ∀ j : Nat, (j : Int) < 10 → ∃ q, r1 j = some q ∧ q ∈ L ∧ K q = 18) (g2 : ∀ j : Nat, (j : Int) < i → ∃ q, r2 j = some q ∧ q ∈ L ∧ K q = 22) (gi9 : n_ri r1 10) (cc9 ss9 : Nat) (hc9 : cc9 = 13 + 1 * i.toNat) (hs9 : ss9 = 187 + 5 * i.toNat) (hN : q_N g K L (fun q => q = b ∨ s.heap.size ≤ q) [(b, .inr (10, [.ref a1, .ref a2, .ref a3, .int 0, .int 0, .int 0, .int 0, .int 0, .int 0, .int 0, .int 0, .int 0, .int 0, .int 0, .int 0, .int 0])), (a1, .inl (g.2 7, 10, .inr (.inr (.inr (.inr r1))))), (a2, .inl (g.2 5, 16, .inr (.inr (.inr (.inr r2))))), (a3, .inl (g.2 6, 61, .inr (.inr (.inr (.inr r3)))))] f s H locs) (ls : Array Slot) (hl : lv_has ls 2 [(1, .int (q_i i)), (0, .ref b)]), W p l e { frames := 2, cells := 90, slots := 755, locals := 32 } s m ([.ref b] : List Value).toArray below meth c H locs cc9 ss9 (MQ below (n_Q g b s.heap.size 14 (fun L f b => ∃ a1 a2 a3 : Nat, q_Has L f [(b, .inr (10, [.ref a1, .ref a2, .ref a3, .int (q_i 0), .int (q_i 0), .int (q_i 0), .int (q_i 12), .int (q_i 1), .int (q_i 2), .int (q_i 5), .int (q_i 3), .int (q_i 0), .int (q_i 0), .int 0, .int 0, .int 0]))] ∧ n_vl L f a1)) ([.ref b] : List Value).toArray s 90 755 (fun q => q = b ∨ s.heap.size ≤ q)) (F0 m 63 ls []) := by
    intro n
    induction n with
    | zero =>
      intro i hi0 hi1 hmu
      exact absurd hmu (Nat.not_lt_zero _)
    | succ n ih =>
      intro i hi0 hi1 hmu K L f H locs r1 r2 r3 g1 g2 gi9 cc9 ss9 hc9 hs9 hN ls hl
      refine q_ild_n cx dX10_init_63 rfl (lv_at hl 0 rfl) ?_
      refine q_ald_n cx dX10_init_64 rfl (lv_at hl 1 rfl) ?_
      refine n_get cx hN 0 rfl rfl 1 (by decide) q_inX10 q_h422 rfl rfl dX10_init_65 ?_
      refine n_alen (t0 := 5) cx hN 2 rfl rfl (by decide) dX10_init_68 ?_
      refine q_icge (tgt := 91) cx ⟨by omega, by omega⟩ ⟨by decide, by decide⟩ dX10_init_69 (by decide) (fun h9 => ?_) (fun h9 => ?_)
      · obtain rfl : i = 16 := by omega
        refine q_iconst cx dX10_init_91 ?_
        refine lv_istore_n (lv' := [(1, .int (q_i 0)), (0, .ref b)]) cx.1 cx.2.1 dX10_init_92 rfl hl (by decide) rfl (fun ls hl => ?_)
        exact J93 _ 0 (by decide) (by decide) (Nat.lt_succ_self _) K L f H locs r1 r2 r3 g1 g2 (fun j hj => absurd hj (by omega)) gi9 _ _ (by omega) (by omega) hN ls hl
      · refine q_ald_n cx dX10_init_72 rfl (lv_at hl 1 rfl) ?_
        refine n_get cx hN 0 rfl rfl 1 (by decide) q_inX10 q_h422 rfl rfl dX10_init_73 ?_
        refine q_ild_n cx dX10_init_76 rfl (lv_at hl 0 rfl) ?_
        refine n_new (ci := 3) (fs := [.int 0, .int 0, .int 0, .int 0, .int 0]) cx hA hN q_inX3 q_yX3 q_h294 q_h351 q_h143 rfl n_dfX3 (by show cc9 + 1 ≤ 90; omega) (by show ss9 + 5 ≤ 755; omega) dX10_init_77 (fun q9 H hN => ?_)
        refine lv_dup cx.1 cx.2.1 dX10_init_80 rfl ?_
        have hfr9 := n_fresh hN
        refine n_callIN (Xs := [(b, .inr (10, [.ref a1, .ref a2, .ref a3, .int 0, .int 0, .int 0, .int 0, .int 0, .int 0, .int 0, .int 0, .int 0, .int 0, .int 0, .int 0, .int 0])), (a1, .inl (g.2 7, 10, .inr (.inr (.inr (.inr r1))))), (a2, .inl (g.2 5, 16, .inr (.inr (.inr (.inr r2))))), (a3, .inl (g.2 6, 61, .inr (.inr (.inr (.inr r3)))))]) (k := 22) cx hE hA hN (n_X3_22 l g) (fun L1 f1 L2 f2 h _ h2 => h2.mono h) q_h143 (by decide +kernel) q_h353 q_h354 rfl (by decide +kernel) ⟨by decide, by show cc9 + 1 + 0 ≤ 90; omega, by show ss9 + 5 + 0 ≤ 755; omega⟩ hl.1 (Nat.le_of_ble_eq_true rfl) dX10_init_81 (fun K L f H locs hq9 kq9 oq9 pq9 hN => ?_)
        refine n_ast (t0 := 5) (k := 22) cx hN 2 rfl rfl hq9 kq9 (by decide) rfl hi0 (by omega) (by decide) dX10_init_84 (fun H locs hN => ?_)
        refine q_iinc (lv' := [(1, .int (q_i (i + 1))), (0, .ref b)]) cx dX10_init_85 hl (k := 0) rfl (by decide) rfl (fun ls hl => ?_)
        refine lv_goto (tgt := 63) cx.1 cx.2.1 dX10_init_88 (by decide) ?_
        exact ih (i + 1) (by omega) (by omega) (by omega) K L f H locs r1 (va_up r2 i.toNat (some q9)) r3 (q_full g1 (fun a ha => ⟨(oq9 a ha).1, (oq9 a ha).2.1⟩)) (q_fullS hi0 (q_full g2 (fun a ha => ⟨(oq9 a ha).1, (oq9 a ha).2.1⟩)) hq9 kq9) gi9 _ _ (by omega) (by omega) hN ls hl
  have J33 : ∀ (n : Nat) (i : Int) (hi0 : 0 ≤ i) (hi1 : i ≤ 10) (hmu : Int.toNat (10 - i) < n) (K : Nat → Nat) (L : List Nat) (f : Nat → va_E) (H : Heap) (locs : List Loc) (r1 r2 r3 : Nat → Option Nat) (g1 : ∀ j : Nat, (j : Int) < i → ∃ q, r1 j = some q ∧ q ∈ L ∧ K q = 18) (gi9 : n_ri r1 i) (cc9 ss9 : Nat) (hc9 : cc9 = 3 + 1 * i.toNat) (hs9 : ss9 = 87 + 10 * i.toNat) (hN : q_N g K L (fun q => q = b ∨ s.heap.size ≤ q) [(b, .inr (10, [.ref a1, .ref a2, .ref a3, .int 0, .int 0, .int 0, .int 0, .int 0, .int 0, .int 0, .int 0, .int 0, .int 0, .int 0, .int 0, .int 0])), (a1, .inl (g.2 7, 10, .inr (.inr (.inr (.inr r1))))), (a2, .inl (g.2 5, 16, .inr (.inr (.inr (.inr r2))))), (a3, .inl (g.2 6, 61, .inr (.inr (.inr (.inr r3)))))] f s H locs) (ls : Array Slot) (hl : lv_has ls 2 [(1, .int (q_i i)), (0, .ref b)]), W p l e { frames := 2, cells := 90, slots := 755, locals := 32 } s m ([.ref b] : List Value).toArray below meth c H locs cc9 ss9 (MQ below (n_Q g b s.heap.size 14 (fun L f b => ∃ a1 a2 a3 : Nat, q_Has L f [(b, .inr (10, [.ref a1, .ref a2, .ref a3, .int (q_i 0), .int (q_i 0), .int (q_i 0), .int (q_i 12), .int (q_i 1), .int (q_i 2), .int (q_i 5), .int (q_i 3), .int (q_i 0), .int (q_i 0), .int 0, .int 0, .int 0]))] ∧ n_vl L f a1)) ([.ref b] : List Value).toArray s 90 755 (fun q => q = b ∨ s.heap.size ≤ q)) (F0 m 33 ls []) := by
    intro n
    induction n with
    | zero =>
      intro i hi0 hi1 hmu
      exact absurd hmu (Nat.not_lt_zero _)
    | succ n ih =>
      intro i hi0 hi1 hmu K L f H locs r1 r2 r3 g1 gi9 cc9 ss9 hc9 hs9 hN ls hl
      refine q_ild_n cx dX10_init_33 rfl (lv_at hl 0 rfl) ?_
      refine q_ald_n cx dX10_init_34 rfl (lv_at hl 1 rfl) ?_
      refine n_get cx hN 0 rfl rfl 0 (by decide) q_inX10 q_h421 rfl rfl dX10_init_35 ?_
      refine n_alen (t0 := 7) cx hN 1 rfl rfl (by decide) dX10_init_38 ?_
      refine q_icge (tgt := 61) cx ⟨by omega, by omega⟩ ⟨by decide, by decide⟩ dX10_init_39 (by decide) (fun h9 => ?_) (fun h9 => ?_)
      · obtain rfl : i = 10 := by omega
        refine q_iconst cx dX10_init_61 ?_
        refine lv_istore_n (lv' := [(1, .int (q_i 0)), (0, .ref b)]) cx.1 cx.2.1 dX10_init_62 rfl hl (by decide) rfl (fun ls hl => ?_)
        exact J63 _ 0 (by decide) (by decide) (Nat.lt_succ_self _) K L f H locs r1 r2 r3 g1 (fun j hj => absurd hj (by omega)) gi9 _ _ (by omega) (by omega) hN ls hl
      · refine q_ald_n cx dX10_init_42 rfl (lv_at hl 1 rfl) ?_
        refine n_get cx hN 0 rfl rfl 0 (by decide) q_inX10 q_h421 rfl rfl dX10_init_43 ?_
        refine q_ild_n cx dX10_init_46 rfl (lv_at hl 0 rfl) ?_
        refine n_new (ci := 5) (fs := [.long 0, .long 0, .int 0, .int 0, .int 0, .int 0, .int 0, .int 0, .int 0, .int 0]) cx hA hN q_inX5 q_yX5 q_h292 q_h298 q_h142 rfl n_dfX5 (by show cc9 + 1 ≤ 90; omega) (by show ss9 + 10 ≤ 755; omega) dX10_init_47 (fun q9 H hN => ?_)
        refine lv_dup cx.1 cx.2.1 dX10_init_50 rfl ?_
        have hfr9 := n_fresh hN
        refine n_callIN (Xs := [(b, .inr (10, [.ref a1, .ref a2, .ref a3, .int 0, .int 0, .int 0, .int 0, .int 0, .int 0, .int 0, .int 0, .int 0, .int 0, .int 0, .int 0, .int 0])), (a1, .inl (g.2 7, 10, .inr (.inr (.inr (.inr r1))))), (a2, .inl (g.2 5, 16, .inr (.inr (.inr (.inr r2))))), (a3, .inl (g.2 6, 61, .inr (.inr (.inr (.inr r3)))))]) (k := 18) cx hE hA hN (n_X5_18 l g) (fun L1 f1 L2 f2 h _ h2 => h2.mono h) q_h142 (by decide +kernel) q_h300 q_h301 rfl (by decide +kernel) ⟨by decide, by show cc9 + 1 + 0 ≤ 90; omega, by show ss9 + 10 + 0 ≤ 755; omega⟩ hl.1 (Nat.le_of_ble_eq_true rfl) dX10_init_51 (fun K L f H locs hq9 kq9 oq9 pq9 hN => ?_)
        refine n_ast (t0 := 7) (k := 18) cx hN 1 rfl rfl hq9 kq9 (by decide) rfl hi0 (by omega) (by decide) dX10_init_54 (fun H locs hN => ?_)
        refine q_iinc (lv' := [(1, .int (q_i (i + 1))), (0, .ref b)]) cx dX10_init_55 hl (k := 0) rfl (by decide) rfl (fun ls hl => ?_)
        refine lv_goto (tgt := 33) cx.1 cx.2.1 dX10_init_58 (by decide) ?_
        exact ih (i + 1) (by omega) (by omega) (by omega) K L f H locs (va_up r1 i.toNat (some q9)) r2 r3 (q_fullS hi0 (q_full g1 (fun a ha => ⟨(oq9 a ha).1, (oq9 a ha).2.1⟩)) hq9 kq9) (n_riS hi0 gi9 g1 hfr9) _ _ (by omega) (by omega) hN ls hl
  refine q_iconst cx dX10_init_31 ?_
  refine lv_istore_n (lv' := [(1, .int (q_i 0)), (0, .ref b)]) cx.1 cx.2.1 dX10_init_32 rfl hl (by decide) rfl (fun ls hl => ?_)
  exact J33 _ 0 (by decide) (by decide) (Nat.lt_succ_self _) _ _ _ _ _ (fun _ => none) (fun _ => none) (fun _ => none) (fun j hj => absurd hj (by omega)) n_ri0 _ _ (by omega) (by omega) hN ls hl
