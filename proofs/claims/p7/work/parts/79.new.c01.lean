set_option maxHeartbeats 4000000 in
set_option maxRecDepth 100000 in
theorem n_V3 (l : Launch) (g : q_G) : q_Nw l g yX10_init cX10_init 2 2 32 90 755 10 [.null, .null, .null, .int 0, .int 0, .int 0, .int 0, .int 0, .int 0, .int 0, .int 0, .int 0, .int 0, .int 0, .int 0, .int 0] 15 (fun L f b => ∃ a1 a2 a3 : Nat, q_Has L f [(b, .inr (10, [.ref a1, .ref a2, .ref a3, .int (q_i 0), .int (q_i 0), .int (q_i 0), .int (q_i 12), .int (q_i 1), .int (q_i 2), .int (q_i 5), .int (q_i 3), .int (q_i 0), .int (q_i 0), .int 0, .int 0, .int 0]))]) := by
  refine n_ofb (by decide +kernel) rfl (by decide) ?_
  intro p e s m below meth c ls b cx hr hlk hin hE hN hl
  have hA : ∀ q, s.heap.size ≤ q → (fun q => q = b ∨ s.heap.size ≤ q) q := fun q h => Or.inr h
  have hl : lv_has ls 2 [(0, .ref b)] := hl
  refine q_ald_n cx dX10_init_0 rfl (lv_at hl 0 rfl) ?_
  refine n_objInit cx q_h291 q_h167 q_h168 hl.1 dX10_init_1 (by decide) (by decide) ?_
  refine q_ald_n cx dX10_init_4 rfl (lv_at hl 0 rfl) ?_
  refine q_bipush cx dX10_init_5 rfl ?_
  refine n_anew (t0 := 7) (N' := 10) cx hA hE.1.2.1 hN q_h292 rfl ⟨by decide, by decide⟩ (by decide) rfl (by decide) (by decide) (by decide) dX10_init_7 (fun a1 H hN => ?_)
  have hN : q_N g _ _ (fun q => q = b ∨ s.heap.size ≤ q) [(b, .inr (10, [.null, .null, .null, .int 0, .int 0, .int 0, .int 0, .int 0, .int 0, .int 0, .int 0, .int 0, .int 0, .int 0, .int 0, .int 0])), (a1, .inl (g.2 7, 10, .inr (.inr (.inr (.inr (fun _ => none))))))] _ s H _ := hN
  refine n_putF cx hN 0 rfl rfl 0 (by decide) q_inX10 tyX10 q_yX10 q_nX10 q_h421 rfl rfl hin rfl (q_yX10 0 (by decide)) rfl rfl (Nat.le_of_ble_eq_true rfl) dX10_init_10 (fun H locs hN => ?_)
  have hN : q_N g _ _ (fun q => q = b ∨ s.heap.size ≤ q) [(b, .inr (10, [.ref a1, .null, .null, .int 0, .int 0, .int 0, .int 0, .int 0, .int 0, .int 0, .int 0, .int 0, .int 0, .int 0, .int 0, .int 0])), (a1, .inl (g.2 7, 10, .inr (.inr (.inr (.inr (fun _ => none))))))] _ s H _ := hN
  refine q_ald_n cx dX10_init_13 rfl (lv_at hl 0 rfl) ?_
  refine q_bipush cx dX10_init_14 rfl ?_
  refine n_anew (t0 := 5) (N' := 16) cx hA hE.1.2.2.1 hN q_h294 rfl ⟨by decide, by decide⟩ (by decide) rfl (by decide) (by decide) (by decide) dX10_init_16 (fun a2 H hN => ?_)
  have hN : q_N g _ _ (fun q => q = b ∨ s.heap.size ≤ q) [(b, .inr (10, [.ref a1, .null, .null, .int 0, .int 0, .int 0, .int 0, .int 0, .int 0, .int 0, .int 0, .int 0, .int 0, .int 0, .int 0, .int 0])), (a1, .inl (g.2 7, 10, .inr (.inr (.inr (.inr (fun _ => none)))))), (a2, .inl (g.2 5, 16, .inr (.inr (.inr (.inr (fun _ => none))))))] _ s H _ := hN
  refine n_putF cx hN 0 rfl rfl 1 (by decide) q_inX10 tyX10 q_yX10 q_nX10 q_h422 rfl rfl hin rfl (q_yX10 1 (by decide)) rfl rfl (Nat.le_of_ble_eq_true rfl) dX10_init_19 (fun H locs hN => ?_)
  have hN : q_N g _ _ (fun q => q = b ∨ s.heap.size ≤ q) [(b, .inr (10, [.ref a1, .ref a2, .null, .int 0, .int 0, .int 0, .int 0, .int 0, .int 0, .int 0, .int 0, .int 0, .int 0, .int 0, .int 0, .int 0])), (a1, .inl (g.2 7, 10, .inr (.inr (.inr (.inr (fun _ => none)))))), (a2, .inl (g.2 5, 16, .inr (.inr (.inr (.inr (fun _ => none))))))] _ s H _ := hN
  refine q_ald_n cx dX10_init_22 rfl (lv_at hl 0 rfl) ?_
  refine q_bipush cx dX10_init_23 rfl ?_
  refine n_anew (t0 := 6) (N' := 61) cx hA hE.1.2.2.2.1 hN q_h296 rfl ⟨by decide, by decide⟩ (by decide) rfl (by decide) (by decide) (by decide) dX10_init_25 (fun a3 H hN => ?_)
  have hN : q_N g _ _ (fun q => q = b ∨ s.heap.size ≤ q) [(b, .inr (10, [.ref a1, .ref a2, .null, .int 0, .int 0, .int 0, .int 0, .int 0, .int 0, .int 0, .int 0, .int 0, .int 0, .int 0, .int 0, .int 0])), (a1, .inl (g.2 7, 10, .inr (.inr (.inr (.inr (fun _ => none)))))), (a2, .inl (g.2 5, 16, .inr (.inr (.inr (.inr (fun _ => none)))))), (a3, .inl (g.2 6, 61, .inr (.inr (.inr (.inr (fun _ => none))))))] _ s H _ := hN
  refine n_putF cx hN 0 rfl rfl 2 (by decide) q_inX10 tyX10 q_yX10 q_nX10 q_h423 rfl rfl hin rfl (q_yX10 2 (by decide)) rfl rfl (Nat.le_of_ble_eq_true rfl) dX10_init_28 (fun H locs hN => ?_)
  have hN : q_N g _ _ (fun q => q = b ∨ s.heap.size ≤ q) [(b, .inr (10, [.ref a1, .ref a2, .ref a3, .int 0, .int 0, .int 0, .int 0, .int 0, .int 0, .int 0, .int 0, .int 0, .int 0, .int 0, .int 0, .int 0])), (a1, .inl (g.2 7, 10, .inr (.inr (.inr (.inr (fun _ => none)))))), (a2, .inl (g.2 5, 16, .inr (.inr (.inr (.inr (fun _ => none)))))), (a3, .inl (g.2 6, 61, .inr (.inr (.inr (.inr (fun _ => none))))))] _ s H _ := hN
  have J93 : ∀ (n : Nat) (i : Int) (hi0 : 0 ≤ i) (hi1 : i ≤ 61) (hmu : Int.toNat (61 - i) < n) (K : Nat → Nat) (L : List Nat) (f : Nat → va_E) (H : Heap) (locs : List Loc) (r1 r2 r3 : Nat → Option Nat) (g1 : ∀ j : Nat, (j : Int) < 10 → ∃ q, r1 j = some q ∧ q ∈ L ∧ K q = 19) (g2 : ∀ j : Nat, (j : Int) < 16 → ∃ q, r2 j = some q ∧ q ∈ L ∧ K q = 23) (g3 : ∀ j : Nat, (j : Int) < i → ∃ q, r3 j = some q ∧ q ∈ L ∧ K q = 27) (cc9 ss9 : Nat) (hc9 : cc9 = 29 + 1 * i.toNat) (hs9 : ss9 = 267 + 8 * i.toNat) (hN : q_N g K L (fun q => q = b ∨ s.heap.size ≤ q) [(b, .inr (10, [.ref a1, .ref a2, .ref a3, .int 0, .int 0, .int 0, .int 0, .int 0, .int 0, .int 0, .int 0, .int 0, .int 0, .int 0, .int 0, .int 0])), (a1, .inl (g.2 7, 10, .inr (.inr (.inr (.inr r1))))), (a2, .inl (g.2 5, 16, .inr (.inr (.inr (.inr r2))))), (a3, .inl (g.2 6, 61, .inr (.inr (.inr (.inr r3)))))] f s H locs) (ls : Array Slot) (hl : lv_has ls 2 [(1, .int (q_i i)), (0, .ref b)]), W p l e { frames := 2, cells := 90, slots := 755, locals := 32 } s m ([.ref b] : List Value).toArray below meth c H locs cc9 ss9 (MQ below (n_Q g b s.heap.size 15 (fun L f b => ∃ a1 a2 a3 : Nat, q_Has L f [(b, .inr (10, [.ref a1, .ref a2, .ref a3, .int (q_i 0), .int (q_i 0), .int (q_i 0), .int (q_i 12), .int (q_i 1), .int (q_i 2), .int (q_i 5), .int (q_i 3), .int (q_i 0), .int (q_i 0), .int 0, .int 0, .int 0]))])) ([.ref b] : List Value).toArray s 90 755 (fun q => q = b ∨ s.heap.size ≤ q)) (F0 m 93 ls []) := by
    intro n
    induction n with
    | zero =>
      intro i hi0 hi1 hmu
      exact absurd hmu (Nat.not_lt_zero _)
    | succ n ih =>
      intro i hi0 hi1 hmu K L f H locs r1 r2 r3 g1 g2 g3 cc9 ss9 hc9 hs9 hN ls hl
      refine q_ild_n cx dX10_init_93 rfl (lv_at hl 0 rfl) ?_
      refine q_ald_n cx dX10_init_94 rfl (lv_at hl 1 rfl) ?_
      refine n_get cx hN 0 rfl rfl 2 (by decide) q_inX10 q_h423 rfl rfl dX10_init_95 ?_
      refine n_alen (t0 := 6) cx hN 3 rfl rfl (by decide) dX10_init_98 ?_
      refine q_icge (tgt := 121) cx ⟨by omega, by omega⟩ ⟨by decide, by decide⟩ dX10_init_99 (by decide) (fun h9 => ?_) (fun h9 => ?_)
      · obtain rfl : i = 61 := by omega
        refine q_ald_n cx dX10_init_121 rfl (lv_at hl 1 rfl) ?_
        refine n_callR cx hN hA rfl (n_makeEmpty l g _ _ _) n_cme (by decide +kernel) ⟨by decide, by show cc9 ≤ 90; omega, by show ss9 ≤ 755; omega⟩ hl.1 (Nat.le_of_ble_eq_true rfl) dX10_init_122 (fun H locs hN => ?_)
        obtain ⟨K, L, f, hs2, ks2, fs2, os2, hN⟩ := n_seal (Xs := [(b, .inr (10, [.ref a1, .ref a2, .ref a3, .int (q_i 0), .int (q_i 0), .int (q_i 0), .int (q_i 12), .int (q_i 1), .int (q_i 2), .int (q_i 5), .int (q_i 3), .int (q_i 0), .int (q_i 0), .int 0, .int 0, .int 0])), (a1, .inl (g.2 7, 10, .inr (.inr (.inr (.inr r1))))), (a2, .inl (g.2 5, 16, .inr (.inr (.inr (.inr r2)))))]) (k := 133) hN (n_shR (by decide) rfl (by decide) (fun _ => rfl) (fun j hj => g3 j (by omega)))
        have g1 := q_full g1 (fun a ha => ⟨(os2 a ha).1, (os2 a ha).2.1⟩)
        have g2 := q_full g2 (fun a ha => ⟨(os2 a ha).1, (os2 a ha).2.1⟩)
        obtain ⟨K, L, f, hs1, ks1, fs1, os1, hN⟩ := n_seal (Xs := [(b, .inr (10, [.ref a1, .ref a2, .ref a3, .int (q_i 0), .int (q_i 0), .int (q_i 0), .int (q_i 12), .int (q_i 1), .int (q_i 2), .int (q_i 5), .int (q_i 3), .int (q_i 0), .int (q_i 0), .int 0, .int 0, .int 0])), (a1, .inl (g.2 7, 10, .inr (.inr (.inr (.inr r1)))))]) (k := 123) hN (n_shR (by decide) rfl (by decide) (fun _ => rfl) (fun j hj => g2 j (by omega)))
        have g1 := q_full g1 (fun a ha => ⟨(os1 a ha).1, (os1 a ha).2.1⟩)
        obtain ⟨K, L, f, hs0, ks0, fs0, os0, hN⟩ := n_seal (Xs := [(b, .inr (10, [.ref a1, .ref a2, .ref a3, .int (q_i 0), .int (q_i 0), .int (q_i 0), .int (q_i 12), .int (q_i 1), .int (q_i 2), .int (q_i 5), .int (q_i 3), .int (q_i 0), .int (q_i 0), .int 0, .int 0, .int 0]))]) (k := 113) hN (n_shR (by decide) rfl (by decide) (fun _ => rfl) (fun j hj => g1 j (by omega)))
        obtain ⟨K, L, f, hb, kb, fb, ob, hN⟩ := n_seal (Xs := []) (k := 15) hN (n_shO (by decide) ⟨⟨a1, rfl, hs0, ks0⟩, ⟨a2, rfl, (os0 _ hs1).1, ((os0 _ hs1).2.1.trans ks1)⟩, ⟨a3, rfl, (os0 _ (os1 _ hs2).1).1, ((os0 _ (os1 _ hs2).1).2.1.trans ((os1 _ hs2).2.1.trans ks2))⟩, ⟨_, rfl, by decide, by decide⟩, ⟨_, rfl, by decide, by decide⟩, ⟨_, rfl, by decide, by decide⟩, ⟨_, rfl, by decide, by decide⟩, ⟨_, rfl, by decide, by decide⟩, ⟨_, rfl, by decide, by decide⟩, ⟨_, rfl, by decide, by decide⟩, ⟨_, rfl, by decide, by decide⟩, ⟨_, rfl, by decide, by decide⟩, ⟨_, rfl, by decide, by decide⟩, ⟨_, rfl, by decide, by decide⟩, ⟨_, rfl, by decide, by decide⟩, ⟨_, rfl, by decide, by decide⟩, trivial⟩)
        refine W.widen (k := 90) (n := 755) (by omega) (by omega) ?_
        exact n_ret cx hr hlk hN hb kb ⟨a1, a2, a3, q_Has.one hb fb⟩ dX10_init_125
      · refine q_ald_n cx dX10_init_102 rfl (lv_at hl 1 rfl) ?_
        refine n_get cx hN 0 rfl rfl 2 (by decide) q_inX10 q_h423 rfl rfl dX10_init_103 ?_
        refine q_ild_n cx dX10_init_106 rfl (lv_at hl 0 rfl) ?_
        refine n_new (ci := 4) (fs := [.int 0, .int 0, .int 0, .int 0, .int 0, .int 0, .int 0, .int 0]) cx hA hN q_inX4 q_yX4 q_h296 q_h377 q_h144 rfl n_dfX4 (by show cc9 + 1 ≤ 90; omega) (by show ss9 + 8 ≤ 755; omega) dX10_init_107 (fun q9 H hN => ?_)
        refine lv_dup cx.1 cx.2.1 dX10_init_110 rfl ?_
        refine n_callIN (Xs := [(b, .inr (10, [.ref a1, .ref a2, .ref a3, .int 0, .int 0, .int 0, .int 0, .int 0, .int 0, .int 0, .int 0, .int 0, .int 0, .int 0, .int 0, .int 0])), (a1, .inl (g.2 7, 10, .inr (.inr (.inr (.inr r1))))), (a2, .inl (g.2 5, 16, .inr (.inr (.inr (.inr r2))))), (a3, .inl (g.2 6, 61, .inr (.inr (.inr (.inr r3)))))]) (k := 27) cx hE hA hN (n_X4_27 l g) (fun L1 f1 L2 f2 h _ h2 => h2.mono h) q_h144 (by decide +kernel) q_h379 q_h380 rfl (by decide +kernel) ⟨by decide, by show cc9 + 1 + 0 ≤ 90; omega, by show ss9 + 8 + 0 ≤ 755; omega⟩ hl.1 (Nat.le_of_ble_eq_true rfl) dX10_init_111 (fun K L f H locs hq9 kq9 oq9 pq9 hN => ?_)
        refine n_ast (t0 := 6) (k := 27) cx hN 3 rfl rfl hq9 kq9 (by decide) rfl hi0 (by omega) (by decide) dX10_init_114 (fun H locs hN => ?_)
        refine q_iinc (lv' := [(1, .int (q_i (i + 1))), (0, .ref b)]) cx dX10_init_115 hl (k := 0) rfl (by decide) rfl (fun ls hl => ?_)
        refine lv_goto (tgt := 93) cx.1 cx.2.1 dX10_init_118 (by decide) ?_
        exact ih (i + 1) (by omega) (by omega) (by omega) K L f H locs r1 r2 (va_up r3 i.toNat (some q9)) (q_full g1 (fun a ha => ⟨(oq9 a ha).1, (oq9 a ha).2.1⟩)) (q_full g2 (fun a ha => ⟨(oq9 a ha).1, (oq9 a ha).2.1⟩)) (q_fullS hi0 (q_full g3 (fun a ha => ⟨(oq9 a ha).1, (oq9 a ha).2.1⟩)) hq9 kq9) _ _ (by omega) (by omega) hN ls hl
  have J63 : ∀ (n : Nat) (i : Int) (hi0 : 0 ≤ i) (hi1 : i ≤ 16) (hmu : Int.toNat (16 - i) < n) (K : Nat → Nat) (L : List Nat) (f : Nat → va_E) (H : Heap) (locs : List Loc) (r1 r2 r3 : Nat → Option Nat) (g1 : ∀ j : Nat, (j : Int) < 10 → ∃ q, r1 j = some q ∧ q ∈ L ∧ K q = 19) (g2 : ∀ j : Nat, (j : Int) < i → ∃ q, r2 j = some q ∧ q ∈ L ∧ K q = 23) (cc9 ss9 : Nat) (hc9 : cc9 = 13 + 1 * i.toNat) (hs9 : ss9 = 187 + 5 * i.toNat) (hN : q_N g K L (fun q => q = b ∨ s.heap.size ≤ q) [(b, .inr (10, [.ref a1, .ref a2, .ref a3, .int 0, .int 0, .int 0, .int 0, .int 0, .int 0, .int 0, .int 0, .int 0, .int 0, .int 0, .int 0, .int 0])), (a1, .inl (g.2 7, 10, .inr (.inr (.inr (.inr r1))))), (a2, .inl (g.2 5, 16, .inr (.inr (.inr (.inr r2))))), (a3, .inl (g.2 6, 61, .inr (.inr (.inr (.inr r3)))))] f s H locs) (ls : Array Slot) (hl : lv_has ls 2 [(1, .int (q_i i)), (0, .ref b)]), W p l e { frames := 2, cells := 90, slots := 755, locals := 32 } s m ([.ref b] : List Value).toArray below meth c H locs cc9 ss9 (MQ below (n_Q g b s.heap.size 15 (fun L f b => ∃ a1 a2 a3 : Nat, q_Has L f [(b, .inr (10, [.ref a1, .ref a2, .ref a3, .int (q_i 0), .int (q_i 0), .int (q_i 0), .int (q_i 12), .int (q_i 1), .int (q_i 2), .int (q_i 5), .int (q_i 3), .int (q_i 0), .int (q_i 0), .int 0, .int 0, .int 0]))])) ([.ref b] : List Value).toArray s 90 755 (fun q => q = b ∨ s.heap.size ≤ q)) (F0 m 63 ls []) := by
    intro n
    induction n with
    | zero =>
      intro i hi0 hi1 hmu
      exact absurd hmu (Nat.not_lt_zero _)
    | succ n ih =>
      intro i hi0 hi1 hmu K L f H locs r1 r2 r3 g1 g2 cc9 ss9 hc9 hs9 hN ls hl
      refine q_ild_n cx dX10_init_63 rfl (lv_at hl 0 rfl) ?_
      refine q_ald_n cx dX10_init_64 rfl (lv_at hl 1 rfl) ?_
      refine n_get cx hN 0 rfl rfl 1 (by decide) q_inX10 q_h422 rfl rfl dX10_init_65 ?_
      refine n_alen (t0 := 5) cx hN 2 rfl rfl (by decide) dX10_init_68 ?_
      refine q_icge (tgt := 91) cx ⟨by omega, by omega⟩ ⟨by decide, by decide⟩ dX10_init_69 (by decide) (fun h9 => ?_) (fun h9 => ?_)
      · obtain rfl : i = 16 := by omega
        refine q_iconst cx dX10_init_91 ?_
        refine lv_istore_n (lv' := [(1, .int (q_i 0)), (0, .ref b)]) cx.1 cx.2.1 dX10_init_92 rfl hl (by decide) rfl (fun ls hl => ?_)
        exact J93 _ 0 (by decide) (by decide) (Nat.lt_succ_self _) K L f H locs r1 r2 r3 g1 g2 (fun j hj => absurd hj (by omega)) _ _ (by omega) (by omega) hN ls hl
      · refine q_ald_n cx dX10_init_72 rfl (lv_at hl 1 rfl) ?_
        refine n_get cx hN 0 rfl rfl 1 (by decide) q_inX10 q_h422 rfl rfl dX10_init_73 ?_
        refine q_ild_n cx dX10_init_76 rfl (lv_at hl 0 rfl) ?_
        refine n_new (ci := 3) (fs := [.int 0, .int 0, .int 0, .int 0, .int 0]) cx hA hN q_inX3 q_yX3 q_h294 q_h351 q_h143 rfl n_dfX3 (by show cc9 + 1 ≤ 90; omega) (by show ss9 + 5 ≤ 755; omega) dX10_init_77 (fun q9 H hN => ?_)
        refine lv_dup cx.1 cx.2.1 dX10_init_80 rfl ?_
        refine n_callIN (Xs := [(b, .inr (10, [.ref a1, .ref a2, .ref a3, .int 0, .int 0, .int 0, .int 0, .int 0, .int 0, .int 0, .int 0, .int 0, .int 0, .int 0, .int 0, .int 0])), (a1, .inl (g.2 7, 10, .inr (.inr (.inr (.inr r1))))), (a2, .inl (g.2 5, 16, .inr (.inr (.inr (.inr r2))))), (a3, .inl (g.2 6, 61, .inr (.inr (.inr (.inr r3)))))]) (k := 23) cx hE hA hN (n_X3_23 l g) (fun L1 f1 L2 f2 h _ h2 => h2.mono h) q_h143 (by decide +kernel) q_h353 q_h354 rfl (by decide +kernel) ⟨by decide, by show cc9 + 1 + 0 ≤ 90; omega, by show ss9 + 5 + 0 ≤ 755; omega⟩ hl.1 (Nat.le_of_ble_eq_true rfl) dX10_init_81 (fun K L f H locs hq9 kq9 oq9 pq9 hN => ?_)
        refine n_ast (t0 := 5) (k := 23) cx hN 2 rfl rfl hq9 kq9 (by decide) rfl hi0 (by omega) (by decide) dX10_init_84 (fun H locs hN => ?_)
        refine q_iinc (lv' := [(1, .int (q_i (i + 1))), (0, .ref b)]) cx dX10_init_85 hl (k := 0) rfl (by decide) rfl (fun ls hl => ?_)
        refine lv_goto (tgt := 63) cx.1 cx.2.1 dX10_init_88 (by decide) ?_
        exact ih (i + 1) (by omega) (by omega) (by omega) K L f H locs r1 (va_up r2 i.toNat (some q9)) r3 (q_full g1 (fun a ha => ⟨(oq9 a ha).1, (oq9 a ha).2.1⟩)) (q_fullS hi0 (q_full g2 (fun a ha => ⟨(oq9 a ha).1, (oq9 a ha).2.1⟩)) hq9 kq9) _ _ (by omega) (by omega) hN ls hl
  have J33 : ∀ (n : Nat) (i : Int) (hi0 : 0 ≤ i) (hi1 : i ≤ 10) (hmu : Int.toNat (10 - i) < n) (K : Nat → Nat) (L : List Nat) (f : Nat → va_E) (H : Heap) (locs : List Loc) (r1 r2 r3 : Nat → Option Nat) (g1 : ∀ j : Nat, (j : Int) < i → ∃ q, r1 j = some q ∧ q ∈ L ∧ K q = 19) (cc9 ss9 : Nat) (hc9 : cc9 = 3 + 1 * i.toNat) (hs9 : ss9 = 87 + 10 * i.toNat) (hN : q_N g K L (fun q => q = b ∨ s.heap.size ≤ q) [(b, .inr (10, [.ref a1, .ref a2, .ref a3, .int 0, .int 0, .int 0, .int 0, .int 0, .int 0, .int 0, .int 0, .int 0, .int 0, .int 0, .int 0, .int 0])), (a1, .inl (g.2 7, 10, .inr (.inr (.inr (.inr r1))))), (a2, .inl (g.2 5, 16, .inr (.inr (.inr (.inr r2))))), (a3, .inl (g.2 6, 61, .inr (.inr (.inr (.inr r3)))))] f s H locs) (ls : Array Slot) (hl : lv_has ls 2 [(1, .int (q_i i)), (0, .ref b)]), W p l e { frames := 2, cells := 90, slots := 755, locals := 32 } s m ([.ref b] : List Value).toArray below meth c H locs cc9 ss9 (MQ below (n_Q g b s.heap.size 15 (fun L f b => ∃ a1 a2 a3 : Nat, q_Has L f [(b, .inr (10, [.ref a1, .ref a2, .ref a3, .int (q_i 0), .int (q_i 0), .int (q_i 0), .int (q_i 12), .int (q_i 1), .int (q_i 2), .int (q_i 5), .int (q_i 3), .int (q_i 0), .int (q_i 0), .int 0, .int 0, .int 0]))])) ([.ref b] : List Value).toArray s 90 755 (fun q => q = b ∨ s.heap.size ≤ q)) (F0 m 33 ls []) := by
    intro n
    induction n with
    | zero =>
      intro i hi0 hi1 hmu
      exact absurd hmu (Nat.not_lt_zero _)
    | succ n ih =>
      intro i hi0 hi1 hmu K L f H locs r1 r2 r3 g1 cc9 ss9 hc9 hs9 hN ls hl
      refine q_ild_n cx dX10_init_33 rfl (lv_at hl 0 rfl) ?_
      refine q_ald_n cx dX10_init_34 rfl (lv_at hl 1 rfl) ?_
      refine n_get cx hN 0 rfl rfl 0 (by decide) q_inX10 q_h421 rfl rfl dX10_init_35 ?_
      refine n_alen (t0 := 7) cx hN 1 rfl rfl (by decide) dX10_init_38 ?_
      refine q_icge (tgt := 61) cx ⟨by omega, by omega⟩ ⟨by decide, by decide⟩ dX10_init_39 (by decide) (fun h9 => ?_) (fun h9 => ?_)
      · obtain rfl : i = 10 := by omega
        refine q_iconst cx dX10_init_61 ?_
        refine lv_istore_n (lv' := [(1, .int (q_i 0)), (0, .ref b)]) cx.1 cx.2.1 dX10_init_62 rfl hl (by decide) rfl (fun ls hl => ?_)
        exact J63 _ 0 (by decide) (by decide) (Nat.lt_succ_self _) K L f H locs r1 r2 r3 g1 (fun j hj => absurd hj (by omega)) _ _ (by omega) (by omega) hN ls hl
      · refine q_ald_n cx dX10_init_42 rfl (lv_at hl 1 rfl) ?_
        refine n_get cx hN 0 rfl rfl 0 (by decide) q_inX10 q_h421 rfl rfl dX10_init_43 ?_
        refine q_ild_n cx dX10_init_46 rfl (lv_at hl 0 rfl) ?_
        refine n_new (ci := 5) (fs := [.long 0, .long 0, .int 0, .int 0, .int 0, .int 0, .int 0, .int 0, .int 0, .int 0]) cx hA hN q_inX5 q_yX5 q_h292 q_h298 q_h142 rfl n_dfX5 (by show cc9 + 1 ≤ 90; omega) (by show ss9 + 10 ≤ 755; omega) dX10_init_47 (fun q9 H hN => ?_)
        refine lv_dup cx.1 cx.2.1 dX10_init_50 rfl ?_
        refine n_callIN (Xs := [(b, .inr (10, [.ref a1, .ref a2, .ref a3, .int 0, .int 0, .int 0, .int 0, .int 0, .int 0, .int 0, .int 0, .int 0, .int 0, .int 0, .int 0, .int 0])), (a1, .inl (g.2 7, 10, .inr (.inr (.inr (.inr r1))))), (a2, .inl (g.2 5, 16, .inr (.inr (.inr (.inr r2))))), (a3, .inl (g.2 6, 61, .inr (.inr (.inr (.inr r3)))))]) (k := 19) cx hE hA hN (n_X5_19 l g) (fun L1 f1 L2 f2 h _ h2 => h2.mono h) q_h142 (by decide +kernel) q_h300 q_h301 rfl (by decide +kernel) ⟨by decide, by show cc9 + 1 + 0 ≤ 90; omega, by show ss9 + 10 + 0 ≤ 755; omega⟩ hl.1 (Nat.le_of_ble_eq_true rfl) dX10_init_51 (fun K L f H locs hq9 kq9 oq9 pq9 hN => ?_)
        refine n_ast (t0 := 7) (k := 19) cx hN 1 rfl rfl hq9 kq9 (by decide) rfl hi0 (by omega) (by decide) dX10_init_54 (fun H locs hN => ?_)
        refine q_iinc (lv' := [(1, .int (q_i (i + 1))), (0, .ref b)]) cx dX10_init_55 hl (k := 0) rfl (by decide) rfl (fun ls hl => ?_)
        refine lv_goto (tgt := 33) cx.1 cx.2.1 dX10_init_58 (by decide) ?_
        exact ih (i + 1) (by omega) (by omega) (by omega) K L f H locs (va_up r1 i.toNat (some q9)) r2 r3 (q_fullS hi0 (q_full g1 (fun a ha => ⟨(oq9 a ha).1, (oq9 a ha).2.1⟩)) hq9 kq9) _ _ (by omega) (by omega) hN ls hl
  refine q_iconst cx dX10_init_31 ?_
  refine lv_istore_n (lv' := [(1, .int (q_i 0)), (0, .ref b)]) cx.1 cx.2.1 dX10_init_32 rfl hl (by decide) rfl (fun ls hl => ?_)
  exact J33 _ 0 (by decide) (by decide) (Nat.lt_succ_self _) _ _ _ _ _ (fun _ => none) (fun _ => none) (fun _ => none) (fun j hj => absurd hj (by omega)) _ _ (by omega) (by omega) hN ls hl
set_option maxHeartbeats 4000000 in
set_option maxRecDepth 100000 in
theorem n_V4 (l : Launch) (g : q_G) : q_Nw l g yX10_init cX10_init 2 2 32 90 755 10 [.null, .null, .null, .int 0, .int 0, .int 0, .int 0, .int 0, .int 0, .int 0, .int 0, .int 0, .int 0, .int 0, .int 0, .int 0] 16 (fun L f b => ∃ a1 a2 a3 : Nat, q_Has L f [(b, .inr (10, [.ref a1, .ref a2, .ref a3, .int (q_i 0), .int (q_i 0), .int (q_i 0), .int (q_i 12), .int (q_i 1), .int (q_i 2), .int (q_i 5), .int (q_i 3), .int (q_i 0), .int (q_i 0), .int 0, .int 0, .int 0]))] ∧ n_vl L f a1) := by
  refine n_ofb (by decide +kernel) rfl (by decide) ?_
  intro p e s m below meth c ls b cx hr hlk hin hE hN hl
  have hA : ∀ q, s.heap.size ≤ q → (fun q => q = b ∨ s.heap.size ≤ q) q := fun q h => Or.inr h
  have hl : lv_has ls 2 [(0, .ref b)] := hl
  refine q_ald_n cx dX10_init_0 rfl (lv_at hl 0 rfl) ?_
  refine n_objInit cx q_h291 q_h167 q_h168 hl.1 dX10_init_1 (by decide) (by decide) ?_
  refine q_ald_n cx dX10_init_4 rfl (lv_at hl 0 rfl) ?_
  refine q_bipush cx dX10_init_5 rfl ?_
  refine n_anew (t0 := 7) (N' := 10) cx hA hE.1.2.1 hN q_h292 rfl ⟨by decide, by decide⟩ (by decide) rfl (by decide) (by decide) (by decide) dX10_init_7 (fun a1 H hN => ?_)
  have hN : q_N g _ _ (fun q => q = b ∨ s.heap.size ≤ q) [(b, .inr (10, [.null, .null, .null, .int 0, .int 0, .int 0, .int 0, .int 0, .int 0, .int 0, .int 0, .int 0, .int 0, .int 0, .int 0, .int 0])), (a1, .inl (g.2 7, 10, .inr (.inr (.inr (.inr (fun _ => none))))))] _ s H _ := hN
  refine n_putF cx hN 0 rfl rfl 0 (by decide) q_inX10 tyX10 q_yX10 q_nX10 q_h421 rfl rfl hin rfl (q_yX10 0 (by decide)) rfl rfl (Nat.le_of_ble_eq_true rfl) dX10_init_10 (fun H locs hN => ?_)
  have hN : q_N g _ _ (fun q => q = b ∨ s.heap.size ≤ q) [(b, .inr (10, [.ref a1, .null, .null, .int 0, .int 0, .int 0, .int 0, .int 0, .int 0, .int 0, .int 0, .int 0, .int 0, .int 0, .int 0, .int 0])), (a1, .inl (g.2 7, 10, .inr (.inr (.inr (.inr (fun _ => none))))))] _ s H _ := hN
  refine q_ald_n cx dX10_init_13 rfl (lv_at hl 0 rfl) ?_
  refine q_bipush cx dX10_init_14 rfl ?_
  refine n_anew (t0 := 5) (N' := 16) cx hA hE.1.2.2.1 hN q_h294 rfl ⟨by decide, by decide⟩ (by decide) rfl (by decide) (by decide) (by decide) dX10_init_16 (fun a2 H hN => ?_)
  have hN : q_N g _ _ (fun q => q = b ∨ s.heap.size ≤ q) [(b, .inr (10, [.ref a1, .null, .null, .int 0, .int 0, .int 0, .int 0, .int 0, .int 0, .int 0, .int 0, .int 0, .int 0, .int 0, .int 0, .int 0])), (a1, .inl (g.2 7, 10, .inr (.inr (.inr (.inr (fun _ => none)))))), (a2, .inl (g.2 5, 16, .inr (.inr (.inr (.inr (fun _ => none))))))] _ s H _ := hN
  refine n_putF cx hN 0 rfl rfl 1 (by decide) q_inX10 tyX10 q_yX10 q_nX10 q_h422 rfl rfl hin rfl (q_yX10 1 (by decide)) rfl rfl (Nat.le_of_ble_eq_true rfl) dX10_init_19 (fun H locs hN => ?_)
  have hN : q_N g _ _ (fun q => q = b ∨ s.heap.size ≤ q) [(b, .inr (10, [.ref a1, .ref a2, .null, .int 0, .int 0, .int 0, .int 0, .int 0, .int 0, .int 0, .int 0, .int 0, .int 0, .int 0, .int 0, .int 0])), (a1, .inl (g.2 7, 10, .inr (.inr (.inr (.inr (fun _ => none)))))), (a2, .inl (g.2 5, 16, .inr (.inr (.inr (.inr (fun _ => none))))))] _ s H _ := hN
  refine q_ald_n cx dX10_init_22 rfl (lv_at hl 0 rfl) ?_
  refine q_bipush cx dX10_init_23 rfl ?_
  refine n_anew (t0 := 6) (N' := 61) cx hA hE.1.2.2.2.1 hN q_h296 rfl ⟨by decide, by decide⟩ (by decide) rfl (by decide) (by decide) (by decide) dX10_init_25 (fun a3 H hN => ?_)
  have hN : q_N g _ _ (fun q => q = b ∨ s.heap.size ≤ q) [(b, .inr (10, [.ref a1, .ref a2, .null, .int 0, .int 0, .int 0, .int 0, .int 0, .int 0, .int 0, .int 0, .int 0, .int 0, .int 0, .int 0, .int 0])), (a1, .inl (g.2 7, 10, .inr (.inr (.inr (.inr (fun _ => none)))))), (a2, .inl (g.2 5, 16, .inr (.inr (.inr (.inr (fun _ => none)))))), (a3, .inl (g.2 6, 61, .inr (.inr (.inr (.inr (fun _ => none))))))] _ s H _ := hN
  refine n_putF cx hN 0 rfl rfl 2 (by decide) q_inX10 tyX10 q_yX10 q_nX10 q_h423 rfl rfl hin rfl (q_yX10 2 (by decide)) rfl rfl (Nat.le_of_ble_eq_true rfl) dX10_init_28 (fun H locs hN => ?_)
  have hN : q_N g _ _ (fun q => q = b ∨ s.heap.size ≤ q) [(b, .inr (10, [.ref a1, .ref a2, .ref a3, .int 0, .int 0, .int 0, .int 0, .int 0, .int 0, .int 0, .int 0, .int 0, .int 0, .int 0, .int 0, .int 0])), (a1, .inl (g.2 7, 10, .inr (.inr (.inr (.inr (fun _ => none)))))), (a2, .inl (g.2 5, 16, .inr (.inr (.inr (.inr (fun _ => none)))))), (a3, .inl (g.2 6, 61, .inr (.inr (.inr (.inr (fun _ => none))))))] _ s H _ := hN
  have J93 : ∀ (n : Nat) (i : Int) (hi0 : 0 ≤ i) (hi1 : i ≤ 61) (hmu : Int.toNat (61 - i) < n) (K : Nat → Nat) (L : List Nat) (f : Nat → va_E) (H : Heap) (locs : List Loc) (r1 r2 r3 : Nat → Option Nat) (g1 : ∀ j : Nat, (j : Int) < 10 → ∃ q, r1 j = some q ∧ q ∈ L ∧ K q = 20) (g2 : ∀ j : Nat, (j : Int) < 16 → ∃ q, r2 j = some q ∧ q ∈ L ∧ K q = 24) (g3 : ∀ j : Nat, (j : Int) < i → ∃ q, r3 j = some q ∧ q ∈ L ∧ K q = 28) (gi9 : n_ri r1 10) (cc9 ss9 : Nat) (hc9 : cc9 = 29 + 1 * i.toNat) (hs9 : ss9 = 267 + 8 * i.toNat) (hN : q_N g K L (fun q => q = b ∨ s.heap.size ≤ q) [(b, .inr (10, [.ref a1, .ref a2, .ref a3, .int 0, .int 0, .int 0, .int 0, .int 0, .int 0, .int 0, .int 0, .int 0, .int 0, .int 0, .int 0, .int 0])), (a1, .inl (g.2 7, 10, .inr (.inr (.inr (.inr r1))))), (a2, .inl (g.2 5, 16, .inr (.inr (.inr (.inr r2))))), (a3, .inl (g.2 6, 61, .inr (.inr (.inr (.inr r3)))))] f s H locs) (ls : Array Slot) (hl : lv_has ls 2 [(1, .int (q_i i)), (0, .ref b)]), W p l e { frames := 2, cells := 90, slots := 755, locals := 32 } s m ([.ref b] : List Value).toArray below meth c H locs cc9 ss9 (MQ below (n_Q g b s.heap.size 16 (fun L f b => ∃ a1 a2 a3 : Nat, q_Has L f [(b, .inr (10, [.ref a1, .ref a2, .ref a3, .int (q_i 0), .int (q_i 0), .int (q_i 0), .int (q_i 12), .int (q_i 1), .int (q_i 2), .int (q_i 5), .int (q_i 3), .int (q_i 0), .int (q_i 0), .int 0, .int 0, .int 0]))] ∧ n_vl L f a1)) ([.ref b] : List Value).toArray s 90 755 (fun q => q = b ∨ s.heap.size ≤ q)) (F0 m 93 ls []) := by
    intro n
    induction n with
    | zero =>
      intro i hi0 hi1 hmu
      exact absurd hmu (Nat.not_lt_zero _)
    | succ n ih =>
      intro i hi0 hi1 hmu K L f H locs r1 r2 r3 g1 g2 g3 gi9 cc9 ss9 hc9 hs9 hN ls hl
      refine q_ild_n cx dX10_init_93 rfl (lv_at hl 0 rfl) ?_
      refine q_ald_n cx dX10_init_94 rfl (lv_at hl 1 rfl) ?_
      refine n_get cx hN 0 rfl rfl 2 (by decide) q_inX10 q_h423 rfl rfl dX10_init_95 ?_
      refine n_alen (t0 := 6) cx hN 3 rfl rfl (by decide) dX10_init_98 ?_
      refine q_icge (tgt := 121) cx ⟨by omega, by omega⟩ ⟨by decide, by decide⟩ dX10_init_99 (by decide) (fun h9 => ?_) (fun h9 => ?_)
      · obtain rfl : i = 61 := by omega
        refine q_ald_n cx dX10_init_121 rfl (lv_at hl 1 rfl) ?_
        refine n_callR cx hN hA rfl (n_makeEmpty l g _ _ _) n_cme (by decide +kernel) ⟨by decide, by show cc9 ≤ 90; omega, by show ss9 ≤ 755; omega⟩ hl.1 (Nat.le_of_ble_eq_true rfl) dX10_init_122 (fun H locs hN => ?_)
        obtain ⟨K, L, f, hs2, ks2, fs2, os2, hN⟩ := n_seal (Xs := [(b, .inr (10, [.ref a1, .ref a2, .ref a3, .int (q_i 0), .int (q_i 0), .int (q_i 0), .int (q_i 12), .int (q_i 1), .int (q_i 2), .int (q_i 5), .int (q_i 3), .int (q_i 0), .int (q_i 0), .int 0, .int 0, .int 0])), (a1, .inl (g.2 7, 10, .inr (.inr (.inr (.inr r1))))), (a2, .inl (g.2 5, 16, .inr (.inr (.inr (.inr r2)))))]) (k := 134) hN (n_shR (by decide) rfl (by decide) (fun _ => rfl) (fun j hj => g3 j (by omega)))
        have g1 := q_full g1 (fun a ha => ⟨(os2 a ha).1, (os2 a ha).2.1⟩)
        have g2 := q_full g2 (fun a ha => ⟨(os2 a ha).1, (os2 a ha).2.1⟩)
        obtain ⟨K, L, f, hs1, ks1, fs1, os1, hN⟩ := n_seal (Xs := [(b, .inr (10, [.ref a1, .ref a2, .ref a3, .int (q_i 0), .int (q_i 0), .int (q_i 0), .int (q_i 12), .int (q_i 1), .int (q_i 2), .int (q_i 5), .int (q_i 3), .int (q_i 0), .int (q_i 0), .int 0, .int 0, .int 0])), (a1, .inl (g.2 7, 10, .inr (.inr (.inr (.inr r1)))))]) (k := 124) hN (n_shR (by decide) rfl (by decide) (fun _ => rfl) (fun j hj => g2 j (by omega)))
        have g1 := q_full g1 (fun a ha => ⟨(os1 a ha).1, (os1 a ha).2.1⟩)
        obtain ⟨K, L, f, hs0, ks0, fs0, os0, hN⟩ := n_seal (Xs := [(b, .inr (10, [.ref a1, .ref a2, .ref a3, .int (q_i 0), .int (q_i 0), .int (q_i 0), .int (q_i 12), .int (q_i 1), .int (q_i 2), .int (q_i 5), .int (q_i 3), .int (q_i 0), .int (q_i 0), .int 0, .int 0, .int 0]))]) (k := 114) hN (n_shR (by decide) rfl (by decide) (fun _ => rfl) (fun j hj => g1 j (by omega)))
        obtain ⟨K, L, f, hb, kb, fb, ob, hN⟩ := n_seal (Xs := []) (k := 16) hN (n_shO (by decide) ⟨⟨a1, rfl, hs0, ks0⟩, ⟨a2, rfl, (os0 _ hs1).1, ((os0 _ hs1).2.1.trans ks1)⟩, ⟨a3, rfl, (os0 _ (os1 _ hs2).1).1, ((os0 _ (os1 _ hs2).1).2.1.trans ((os1 _ hs2).2.1.trans ks2))⟩, ⟨_, rfl, by decide, by decide⟩, ⟨_, rfl, by decide, by decide⟩, ⟨_, rfl, by decide, by decide⟩, ⟨_, rfl, by decide, by decide⟩, ⟨_, rfl, by decide, by decide⟩, ⟨_, rfl, by decide, by decide⟩, ⟨_, rfl, by decide, by decide⟩, ⟨_, rfl, by decide, by decide⟩, ⟨_, rfl, by decide, by decide⟩, ⟨_, rfl, by decide, by decide⟩, ⟨_, rfl, by decide, by decide⟩, ⟨_, rfl, by decide, by decide⟩, ⟨_, rfl, by decide, by decide⟩, trivial⟩)
        refine W.widen (k := 90) (n := 755) (by omega) (by omega) ?_
        have hin9 : n_vl _ f a1 := n_vl_tr (fun a ha => ⟨(ob a ha).1, (ob a ha).2.2⟩) ⟨hs0, n_inj_of fs0 g1 gi9, n_in_of fs0 (q_full g1 (fun a ha => ⟨(os0 a ha).1, (os0 a ha).2.1⟩))⟩
        exact n_ret cx hr hlk hN hb kb ⟨a1, a2, a3, q_Has.one hb fb, hin9⟩ dX10_init_125
      · refine q_ald_n cx dX10_init_102 rfl (lv_at hl 1 rfl) ?_
        refine n_get cx hN 0 rfl rfl 2 (by decide) q_inX10 q_h423 rfl rfl dX10_init_103 ?_
        refine q_ild_n cx dX10_init_106 rfl (lv_at hl 0 rfl) ?_
        refine n_new (ci := 4) (fs := [.int 0, .int 0, .int 0, .int 0, .int 0, .int 0, .int 0, .int 0]) cx hA hN q_inX4 q_yX4 q_h296 q_h377 q_h144 rfl n_dfX4 (by show cc9 + 1 ≤ 90; omega) (by show ss9 + 8 ≤ 755; omega) dX10_init_107 (fun q9 H hN => ?_)
        refine lv_dup cx.1 cx.2.1 dX10_init_110 rfl ?_
        have hfr9 := n_fresh hN
        refine n_callIN (Xs := [(b, .inr (10, [.ref a1, .ref a2, .ref a3, .int 0, .int 0, .int 0, .int 0, .int 0, .int 0, .int 0, .int 0, .int 0, .int 0, .int 0, .int 0, .int 0])), (a1, .inl (g.2 7, 10, .inr (.inr (.inr (.inr r1))))), (a2, .inl (g.2 5, 16, .inr (.inr (.inr (.inr r2))))), (a3, .inl (g.2 6, 61, .inr (.inr (.inr (.inr r3)))))]) (k := 28) cx hE hA hN (n_X4_28 l g) (fun L1 f1 L2 f2 h _ h2 => h2.mono h) q_h144 (by decide +kernel) q_h379 q_h380 rfl (by decide +kernel) ⟨by decide, by show cc9 + 1 + 0 ≤ 90; omega, by show ss9 + 8 + 0 ≤ 755; omega⟩ hl.1 (Nat.le_of_ble_eq_true rfl) dX10_init_111 (fun K L f H locs hq9 kq9 oq9 pq9 hN => ?_)
        refine n_ast (t0 := 6) (k := 28) cx hN 3 rfl rfl hq9 kq9 (by decide) rfl hi0 (by omega) (by decide) dX10_init_114 (fun H locs hN => ?_)
        refine q_iinc (lv' := [(1, .int (q_i (i + 1))), (0, .ref b)]) cx dX10_init_115 hl (k := 0) rfl (by decide) rfl (fun ls hl => ?_)
        refine lv_goto (tgt := 93) cx.1 cx.2.1 dX10_init_118 (by decide) ?_
        exact ih (i + 1) (by omega) (by omega) (by omega) K L f H locs r1 r2 (va_up r3 i.toNat (some q9)) (q_full g1 (fun a ha => ⟨(oq9 a ha).1, (oq9 a ha).2.1⟩)) (q_full g2 (fun a ha => ⟨(oq9 a ha).1, (oq9 a ha).2.1⟩)) (q_fullS hi0 (q_full g3 (fun a ha => ⟨(oq9 a ha).1, (oq9 a ha).2.1⟩)) hq9 kq9) gi9 _ _ (by omega) (by omega) hN ls hl
  have J63 : ∀ (n : Nat) (i : Int) (hi0 : 0 ≤ i) (hi1 : i ≤ 16) (hmu : Int.toNat (16 - i) < n) (K : Nat → Nat) (L : List Nat) (f : Nat → va_E) (H : Heap) (locs : List Loc) (r1 r2 r3 : Nat → Option Nat) (g1 : ∀ j : Nat, (j : Int) < 10 → ∃ q, r1 j = some q ∧ q ∈ L ∧ K q = 20) (g2 : ∀ j : Nat, (j : Int) < i → ∃ q, r2 j = some q ∧ q ∈ L ∧ K q = 24) (gi9 : n_ri r1 10) (cc9 ss9 : Nat) (hc9 : cc9 = 13 + 1 * i.toNat) (hs9 : ss9 = 187 + 5 * i.toNat) (hN : q_N g K L (fun q => q = b ∨ s.heap.size ≤ q) [(b, .inr (10, [.ref a1, .ref a2, .ref a3, .int 0, .int 0, .int 0, .int 0, .int 0, .int 0, .int 0, .int 0, .int 0, .int 0, .int 0, .int 0, .int 0])), (a1, .inl (g.2 7, 10, .inr (.inr (.inr (.inr r1))))), (a2, .inl (g.2 5, 16, .inr (.inr (.inr (.inr r2))))), (a3, .inl (g.2 6, 61, .inr (.inr (.inr (.inr r3)))))] f s H locs) (ls : Array Slot) (hl : lv_has ls 2 [(1, .int (q_i i)), (0, .ref b)]), W p l e { frames := 2, cells := 90, slots := 755, locals := 32 } s m ([.ref b] : List Value).toArray below meth c H locs cc9 ss9 (MQ below (n_Q g b s.heap.size 16 (fun L f b => ∃ a1 a2 a3 : Nat, q_Has L f [(b, .inr (10, [.ref a1, .ref a2, .ref a3, .int (q_i 0), .int (q_i 0), .int (q_i 0), .int (q_i 12), .int (q_i 1), .int (q_i 2), .int (q_i 5), .int (q_i 3), .int (q_i 0), .int (q_i 0), .int 0, .int 0, .int 0]))] ∧ n_vl L f a1)) ([.ref b] : List Value).toArray s 90 755 (fun q => q = b ∨ s.heap.size ≤ q)) (F0 m 63 ls []) := by
    intro n
    induction n with
    | zero =>
      intro i hi0 hi1 hmu
      exact absurd hmu (Nat.not_lt_zero _)
    | succ n ih =>
      intro i hi0 hi1 hmu K L f H locs r1 r2 r3 g1 g2 gi9 cc9 ss9 hc9 hs9 hN ls hl
      refine q_ild_n cx dX10_init_63 rfl (lv_at hl 0 rfl) ?_
      refine q_ald_n cx dX10_init_64 rfl (lv_at hl 1 rfl) ?_
      refine n_get cx hN 0 rfl rfl 1 (by decide) q_inX10 q_h422 rfl rfl dX10_init_65 ?_
      refine n_alen (t0 := 5) cx hN 2 rfl rfl (by decide) dX10_init_68 ?_
      refine q_icge (tgt := 91) cx ⟨by omega, by omega⟩ ⟨by decide, by decide⟩ dX10_init_69 (by decide) (fun h9 => ?_) (fun h9 => ?_)
      · obtain rfl : i = 16 := by omega
        refine q_iconst cx dX10_init_91 ?_
        refine lv_istore_n (lv' := [(1, .int (q_i 0)), (0, .ref b)]) cx.1 cx.2.1 dX10_init_92 rfl hl (by decide) rfl (fun ls hl => ?_)
        exact J93 _ 0 (by decide) (by decide) (Nat.lt_succ_self _) K L f H locs r1 r2 r3 g1 g2 (fun j hj => absurd hj (by omega)) gi9 _ _ (by omega) (by omega) hN ls hl
      · refine q_ald_n cx dX10_init_72 rfl (lv_at hl 1 rfl) ?_
        refine n_get cx hN 0 rfl rfl 1 (by decide) q_inX10 q_h422 rfl rfl dX10_init_73 ?_
        refine q_ild_n cx dX10_init_76 rfl (lv_at hl 0 rfl) ?_
        refine n_new (ci := 3) (fs := [.int 0, .int 0, .int 0, .int 0, .int 0]) cx hA hN q_inX3 q_yX3 q_h294 q_h351 q_h143 rfl n_dfX3 (by show cc9 + 1 ≤ 90; omega) (by show ss9 + 5 ≤ 755; omega) dX10_init_77 (fun q9 H hN => ?_)
        refine lv_dup cx.1 cx.2.1 dX10_init_80 rfl ?_
        have hfr9 := n_fresh hN
        refine n_callIN (Xs := [(b, .inr (10, [.ref a1, .ref a2, .ref a3, .int 0, .int 0, .int 0, .int 0, .int 0, .int 0, .int 0, .int 0, .int 0, .int 0, .int 0, .int 0, .int 0])), (a1, .inl (g.2 7, 10, .inr (.inr (.inr (.inr r1))))), (a2, .inl (g.2 5, 16, .inr (.inr (.inr (.inr r2))))), (a3, .inl (g.2 6, 61, .inr (.inr (.inr (.inr r3)))))]) (k := 24) cx hE hA hN (n_X3_24 l g) (fun L1 f1 L2 f2 h _ h2 => h2.mono h) q_h143 (by decide +kernel) q_h353 q_h354 rfl (by decide +kernel) ⟨by decide, by show cc9 + 1 + 0 ≤ 90; omega, by show ss9 + 5 + 0 ≤ 755; omega⟩ hl.1 (Nat.le_of_ble_eq_true rfl) dX10_init_81 (fun K L f H locs hq9 kq9 oq9 pq9 hN => ?_)
        refine n_ast (t0 := 5) (k := 24) cx hN 2 rfl rfl hq9 kq9 (by decide) rfl hi0 (by omega) (by decide) dX10_init_84 (fun H locs hN => ?_)
        refine q_iinc (lv' := [(1, .int (q_i (i + 1))), (0, .ref b)]) cx dX10_init_85 hl (k := 0) rfl (by decide) rfl (fun ls hl => ?_)
        refine lv_goto (tgt := 63) cx.1 cx.2.1 dX10_init_88 (by decide) ?_
        exact ih (i + 1) (by omega) (by omega) (by omega) K L f H locs r1 (va_up r2 i.toNat (some q9)) r3 (q_full g1 (fun a ha => ⟨(oq9 a ha).1, (oq9 a ha).2.1⟩)) (q_fullS hi0 (q_full g2 (fun a ha => ⟨(oq9 a ha).1, (oq9 a ha).2.1⟩)) hq9 kq9) gi9 _ _ (by omega) (by omega) hN ls hl
  have J33 : ∀ (n : Nat) (i : Int) (hi0 : 0 ≤ i) (hi1 : i ≤ 10) (hmu : Int.toNat (10 - i) < n) (K : Nat → Nat) (L : List Nat) (f : Nat → va_E) (H : Heap) (locs : List Loc) (r1 r2 r3 : Nat → Option Nat) (g1 : ∀ j : Nat, (j : Int) < i → ∃ q, r1 j = some q ∧ q ∈ L ∧ K q = 20) (gi9 : n_ri r1 i) (cc9 ss9 : Nat) (hc9 : cc9 = 3 + 1 * i.toNat) (hs9 : ss9 = 87 + 10 * i.toNat) (hN : q_N g K L (fun q => q = b ∨ s.heap.size ≤ q) [(b, .inr (10, [.ref a1, .ref a2, .ref a3, .int 0, .int 0, .int 0, .int 0, .int 0, .int 0, .int 0, .int 0, .int 0, .int 0, .int 0, .int 0, .int 0])), (a1, .inl (g.2 7, 10, .inr (.inr (.inr (.inr r1))))), (a2, .inl (g.2 5, 16, .inr (.inr (.inr (.inr r2))))), (a3, .inl (g.2 6, 61, .inr (.inr (.inr (.inr r3)))))] f s H locs) (ls : Array Slot) (hl : lv_has ls 2 [(1, .int (q_i i)), (0, .ref b)]), W p l e { frames := 2, cells := 90, slots := 755, locals := 32 } s m ([.ref b] : List Value).toArray below meth c H locs cc9 ss9 (MQ below (n_Q g b s.heap.size 16 (fun L f b => ∃ a1 a2 a3 : Nat, q_Has L f [(b, .inr (10, [.ref a1, .ref a2, .ref a3, .int (q_i 0), .int (q_i 0), .int (q_i 0), .int (q_i 12), .int (q_i 1), .int (q_i 2), .int (q_i 5), .int (q_i 3), .int (q_i 0), .int (q_i 0), .int 0, .int 0, .int 0]))] ∧ n_vl L f a1)) ([.ref b] : List Value).toArray s 90 755 (fun q => q = b ∨ s.heap.size ≤ q)) (F0 m 33 ls []) := by
    intro n
    induction n with
    | zero =>
      intro i hi0 hi1 hmu
      exact absurd hmu (Nat.not_lt_zero _)
    | succ n ih =>
      intro i hi0 hi1 hmu K L f H locs r1 r2 r3 g1 gi9 cc9 ss9 hc9 hs9 hN ls hl
      refine q_ild_n cx dX10_init_33 rfl (lv_at hl 0 rfl) ?_
      refine q_ald_n cx dX10_init_34 rfl (lv_at hl 1 rfl) ?_
      refine n_get cx hN 0 rfl rfl 0 (by decide) q_inX10 q_h421 rfl rfl dX10_init_35 ?_
      refine n_alen (t0 := 7) cx hN 1 rfl rfl (by decide) dX10_init_38 ?_
      refine q_icge (tgt := 61) cx ⟨by omega, by omega⟩ ⟨by decide, by decide⟩ dX10_init_39 (by decide) (fun h9 => ?_) (fun h9 => ?_)
      · obtain rfl : i = 10 := by omega
        refine q_iconst cx dX10_init_61 ?_
        refine lv_istore_n (lv' := [(1, .int (q_i 0)), (0, .ref b)]) cx.1 cx.2.1 dX10_init_62 rfl hl (by decide) rfl (fun ls hl => ?_)
        exact J63 _ 0 (by decide) (by decide) (Nat.lt_succ_self _) K L f H locs r1 r2 r3 g1 (fun j hj => absurd hj (by omega)) gi9 _ _ (by omega) (by omega) hN ls hl
      · refine q_ald_n cx dX10_init_42 rfl (lv_at hl 1 rfl) ?_
        refine n_get cx hN 0 rfl rfl 0 (by decide) q_inX10 q_h421 rfl rfl dX10_init_43 ?_
        refine q_ild_n cx dX10_init_46 rfl (lv_at hl 0 rfl) ?_
        refine n_new (ci := 5) (fs := [.long 0, .long 0, .int 0, .int 0, .int 0, .int 0, .int 0, .int 0, .int 0, .int 0]) cx hA hN q_inX5 q_yX5 q_h292 q_h298 q_h142 rfl n_dfX5 (by show cc9 + 1 ≤ 90; omega) (by show ss9 + 10 ≤ 755; omega) dX10_init_47 (fun q9 H hN => ?_)
        refine lv_dup cx.1 cx.2.1 dX10_init_50 rfl ?_
        have hfr9 := n_fresh hN
        refine n_callIN (Xs := [(b, .inr (10, [.ref a1, .ref a2, .ref a3, .int 0, .int 0, .int 0, .int 0, .int 0, .int 0, .int 0, .int 0, .int 0, .int 0, .int 0, .int 0, .int 0])), (a1, .inl (g.2 7, 10, .inr (.inr (.inr (.inr r1))))), (a2, .inl (g.2 5, 16, .inr (.inr (.inr (.inr r2))))), (a3, .inl (g.2 6, 61, .inr (.inr (.inr (.inr r3)))))]) (k := 20) cx hE hA hN (n_X5_20 l g) (fun L1 f1 L2 f2 h _ h2 => h2.mono h) q_h142 (by decide +kernel) q_h300 q_h301 rfl (by decide +kernel) ⟨by decide, by show cc9 + 1 + 0 ≤ 90; omega, by show ss9 + 10 + 0 ≤ 755; omega⟩ hl.1 (Nat.le_of_ble_eq_true rfl) dX10_init_51 (fun K L f H locs hq9 kq9 oq9 pq9 hN => ?_)
        refine n_ast (t0 := 7) (k := 20) cx hN 1 rfl rfl hq9 kq9 (by decide) rfl hi0 (by omega) (by decide) dX10_init_54 (fun H locs hN => ?_)
        refine q_iinc (lv' := [(1, .int (q_i (i + 1))), (0, .ref b)]) cx dX10_init_55 hl (k := 0) rfl (by decide) rfl (fun ls hl => ?_)
        refine lv_goto (tgt := 33) cx.1 cx.2.1 dX10_init_58 (by decide) ?_
        exact ih (i + 1) (by omega) (by omega) (by omega) K L f H locs (va_up r1 i.toNat (some q9)) r2 r3 (q_fullS hi0 (q_full g1 (fun a ha => ⟨(oq9 a ha).1, (oq9 a ha).2.1⟩)) hq9 kq9) (n_riS hi0 gi9 g1 hfr9) _ _ (by omega) (by omega) hN ls hl
  refine q_iconst cx dX10_init_31 ?_
  refine lv_istore_n (lv' := [(1, .int (q_i 0)), (0, .ref b)]) cx.1 cx.2.1 dX10_init_32 rfl hl (by decide) rfl (fun ls hl => ?_)
  exact J33 _ 0 (by decide) (by decide) (Nat.lt_succ_self _) _ _ _ _ _ (fun _ => none) (fun _ => none) (fun _ => none) (fun j hj => absurd hj (by omega)) n_ri0 _ _ (by omega) (by omega) hN ls hl
theorem n_dfX0 : ∀ j, j < 7 → defaultValue (tyX0 j) = vp_V [.int 0, .int 0, .int 0, .int 0, .int 0, .int 0, .int 0] j := fun j hj => by
  rcases (show j = 0 ∨ j = 1 ∨ j = 2 ∨ j = 3 ∨ j = 4 ∨ j = 5 ∨ j = 6 by omega) with rfl | rfl | rfl | rfl | rfl | rfl | rfl <;> rfl
set_option maxHeartbeats 4000000 in
set_option maxRecDepth 100000 in
theorem n_Script (l : Launch) (g : q_G) : q_Nw l g yX7_init cX7_init 2 2 32 31 240 7 [.null, .int 0, .int 0, .int 0, .int 0] 7 (fun L f b => ∃ a1 : Nat, q_Has L f [(b, .inr (7, [.ref a1, .int 0, .int 0, .int 0, .int 0]))] ∧ n_cj L f a1) := by
  refine n_ofb (by decide +kernel) rfl (by decide) ?_
  intro p e s m below meth c ls b cx hr hlk hin hE hN hl
  have hA : ∀ q, s.heap.size ≤ q → (fun q => q = b ∨ s.heap.size ≤ q) q := fun q h => Or.inr h
  have hl : lv_has ls 2 [(0, .ref b)] := hl
  refine q_ald_n cx dX7_init_0 rfl (lv_at hl 0 rfl) ?_
  refine n_objInit cx q_h234 q_h167 q_h168 hl.1 dX7_init_1 (by decide) (by decide) ?_
  refine q_ald_n cx dX7_init_4 rfl (lv_at hl 0 rfl) ?_
  refine q_bipush cx dX7_init_5 rfl ?_
  refine n_anew (t0 := 4) (N' := 30) cx hA hE.1.1 hN q_h235 rfl ⟨by decide, by decide⟩ (by decide) rfl (by decide) (by decide) (by decide) dX7_init_7 (fun a1 H hN => ?_)
  have hN : q_N g _ _ (fun q => q = b ∨ s.heap.size ≤ q) [(b, .inr (7, [.null, .int 0, .int 0, .int 0, .int 0])), (a1, .inl (g.2 4, 30, .inr (.inr (.inr (.inr (fun _ => none))))))] _ s H _ := hN
  refine n_putF cx hN 0 rfl rfl 0 (by decide) q_inX7 tyX7 q_yX7 q_nX7 q_h264 rfl rfl hin rfl (q_yX7 0 (by decide)) rfl rfl (Nat.le_of_ble_eq_true rfl) dX7_init_10 (fun H locs hN => ?_)
  have hN : q_N g _ _ (fun q => q = b ∨ s.heap.size ≤ q) [(b, .inr (7, [.ref a1, .int 0, .int 0, .int 0, .int 0])), (a1, .inl (g.2 4, 30, .inr (.inr (.inr (.inr (fun _ => none))))))] _ s H _ := hN
  have J15 : ∀ (n : Nat) (i : Int) (hi0 : 0 ≤ i) (hi1 : i ≤ 30) (hmu : Int.toNat (30 - i) < n) (K : Nat → Nat) (L : List Nat) (f : Nat → va_E) (H : Heap) (locs : List Loc) (r1 : Nat → Option Nat) (g1 : ∀ j : Nat, (j : Int) < i → ∃ q, r1 j = some q ∧ q ∈ L ∧ K q = 0) (gi9 : n_ri r1 i) (cc9 ss9 : Nat) (hc9 : cc9 = 1 + 1 * i.toNat) (hs9 : ss9 = 30 + 7 * i.toNat) (hN : q_N g K L (fun q => q = b ∨ s.heap.size ≤ q) [(b, .inr (7, [.ref a1, .int 0, .int 0, .int 0, .int 0])), (a1, .inl (g.2 4, 30, .inr (.inr (.inr (.inr r1)))))] f s H locs) (ls : Array Slot) (hl : lv_has ls 2 [(1, .int (q_i i)), (0, .ref b)]), W p l e { frames := 2, cells := 31, slots := 240, locals := 32 } s m ([.ref b] : List Value).toArray below meth c H locs cc9 ss9 (MQ below (n_Q g b s.heap.size 7 (fun L f b => ∃ a1 : Nat, q_Has L f [(b, .inr (7, [.ref a1, .int 0, .int 0, .int 0, .int 0]))] ∧ n_cj L f a1)) ([.ref b] : List Value).toArray s 31 240 (fun q => q = b ∨ s.heap.size ≤ q)) (F0 m 15 ls []) := by
    intro n
    induction n with
    | zero =>
      intro i hi0 hi1 hmu
      exact absurd hmu (Nat.not_lt_zero _)
    | succ n ih =>
      intro i hi0 hi1 hmu K L f H locs r1 g1 gi9 cc9 ss9 hc9 hs9 hN ls hl
      refine q_ild_n cx dX7_init_15 rfl (lv_at hl 0 rfl) ?_
      refine q_ald_n cx dX7_init_16 rfl (lv_at hl 1 rfl) ?_
      refine n_get cx hN 0 rfl rfl 0 (by decide) q_inX7 q_h264 rfl rfl dX7_init_17 ?_
      refine n_alen (t0 := 4) cx hN 1 rfl rfl (by decide) dX7_init_20 ?_
      refine q_icge (tgt := 43) cx ⟨by omega, by omega⟩ ⟨by decide, by decide⟩ dX7_init_21 (by decide) (fun h9 => ?_) (fun h9 => ?_)
      · obtain rfl : i = 30 := by omega
        obtain ⟨K, L, f, hs0, ks0, fs0, os0, hN⟩ := n_seal (Xs := [(b, .inr (7, [.ref a1, .int 0, .int 0, .int 0, .int 0]))]) (k := 141) hN (n_shR (by decide) rfl (by decide) (fun _ => rfl) (fun j hj => g1 j (by omega)))
        obtain ⟨K, L, f, hb, kb, fb, ob, hN⟩ := n_seal (Xs := []) (k := 7) hN (n_shO (by decide) ⟨⟨a1, rfl, hs0, ks0⟩, ⟨_, rfl, by decide, by decide⟩, ⟨_, rfl, by decide, by decide⟩, ⟨_, rfl, by decide, by decide⟩, ⟨_, rfl, by decide, by decide⟩, trivial⟩)
        have hcj9 := n_cj_tr (fun a ha => ⟨(ob a ha).1, (ob a ha).2.2⟩) (n_cj_of hs0 fs0 g1 gi9)
        refine W.widen (k := 31) (n := 240) (by omega) (by omega) ?_
        exact n_ret cx hr hlk hN hb kb ⟨a1, q_Has.one hb fb, hcj9⟩ dX7_init_43
      · refine q_ald_n cx dX7_init_24 rfl (lv_at hl 1 rfl) ?_
        refine n_get cx hN 0 rfl rfl 0 (by decide) q_inX7 q_h264 rfl rfl dX7_init_25 ?_
        refine q_ild_n cx dX7_init_28 rfl (lv_at hl 0 rfl) ?_
        refine n_new (ci := 0) (fs := [.int 0, .int 0, .int 0, .int 0, .int 0, .int 0, .int 0]) cx hA hN q_inX0 q_yX0 q_h235 q_h237 q_h139 rfl n_dfX0 (by show cc9 + 1 ≤ 31; omega) (by show ss9 + 7 ≤ 240; omega) dX7_init_29 (fun q9 H hN => ?_)
        refine lv_dup cx.1 cx.2.1 dX7_init_32 rfl ?_
        have hfr9 := n_fresh hN
        refine n_callIN (Xs := [(b, .inr (7, [.ref a1, .int 0, .int 0, .int 0, .int 0])), (a1, .inl (g.2 4, 30, .inr (.inr (.inr (.inr r1)))))]) (k := 0) cx hE hA hN (n_X0_0 l g) (fun L1 f1 L2 f2 h _ h2 => h2.mono h) q_h139 (by decide +kernel) q_h239 q_h240 rfl (by decide +kernel) ⟨by decide, by show cc9 + 1 + 0 ≤ 31; omega, by show ss9 + 7 + 0 ≤ 240; omega⟩ hl.1 (Nat.le_of_ble_eq_true rfl) dX7_init_33 (fun K L f H locs hq9 kq9 oq9 pq9 hN => ?_)
        refine n_ast (t0 := 4) (k := 0) cx hN 1 rfl rfl hq9 kq9 (by decide) rfl hi0 (by omega) (by decide) dX7_init_36 (fun H locs hN => ?_)
        refine q_iinc (lv' := [(1, .int (q_i (i + 1))), (0, .ref b)]) cx dX7_init_37 hl (k := 0) rfl (by decide) rfl (fun ls hl => ?_)
        refine lv_goto (tgt := 15) cx.1 cx.2.1 dX7_init_40 (by decide) ?_
        exact ih (i + 1) (by omega) (by omega) (by omega) K L f H locs (va_up r1 i.toNat (some q9)) (q_fullS hi0 (q_full g1 (fun a ha => ⟨(oq9 a ha).1, (oq9 a ha).2.1⟩)) hq9 kq9) (n_riS hi0 gi9 g1 hfr9) _ _ (by omega) (by omega) hN ls hl
  refine q_iconst cx dX7_init_13 ?_
  refine lv_istore_n (lv' := [(1, .int (q_i 0)), (0, .ref b)]) cx.1 cx.2.1 dX7_init_14 rfl hl (by decide) rfl (fun ls hl => ?_)
  exact J15 _ 0 (by decide) (by decide) (Nat.lt_succ_self _) _ _ _ _ _ (fun _ => none) (fun j hj => absurd hj (by omega)) n_ri0 _ _ (by omega) (by omega) hN ls hl
theorem n_dfX10 : ∀ j, j < 16 → defaultValue (tyX10 j) = vp_V [.null, .null, .null, .int 0, .int 0, .int 0, .int 0, .int 0, .int 0, .int 0, .int 0, .int 0, .int 0, .int 0, .int 0, .int 0] j := fun j hj => by
  rcases (show j = 0 ∨ j = 1 ∨ j = 2 ∨ j = 3 ∨ j = 4 ∨ j = 5 ∨ j = 6 ∨ j = 7 ∨ j = 8 ∨ j = 9 ∨ j = 10 ∨ j = 11 ∨ j = 12 ∨ j = 13 ∨ j = 14 ∨ j = 15 by omega) with rfl | rfl | rfl | rfl | rfl | rfl | rfl | rfl | rfl | rfl | rfl | rfl | rfl | rfl | rfl | rfl <;> rfl
set_option maxHeartbeats 4000000 in
set_option maxRecDepth 100000 in
theorem n_History (l : Launch) (g : q_G) : q_Nw l g yX2_init cX2_init 2 3 53 547 4632 2 [.null, .int 0, .int 0] 2 (fun L f b => ∃ a1 : Nat, q_Has L f [(b, .inr (2, [.ref a1, .int 0, .int 0]))] ∧ n_kz L f a1) := by
  refine n_ofb (by decide +kernel) rfl (by decide) ?_
  intro p e s m below meth c ls b cx hr hlk hin hE hN hl
  have hA : ∀ q, s.heap.size ≤ q → (fun q => q = b ∨ s.heap.size ≤ q) q := fun q h => Or.inr h
  have hl : lv_has ls 2 [(0, .ref b)] := hl
  refine q_ald_n cx dX2_init_0 rfl (lv_at hl 0 rfl) ?_
  refine n_objInit cx q_h496 q_h167 q_h168 hl.1 dX2_init_1 (by decide) (by decide) ?_
  refine q_ald_n cx dX2_init_4 rfl (lv_at hl 0 rfl) ?_
  refine q_bipush cx dX2_init_5 rfl ?_
  refine n_anew (t0 := 8) (N' := 6) cx hA hE.1.2.2.2.2 hN q_h497 rfl ⟨by decide, by decide⟩ (by decide) rfl (by decide) (by decide) (by decide) dX2_init_7 (fun a1 H hN => ?_)
  have hN : q_N g _ _ (fun q => q = b ∨ s.heap.size ≤ q) [(b, .inr (2, [.null, .int 0, .int 0])), (a1, .inl (g.2 8, 6, .inr (.inr (.inr (.inr (fun _ => none))))))] _ s H _ := hN
  refine n_putF cx hN 0 rfl rfl 0 (by decide) q_inX2 tyX2 q_yX2 q_nX2 q_h500 rfl rfl hin rfl (q_yX2 0 (by decide)) rfl rfl (Nat.le_of_ble_eq_true rfl) dX2_init_10 (fun H locs hN => ?_)
  have hN : q_N g _ _ (fun q => q = b ∨ s.heap.size ≤ q) [(b, .inr (2, [.ref a1, .int 0, .int 0])), (a1, .inl (g.2 8, 6, .inr (.inr (.inr (.inr (fun _ => none))))))] _ s H _ := hN
  have J15 : ∀ (n : Nat) (i : Int) (hi0 : 0 ≤ i) (hi1 : i ≤ 6) (hmu : Int.toNat (6 - i) < n) (K : Nat → Nat) (L : List Nat) (f : Nat → va_E) (H : Heap) (locs : List Loc) (r1 : Nat → Option Nat) (g1 : ∀ j : Nat, (j : Int) < i → ∃ q, r1 j = some q ∧ q ∈ L ∧ K q = 16) (gk9 : n_ky L f r1 i) (cc9 ss9 : Nat) (hc9 : cc9 = 1 + 91 * i.toNat) (hs9 : ss9 = 6 + 771 * i.toNat) (hN : q_N g K L (fun q => q = b ∨ s.heap.size ≤ q) [(b, .inr (2, [.ref a1, .int 0, .int 0])), (a1, .inl (g.2 8, 6, .inr (.inr (.inr (.inr r1)))))] f s H locs) (ls : Array Slot) (hl : lv_has ls 2 [(1, .int (q_i i)), (0, .ref b)]), W p l e { frames := 3, cells := 547, slots := 4632, locals := 53 } s m ([.ref b] : List Value).toArray below meth c H locs cc9 ss9 (MQ below (n_Q g b s.heap.size 2 (fun L f b => ∃ a1 : Nat, q_Has L f [(b, .inr (2, [.ref a1, .int 0, .int 0]))] ∧ n_kz L f a1)) ([.ref b] : List Value).toArray s 547 4632 (fun q => q = b ∨ s.heap.size ≤ q)) (F0 m 15 ls []) := by
    intro n
    induction n with
    | zero =>
      intro i hi0 hi1 hmu
      exact absurd hmu (Nat.not_lt_zero _)
    | succ n ih =>
      intro i hi0 hi1 hmu K L f H locs r1 g1 gk9 cc9 ss9 hc9 hs9 hN ls hl
      refine q_ild_n cx dX2_init_15 rfl (lv_at hl 0 rfl) ?_
      refine q_ald_n cx dX2_init_16 rfl (lv_at hl 1 rfl) ?_
      refine n_get cx hN 0 rfl rfl 0 (by decide) q_inX2 q_h500 rfl rfl dX2_init_17 ?_
      refine n_alen (t0 := 8) cx hN 1 rfl rfl (by decide) dX2_init_20 ?_
      refine q_icge (tgt := 43) cx ⟨by omega, by omega⟩ ⟨by decide, by decide⟩ dX2_init_21 (by decide) (fun h9 => ?_) (fun h9 => ?_)
      · obtain rfl : i = 6 := by omega
        obtain ⟨K, L, f, hs0, ks0, fs0, os0, hN⟩ := n_seal (Xs := [(b, .inr (2, [.ref a1, .int 0, .int 0]))]) (k := 140) hN (n_shR (by decide) rfl (by decide) (fun _ => rfl) (fun j hj => g1 j (by omega)))
        obtain ⟨K, L, f, hb, kb, fb, ob, hN⟩ := n_seal (Xs := []) (k := 2) hN (n_shO (by decide) ⟨⟨a1, rfl, hs0, ks0⟩, ⟨_, rfl, by decide, by decide⟩, ⟨_, rfl, by decide, by decide⟩, trivial⟩)
        have gk9 := n_ky_tr gk9 (fun a ha => ⟨(os0 a ha).1, (os0 a ha).2.2⟩)
        have hkz9 := n_kz_tr (fun a ha => ⟨(ob a ha).1, (ob a ha).2.2⟩) (n_kz_of hs0 fs0 gk9)
        refine W.widen (k := 547) (n := 4632) (by omega) (by omega) ?_
        exact n_ret cx hr hlk hN hb kb ⟨a1, q_Has.one hb fb, hkz9⟩ dX2_init_43
      · refine q_ald_n cx dX2_init_24 rfl (lv_at hl 1 rfl) ?_
        refine n_get cx hN 0 rfl rfl 0 (by decide) q_inX2 q_h500 rfl rfl dX2_init_25 ?_
        refine q_ild_n cx dX2_init_28 rfl (lv_at hl 0 rfl) ?_
        refine n_new (ci := 10) (fs := [.null, .null, .null, .int 0, .int 0, .int 0, .int 0, .int 0, .int 0, .int 0, .int 0, .int 0, .int 0, .int 0, .int 0, .int 0]) cx hA hN q_inX10 q_yX10 q_h497 q_h287 q_h141 rfl n_dfX10 (by show cc9 + 1 ≤ 547; omega) (by show ss9 + 16 ≤ 4632; omega) dX2_init_29 (fun q9 H hN => ?_)
        refine lv_dup cx.1 cx.2.1 dX2_init_32 rfl ?_
        have hfr9 := n_fresh hN
        refine n_callI2 (Pf2 := fun L2 f2 b9 => ∃ a1 a2 a3 : Nat, q_Has L2 f2 [(b9, .inr (10, [.ref a1, .ref a2, .ref a3, .int (q_i 0), .int (q_i 0), .int (q_i 0), .int (q_i 12), .int (q_i 1), .int (q_i 2), .int (q_i 5), .int (q_i 3), .int (q_i 0), .int (q_i 0), .int 0, .int 0, .int 0]))] ∧ n_vl L2 f2 a1 ∧ ∀ t9 : Nat, t9 < 10 → q_r f2 a1 t9 ∉ L) (Xs := [(b, .inr (2, [.ref a1, .int 0, .int 0])), (a1, .inl (g.2 8, 6, .inr (.inr (.inr (.inr r1)))))]) (k := 16) cx hE hA hN (n_V4 l g) (fun L1 f1 L2 f2 h hn9 _ h2 => by obtain ⟨x1, x2, x3, h3, h4⟩ := h2; exact ⟨x1, x2, x3, h3.mono h, n_vl_tr h h4, fun t9 ht9 => by rw [q_rc (h _ h4.1).2]; exact hn9 _ (h4.2.2 t9 ht9)⟩) q_h141 q_h499 q_h289 q_h290 rfl (by decide +kernel) ⟨by decide, by show cc9 + 1 + 90 ≤ 547; omega, by show ss9 + 16 + 755 ≤ 4632; omega⟩ hl.1 (Nat.le_of_ble_eq_true rfl) dX2_init_33 (fun K L f H locs hq9 kq9 oq9 pq9 hN => ?_)
        obtain ⟨x1, x2, x3, pq9, pv9, pn9⟩ := pq9
        refine n_ast (t0 := 8) (k := 16) cx hN 1 rfl rfl hq9 kq9 (by decide) rfl hi0 (by omega) (by decide) dX2_init_36 (fun H locs hN => ?_)
        refine q_iinc (lv' := [(1, .int (q_i (i + 1))), (0, .ref b)]) cx dX2_init_37 hl (k := 0) rfl (by decide) rfl (fun ls hl => ?_)
        refine lv_goto (tgt := 15) cx.1 cx.2.1 dX2_init_40 (by decide) ?_
        exact ih (i + 1) (by omega) (by omega) (by omega) K L f H locs (va_up r1 i.toNat (some q9)) (q_fullS hi0 (q_full g1 (fun a ha => ⟨(oq9 a ha).1, (oq9 a ha).2.1⟩)) hq9 kq9) (n_kyS hi0 gk9 (fun a ha => ⟨(oq9 a ha).1, (oq9 a ha).2.2⟩) hq9 hfr9 (pq9.r (List.mem_singleton.mpr rfl) rfl) pv9 pn9) _ _ (by omega) (by omega) hN ls hl
  refine q_iconst cx dX2_init_13 ?_
  refine lv_istore_n (lv' := [(1, .int (q_i 0)), (0, .ref b)]) cx.1 cx.2.1 dX2_init_14 rfl hl (by decide) rfl (fun ls hl => ?_)
  exact J15 _ 0 (by decide) (by decide) (Nat.lt_succ_self _) _ _ _ _ _ (fun _ => none) (fun j hj => absurd hj (by omega)) n_ky0 _ _ (by omega) (by omega) hN ls hl
