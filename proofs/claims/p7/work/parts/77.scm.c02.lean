set_option maxHeartbeats 4000000 in
set_option maxRecDepth 100000 in
theorem f_mreadsNumbers2 (l : Launch) (g : q_G) {K : Nat → Nat} {L : List Nat} (hN : L.Nodup) {f : Nat → va_E} (hT : q_Ty g K L f) (B : Nat → Int) (nl9 : List (List Int)) (mo : Nat) (hmo : mo ∈ L) (kmo : K mo = 12) (a0 : Int) (la0 : 0 ≤ a0) (ua0 : a0 ≤ 58) (b0 : Int) (lb0 : 2 ≤ b0) (ub0 : b0 ≤ 2) (sr : Nat) (hsr : sr ∈ L) (ksr : K sr = 151) (nm : Nat) (hnm : nm ∈ L) (knm : K nm = 156) (bu : Nat) (hbu : bu ∈ L) (kbu : K bu = 150) (c1 : Nat) (hc1 : c1 ∈ L) (kc1 : K c1 = 162) (c2 : Nat) (hc2 : c2 ∈ L) (kc2 : K c2 = 163) (c3 : Nat) (hc3 : c3 ∈ L) (kc3 : K c3 = 164) (tn : Int) (ltn : 0 ≤ tn) (utn : tn ≤ 600) (ss : Int) (lss : 0 ≤ ss) (uss : ss ≤ 600) (xc : Int) (lxc : 0 ≤ xc) (uxc : xc ≤ 10) (hf0 : q_is (q_z f mo 3) tn) (hf1 : q_is (q_z f mo 5) ss) (hf2 : q_is (q_z f mo 8) 0) (hf3 : q_is (q_z f mo 9) (-1)) (hf4 : q_is (q_z f sr 0) xc) (hr0 : q_ir (q_r f mo 13) sr) (hr1 : q_ir (q_r f mo 18) nm) (hr2 : q_ir (q_r f mo 1) bu) (hr3 : q_ir (q_r f mo 30) c1) (hr4 : q_ir (q_r f mo 31) c2) (hr5 : q_ir (q_r f mo 32) c3) (hp0 : (nl9.length : Int) = xc) (htr : tk_tr f mo B tn) (hub : tk_ub f bu B tn) (hrn : tk_nq f nm nl9) : q_Ct l g K L yX12_readsNumbers cX12_readsNumbers 3 none 4 90 [.ref mo, .int (q_i a0), .int (q_i b0)] f [(12, 4, 9), (12, 12, 12), (162, 0, 58), (163, 0, 58), (164, 0, 58)] (q_Pv (fun (f1 : Nat → va_E) => (q_is (q_z f1 mo 8) 0 ∧ q_is (q_z f1 mo 9) (-1) ∧ (tk_rd B tn nl9 2 ss = tk_ok (q_z f1 mo 5)) ∧ (k_cc b0 f1 c1 c2 (Int.toNat a0)) ∧ (k_bl f f1 c1 c2 a0) ∧ (tk_tr f1 mo B tn)) ∨ (1 ≤ q_z f1 mo 8 ∧ q_z f1 mo 8 ≤ 5 ∧ (tk_rd B tn nl9 2 ss = tk_er (q_z f1 mo 8) (q_z f1 mo 9)) ∧ (tk_tr f1 mo B tn)))) := by
  obtain rfl : b0 = 2 := by omega
  refine q_ofb (by decide +kernel) hN hT (Nat.le_of_ble_eq_true rfl) ?_
  intro p e s m below meth c ls cx hr hlk hB hl
  have hl : lv_has ls 3 [(0, .ref mo), (1, .int (q_i a0)), (2, .int (q_i 2))] := hl
  obtain ⟨H, hH⟩ : ∃ H : Heap, H = s.heap := ⟨_, rfl⟩
  obtain ⟨locs, hlocs⟩ : ∃ z : List Loc, z = [] := ⟨_, rfl⟩
  rw [← hH, ← hlocs] at hB
  rw [← hH, ← hlocs]
  have hbl : k_bl f f c1 c2 a0 := k_bl_rf _ _ _ _
  refine q_ild_n cx dX12_readsNumbers_0 rfl (lv_at hl 2 rfl) ?_
  refine q_ifne (tgt := 14) cx ⟨by decide, by decide⟩ dX12_readsNumbers_1 (by decide) (fun c328 => ?_) (fun c328 => ?_)
  · refine q_ild_n cx dX12_readsNumbers_14 rfl (lv_at hl 2 rfl) ?_
    refine q_iconst cx dX12_readsNumbers_15 ?_
    refine q_iclt (tgt := 34) cx ⟨by decide, by decide⟩ ⟨by decide, by decide⟩ dX12_readsNumbers_16 (by decide) (fun c329 => ?_) (fun c329 => ?_)
    · exact absurd c329 (by omega)
    · refine q_ild_n cx dX12_readsNumbers_19 rfl (lv_at hl 2 rfl) ?_
      refine q_iconst cx dX12_readsNumbers_20 ?_
      refine q_icgt (tgt := 34) cx ⟨by decide, by decide⟩ ⟨by decide, by decide⟩ dX12_readsNumbers_21 (by decide) (fun c330 => ?_) (fun c330 => ?_)
      · exact absurd c330 (by omega)
      · refine q_ald_n cx dX12_readsNumbers_24 rfl (lv_at hl 0 rfl) ?_
        refine q_gX12_54 cx hB hmo kmo hr3 dX12_readsNumbers_25 (fun hb331 kb331 => ?_)
        refine q_ild_n cx dX12_readsNumbers_28 rfl (lv_at hl 1 rfl) ?_
        refine q_ald_n cx dX12_readsNumbers_29 rfl (lv_at hl 0 rfl) ?_
        refine q_cVi (As := []) (rest := [.int (q_i a0), .ref c1]) cx hB (fun _ h => h) hN hmo kmo (by decide) rfl (f_mtoldN l g hN hB.2.1 B nl9 mo hmo kmo sr hsr ksr nm hnm knm bu hbu kbu tn (by omega) (by omega) ss (by omega) (by omega) xc (by omega) (by omega) hf0 hf1 hf2 hf3 hf4 hr0 hr1 hr2 hp0 htr hub hrn) q_cX12_213 q_dX12_told (by decide) rfl rfl hl.1 rfl (Nat.le_of_ble_eq_true rfl) dX12_readsNumbers_30 (fun y333 H locs f332 ry333 h334 hF hB => ?_)
        rcases h334 with h335 | h336
        · obtain ⟨ly333, uy333, z337, z338, t339, t340, t341, g342⟩ := h335
          have z343 : q_is (q_z f332 mo 3) tn := Eq.trans (hF.z hmo (by rw [kmo]; rfl)) hf0
          have z344 : q_is (q_z f332 sr 0) xc := Eq.trans (hF.z hsr (by rw [ksr]; rfl)) hf4
          have z345 : q_ir (q_r f332 mo 13) sr := Eq.trans (hF.r hmo (by rw [kmo]; rfl)) hr0
          have z346 : q_ir (q_r f332 mo 18) nm := Eq.trans (hF.r hmo (by rw [kmo]; rfl)) hr1
          have z347 : q_ir (q_r f332 mo 1) bu := Eq.trans (hF.r hmo (by rw [kmo]; rfl)) hr2
          have z348 : q_ir (q_r f332 mo 30) c1 := Eq.trans (hF.r hmo (by rw [kmo]; rfl)) hr3
          have z349 : q_ir (q_r f332 mo 31) c2 := Eq.trans (hF.r hmo (by rw [kmo]; rfl)) hr4
          have z350 : q_ir (q_r f332 mo 32) c3 := Eq.trans (hF.r hmo (by rw [kmo]; rfl)) hr5
          have g351 : tk_ub f332 bu B tn := tk_ub_tr hub (fun i9 => hF.z hbu (by rw [kbu]; rfl))
          have g352 : tk_nq f332 nm nl9 := tk_nq_tr hrn (fun i9 => hF.j hnm (by rw [knm]; rfl))
          have g353 : k_bl f f332 c1 c2 a0 := k_bl_tr hbl (fun i9 => hF.z hc1 (by rw [kc1]; rfl)) (fun i9 => hF.z hc2 (by rw [kc2]; rfl))
          obtain ⟨x354, ex354⟩ : ∃ zz, q_is (q_z f332 mo 5) zz := ⟨_, q_isr _⟩
          obtain ⟨lx354, ux354⟩ := q_isb ex354 (q_fib hB.2.1 hmo kmo (by decide) rfl)
          obtain ⟨-, l0x354, u0x354, -, -⟩ := tk_tr_n g342 ex354
          refine q_iast (lo := (-2147483648)) (hi := 2147483647) (n := 60) cx hB hc1 kc1 (by decide) rfl rfl (by omega) (by omega) (by decide) rfl ⟨by omega, by omega⟩ (by omega) (by omega) (q_inWi (lo := 0) (hi := 58) (by decide) (by omega) (by omega)) dX12_readsNumbers_33 (fun H locs f355 ef355 z356 hB => ?_)
          have z357 : q_is (q_z f355 mo 3) tn := by rw [ef355, q_setz (Or.inl (fun q => by rw [q, kc1] at kmo; exact absurd kmo (by decide)))]; exact z343
          have z358 : q_is (q_z f355 sr 0) xc := by rw [ef355, q_setz (Or.inl (fun q => by rw [q, kc1] at ksr; exact absurd ksr (by decide)))]; exact z344
          have z359 : q_is (q_z f355 mo 8) 0 := by rw [ef355, q_setz (Or.inl (fun q => by rw [q, kc1] at kmo; exact absurd kmo (by decide)))]; exact z337
          have z360 : q_is (q_z f355 mo 9) (-1) := by rw [ef355, q_setz (Or.inl (fun q => by rw [q, kc1] at kmo; exact absurd kmo (by decide)))]; exact z338
          have z361 : q_is (q_z f355 mo 5) x354 := by rw [ef355, q_setz (Or.inl (fun q => by rw [q, kc1] at kmo; exact absurd kmo (by decide)))]; exact ex354
          have z362 : q_ir (q_r f355 mo 13) sr := by rw [ef355, q_setr (Or.inl (fun q => by rw [q, kc1] at kmo; exact absurd kmo (by decide)))]; exact z345
          have z363 : q_ir (q_r f355 mo 18) nm := by rw [ef355, q_setr (Or.inl (fun q => by rw [q, kc1] at kmo; exact absurd kmo (by decide)))]; exact z346
          have z364 : q_ir (q_r f355 mo 1) bu := by rw [ef355, q_setr (Or.inl (fun q => by rw [q, kc1] at kmo; exact absurd kmo (by decide)))]; exact z347
          have z365 : q_ir (q_r f355 mo 30) c1 := by rw [ef355, q_setr (Or.inl (fun q => by rw [q, kc1] at kmo; exact absurd kmo (by decide)))]; exact z348
          have z366 : q_ir (q_r f355 mo 31) c2 := by rw [ef355, q_setr (Or.inl (fun q => by rw [q, kc1] at kmo; exact absurd kmo (by decide)))]; exact z349
          have z367 : q_ir (q_r f355 mo 32) c3 := by rw [ef355, q_setr (Or.inl (fun q => by rw [q, kc1] at kmo; exact absurd kmo (by decide)))]; exact z350
          have g368 : tk_ub f355 bu B tn := tk_ub_tr g351 (fun i9 => by rw [ef355, q_setz (Or.inl (fun q => by rw [q, kc1] at kbu; exact absurd kbu (by decide)))])
          have g369 : tk_nq f355 nm nl9 := tk_nq_tr g352 (fun i9 => by rw [ef355, q_setj (Or.inl (fun q => by rw [q, kc1] at knm; exact absurd knm (by decide)))])
          have g370 : k_bl f f355 c1 c2 a0 := k_bl_s1 g353 ef355 (by omega) (fun q => q_kne (k := 163) (k2 := 162) (by decide) kc2 kc1 q)
          have g371 : tk_tr f355 mo B tn := tk_tr_tr g342 (by rw [ef355, q_setz (Or.inl (fun q => by rw [q, kc1] at kmo; exact absurd kmo (by decide)))]) (by rw [ef355, q_setz (Or.inl (fun q => by rw [q, kc1] at kmo; exact absurd kmo (by decide)))]) (by rw [ef355, q_setz (Or.inl (fun q => by rw [q, kc1] at kmo; exact absurd kmo (by decide)))]) (by rw [ef355, q_setz (Or.inl (fun q => by rw [q, kc1] at kmo; exact absurd kmo (by decide)))]) (by rw [ef355, q_setj (Or.inl (fun q => by rw [q, kc1] at kmo; exact absurd kmo (by decide)))])
          refine q_ild_n cx dX12_readsNumbers_34 rfl (lv_at hl 2 rfl) ?_
          refine q_iconst cx dX12_readsNumbers_35 ?_
          refine q_iceq (tgt := 44) cx ⟨by decide, by decide⟩ ⟨by decide, by decide⟩ dX12_readsNumbers_36 (by decide) (fun c372 => ?_) (fun c372 => ?_)
          · exact absurd c372 (by omega)
          · refine q_ild_n cx dX12_readsNumbers_39 rfl (lv_at hl 2 rfl) ?_
            refine q_iconst cx dX12_readsNumbers_40 ?_
            refine q_icne (tgt := 54) cx ⟨by decide, by decide⟩ ⟨by decide, by decide⟩ dX12_readsNumbers_41 (by decide) (fun c373 => ?_) (fun c373 => ?_)
            · exact absurd c373 (by omega)
            · refine q_ald_n cx dX12_readsNumbers_44 rfl (lv_at hl 0 rfl) ?_
              refine q_gX12_57 cx hB hmo kmo z366 dX12_readsNumbers_45 (fun hb374 kb374 => ?_)
              refine q_ild_n cx dX12_readsNumbers_48 rfl (lv_at hl 1 rfl) ?_
              refine q_ald_n cx dX12_readsNumbers_49 rfl (lv_at hl 0 rfl) ?_
              refine q_cVi (As := []) (rest := [.int (q_i a0), .ref c2]) cx hB (fun _ h => h) hN hmo kmo (by decide) rfl (f_mtoldN l g hN hB.2.1 B nl9 mo hmo kmo sr hsr ksr nm hnm knm bu hbu kbu tn (by omega) (by omega) x354 (by omega) (by omega) xc (by omega) (by omega) z357 z361 z359 z360 z358 z362 z363 z364 hp0 g371 g368 g369) q_cX12_213 q_dX12_told (by decide) rfl rfl hl.1 rfl (Nat.le_of_ble_eq_true rfl) dX12_readsNumbers_50 (fun y376 H locs f375 ry376 h377 hF hB => ?_)
              rcases h377 with h378 | h379
              · obtain ⟨ly376, uy376, z380, z381, t382, t383, t384, g385⟩ := h378
                have z386 : q_is (q_z f375 mo 3) tn := Eq.trans (hF.z hmo (by rw [kmo]; rfl)) z357
                have z387 : q_is (q_z f375 sr 0) xc := Eq.trans (hF.z hsr (by rw [ksr]; rfl)) z358
                have z388 : q_is (q_z f375 c1 (Int.toNat a0)) y333 := Eq.trans (hF.z hc1 (by rw [kc1]; rfl)) z356
                have z389 : q_ir (q_r f375 mo 13) sr := Eq.trans (hF.r hmo (by rw [kmo]; rfl)) z362
                have z390 : q_ir (q_r f375 mo 18) nm := Eq.trans (hF.r hmo (by rw [kmo]; rfl)) z363
                have z391 : q_ir (q_r f375 mo 1) bu := Eq.trans (hF.r hmo (by rw [kmo]; rfl)) z364
                have z392 : q_ir (q_r f375 mo 30) c1 := Eq.trans (hF.r hmo (by rw [kmo]; rfl)) z365
                have z393 : q_ir (q_r f375 mo 31) c2 := Eq.trans (hF.r hmo (by rw [kmo]; rfl)) z366
                have z394 : q_ir (q_r f375 mo 32) c3 := Eq.trans (hF.r hmo (by rw [kmo]; rfl)) z367
                have g395 : tk_ub f375 bu B tn := tk_ub_tr g368 (fun i9 => hF.z hbu (by rw [kbu]; rfl))
                have g396 : tk_nq f375 nm nl9 := tk_nq_tr g369 (fun i9 => hF.j hnm (by rw [knm]; rfl))
                have g397 : k_bl f f375 c1 c2 a0 := k_bl_tr g370 (fun i9 => hF.z hc1 (by rw [kc1]; rfl)) (fun i9 => hF.z hc2 (by rw [kc2]; rfl))
                obtain ⟨x398, ex398⟩ : ∃ zz, q_is (q_z f375 mo 5) zz := ⟨_, q_isr _⟩
                obtain ⟨lx398, ux398⟩ := q_isb ex398 (q_fib hB.2.1 hmo kmo (by decide) rfl)
                obtain ⟨-, l0x398, u0x398, -, -⟩ := tk_tr_n g385 ex398
                refine q_iast (lo := (-2147483648)) (hi := 2147483647) (n := 60) cx hB hc2 kc2 (by decide) rfl rfl (by omega) (by omega) (by decide) rfl ⟨by omega, by omega⟩ (by omega) (by omega) (q_inWi (lo := 0) (hi := 58) (by decide) (by omega) (by omega)) dX12_readsNumbers_53 (fun H locs f399 ef399 z400 hB => ?_)
                have z401 : q_is (q_z f399 mo 3) tn := by rw [ef399, q_setz (Or.inl (fun q => by rw [q, kc2] at kmo; exact absurd kmo (by decide)))]; exact z386
                have z402 : q_is (q_z f399 sr 0) xc := by rw [ef399, q_setz (Or.inl (fun q => by rw [q, kc2] at ksr; exact absurd ksr (by decide)))]; exact z387
                have z403 : q_is (q_z f399 c1 (Int.toNat a0)) y333 := by rw [ef399, q_setz (Or.inl (fun q => by rw [q, kc2] at kc1; exact absurd kc1 (by decide)))]; exact z388
                have z404 : q_is (q_z f399 mo 8) 0 := by rw [ef399, q_setz (Or.inl (fun q => by rw [q, kc2] at kmo; exact absurd kmo (by decide)))]; exact z380
                have z405 : q_is (q_z f399 mo 9) (-1) := by rw [ef399, q_setz (Or.inl (fun q => by rw [q, kc2] at kmo; exact absurd kmo (by decide)))]; exact z381
                have z406 : q_is (q_z f399 mo 5) x398 := by rw [ef399, q_setz (Or.inl (fun q => by rw [q, kc2] at kmo; exact absurd kmo (by decide)))]; exact ex398
                have z407 : q_ir (q_r f399 mo 13) sr := by rw [ef399, q_setr (Or.inl (fun q => by rw [q, kc2] at kmo; exact absurd kmo (by decide)))]; exact z389
                have z408 : q_ir (q_r f399 mo 18) nm := by rw [ef399, q_setr (Or.inl (fun q => by rw [q, kc2] at kmo; exact absurd kmo (by decide)))]; exact z390
                have z409 : q_ir (q_r f399 mo 1) bu := by rw [ef399, q_setr (Or.inl (fun q => by rw [q, kc2] at kmo; exact absurd kmo (by decide)))]; exact z391
                have z410 : q_ir (q_r f399 mo 30) c1 := by rw [ef399, q_setr (Or.inl (fun q => by rw [q, kc2] at kmo; exact absurd kmo (by decide)))]; exact z392
                have z411 : q_ir (q_r f399 mo 31) c2 := by rw [ef399, q_setr (Or.inl (fun q => by rw [q, kc2] at kmo; exact absurd kmo (by decide)))]; exact z393
                have z412 : q_ir (q_r f399 mo 32) c3 := by rw [ef399, q_setr (Or.inl (fun q => by rw [q, kc2] at kmo; exact absurd kmo (by decide)))]; exact z394
                have g413 : tk_ub f399 bu B tn := tk_ub_tr g395 (fun i9 => by rw [ef399, q_setz (Or.inl (fun q => by rw [q, kc2] at kbu; exact absurd kbu (by decide)))])
                have g414 : tk_nq f399 nm nl9 := tk_nq_tr g396 (fun i9 => by rw [ef399, q_setj (Or.inl (fun q => by rw [q, kc2] at knm; exact absurd knm (by decide)))])
                have g415 : k_bl f f399 c1 c2 a0 := k_bl_s2 g397 ef399 (by omega) (fun q => q_kne (k := 162) (k2 := 163) (by decide) kc1 kc2 q)
                have g416 : tk_tr f399 mo B tn := tk_tr_tr g385 (by rw [ef399, q_setz (Or.inl (fun q => by rw [q, kc2] at kmo; exact absurd kmo (by decide)))]) (by rw [ef399, q_setz (Or.inl (fun q => by rw [q, kc2] at kmo; exact absurd kmo (by decide)))]) (by rw [ef399, q_setz (Or.inl (fun q => by rw [q, kc2] at kmo; exact absurd kmo (by decide)))]) (by rw [ef399, q_setz (Or.inl (fun q => by rw [q, kc2] at kmo; exact absurd kmo (by decide)))]) (by rw [ef399, q_setj (Or.inl (fun q => by rw [q, kc2] at kmo; exact absurd kmo (by decide)))])
                refine q_ild_n cx dX12_readsNumbers_54 rfl (lv_at hl 2 rfl) ?_
                refine q_iconst cx dX12_readsNumbers_55 ?_
                refine q_iclt (tgt := 74) cx ⟨by decide, by decide⟩ ⟨by decide, by decide⟩ dX12_readsNumbers_56 (by decide) (fun c417 => ?_) (fun c417 => ?_)
                · refine q_ild_n cx dX12_readsNumbers_74 rfl (lv_at hl 2 rfl) ?_
                  refine q_iconst cx dX12_readsNumbers_75 ?_
                  refine q_iceq (tgt := 84) cx ⟨by decide, by decide⟩ ⟨by decide, by decide⟩ dX12_readsNumbers_76 (by decide) (fun c418 => ?_) (fun c418 => ?_)
                  · exact absurd c418 (by omega)
                  · refine q_ild_n cx dX12_readsNumbers_79 rfl (lv_at hl 2 rfl) ?_
                    refine q_iconst cx dX12_readsNumbers_80 ?_
                    refine q_icne (tgt := 94) cx ⟨by decide, by decide⟩ ⟨by decide, by decide⟩ dX12_readsNumbers_81 (by decide) (fun c419 => ?_) (fun c419 => ?_)
                    · exact absurd c419 (by omega)
                    · refine q_ald_n cx dX12_readsNumbers_84 rfl (lv_at hl 0 rfl) ?_
                      refine q_gX12_60 cx hB hmo kmo z412 dX12_readsNumbers_85 (fun hb420 kb420 => ?_)
                      refine q_ild_n cx dX12_readsNumbers_88 rfl (lv_at hl 1 rfl) ?_
                      refine q_ald_n cx dX12_readsNumbers_89 rfl (lv_at hl 0 rfl) ?_
                      refine q_cVi (As := []) (rest := [.int (q_i a0), .ref c3]) cx hB (fun _ h => h) hN hmo kmo (by decide) rfl (f_many l g hN hB.2.1 B mo hmo kmo bu hbu kbu tn (by omega) (by omega) x398 (by omega) (by omega) z401 z406 z404 z405 z409 g416 g413) q_cX12_482 q_dX12_any (by decide) rfl rfl hl.1 rfl (Nat.le_of_ble_eq_true rfl) dX12_readsNumbers_90 (fun y422 H locs f421 ry422 h423 hF hB => ?_)
                      rcases h423 with h424 | h425
                      · obtain ⟨ly422, uy422, z426, z427, t428, g429⟩ := h424
                        have z430 : q_is (q_z f421 mo 3) tn := Eq.trans (hF.z hmo (by rw [kmo]; rfl)) z401
                        have z431 : q_is (q_z f421 sr 0) xc := Eq.trans (hF.z hsr (by rw [ksr]; rfl)) z402
                        have z432 : q_is (q_z f421 c1 (Int.toNat a0)) y333 := Eq.trans (hF.z hc1 (by rw [kc1]; rfl)) z403
                        have z433 : q_is (q_z f421 c2 (Int.toNat a0)) y376 := Eq.trans (hF.z hc2 (by rw [kc2]; rfl)) z400
                        have z434 : q_ir (q_r f421 mo 13) sr := Eq.trans (hF.r hmo (by rw [kmo]; rfl)) z407
                        have z435 : q_ir (q_r f421 mo 18) nm := Eq.trans (hF.r hmo (by rw [kmo]; rfl)) z408
                        have z436 : q_ir (q_r f421 mo 1) bu := Eq.trans (hF.r hmo (by rw [kmo]; rfl)) z409
                        have z437 : q_ir (q_r f421 mo 30) c1 := Eq.trans (hF.r hmo (by rw [kmo]; rfl)) z410
                        have z438 : q_ir (q_r f421 mo 31) c2 := Eq.trans (hF.r hmo (by rw [kmo]; rfl)) z411
                        have z439 : q_ir (q_r f421 mo 32) c3 := Eq.trans (hF.r hmo (by rw [kmo]; rfl)) z412
                        have g440 : tk_ub f421 bu B tn := tk_ub_tr g413 (fun i9 => hF.z hbu (by rw [kbu]; rfl))
                        have g441 : tk_nq f421 nm nl9 := tk_nq_tr g414 (fun i9 => hF.j hnm (by rw [knm]; rfl))
                        have g442 : k_bl f f421 c1 c2 a0 := k_bl_tr g415 (fun i9 => hF.z hc1 (by rw [kc1]; rfl)) (fun i9 => hF.z hc2 (by rw [kc2]; rfl))
                        obtain ⟨x443, ex443⟩ : ∃ zz, q_is (q_z f421 mo 5) zz := ⟨_, q_isr _⟩
                        obtain ⟨lx443, ux443⟩ := q_isb ex443 (q_fib hB.2.1 hmo kmo (by decide) rfl)
                        obtain ⟨-, l0x443, u0x443, -, -⟩ := tk_tr_n g429 ex443
                        refine q_iast (lo := (-2147483648)) (hi := 2147483647) (n := 60) cx hB hc3 kc3 (by decide) rfl rfl (by omega) (by omega) (by decide) rfl ⟨by omega, by omega⟩ (by omega) (by omega) (q_inWi (lo := 0) (hi := 58) (by decide) (by omega) (by omega)) dX12_readsNumbers_93 (fun H locs f444 ef444 z445 hB => ?_)
                        have z446 : q_is (q_z f444 mo 3) tn := by rw [ef444, q_setz (Or.inl (fun q => by rw [q, kc3] at kmo; exact absurd kmo (by decide)))]; exact z430
                        have z447 : q_is (q_z f444 sr 0) xc := by rw [ef444, q_setz (Or.inl (fun q => by rw [q, kc3] at ksr; exact absurd ksr (by decide)))]; exact z431
                        have z448 : q_is (q_z f444 c1 (Int.toNat a0)) y333 := by rw [ef444, q_setz (Or.inl (fun q => by rw [q, kc3] at kc1; exact absurd kc1 (by decide)))]; exact z432
                        have z449 : q_is (q_z f444 c2 (Int.toNat a0)) y376 := by rw [ef444, q_setz (Or.inl (fun q => by rw [q, kc3] at kc2; exact absurd kc2 (by decide)))]; exact z433
                        have z450 : q_is (q_z f444 mo 8) 0 := by rw [ef444, q_setz (Or.inl (fun q => by rw [q, kc3] at kmo; exact absurd kmo (by decide)))]; exact z426
                        have z451 : q_is (q_z f444 mo 9) (-1) := by rw [ef444, q_setz (Or.inl (fun q => by rw [q, kc3] at kmo; exact absurd kmo (by decide)))]; exact z427
                        have z452 : q_is (q_z f444 mo 5) x443 := by rw [ef444, q_setz (Or.inl (fun q => by rw [q, kc3] at kmo; exact absurd kmo (by decide)))]; exact ex443
                        have z453 : q_ir (q_r f444 mo 13) sr := by rw [ef444, q_setr (Or.inl (fun q => by rw [q, kc3] at kmo; exact absurd kmo (by decide)))]; exact z434
                        have z454 : q_ir (q_r f444 mo 18) nm := by rw [ef444, q_setr (Or.inl (fun q => by rw [q, kc3] at kmo; exact absurd kmo (by decide)))]; exact z435
                        have z455 : q_ir (q_r f444 mo 1) bu := by rw [ef444, q_setr (Or.inl (fun q => by rw [q, kc3] at kmo; exact absurd kmo (by decide)))]; exact z436
                        have z456 : q_ir (q_r f444 mo 30) c1 := by rw [ef444, q_setr (Or.inl (fun q => by rw [q, kc3] at kmo; exact absurd kmo (by decide)))]; exact z437
                        have z457 : q_ir (q_r f444 mo 31) c2 := by rw [ef444, q_setr (Or.inl (fun q => by rw [q, kc3] at kmo; exact absurd kmo (by decide)))]; exact z438
                        have z458 : q_ir (q_r f444 mo 32) c3 := by rw [ef444, q_setr (Or.inl (fun q => by rw [q, kc3] at kmo; exact absurd kmo (by decide)))]; exact z439
                        have g459 : tk_ub f444 bu B tn := tk_ub_tr g440 (fun i9 => by rw [ef444, q_setz (Or.inl (fun q => by rw [q, kc3] at kbu; exact absurd kbu (by decide)))])
                        have g460 : tk_nq f444 nm nl9 := tk_nq_tr g441 (fun i9 => by rw [ef444, q_setj (Or.inl (fun q => by rw [q, kc3] at knm; exact absurd knm (by decide)))])
                        have g461 : k_bl f f444 c1 c2 a0 := k_bl_tr g442 (fun i9 => by rw [ef444, q_setz (Or.inl (fun q => by rw [q, kc3] at kc1; exact absurd kc1 (by decide)))]) (fun i9 => by rw [ef444, q_setz (Or.inl (fun q => by rw [q, kc3] at kc2; exact absurd kc2 (by decide)))])
                        have g462 : tk_tr f444 mo B tn := tk_tr_tr g429 (by rw [ef444, q_setz (Or.inl (fun q => by rw [q, kc3] at kmo; exact absurd kmo (by decide)))]) (by rw [ef444, q_setz (Or.inl (fun q => by rw [q, kc3] at kmo; exact absurd kmo (by decide)))]) (by rw [ef444, q_setz (Or.inl (fun q => by rw [q, kc3] at kmo; exact absurd kmo (by decide)))]) (by rw [ef444, q_setz (Or.inl (fun q => by rw [q, kc3] at kmo; exact absurd kmo (by decide)))]) (by rw [ef444, q_setj (Or.inl (fun q => by rw [q, kc3] at kmo; exact absurd kmo (by decide)))])
                        refine q_ild_n cx dX12_readsNumbers_94 rfl (lv_at hl 2 rfl) ?_
                        refine q_bipush cx dX12_readsNumbers_95 rfl ?_
                        refine q_icne (tgt := 113) cx ⟨by decide, by decide⟩ ⟨by decide, by decide⟩ dX12_readsNumbers_97 (by decide) (fun c463 => ?_) (fun c463 => ?_)
                        · refine q_ild_n cx dX12_readsNumbers_113 rfl (lv_at hl 2 rfl) ?_
                          refine q_bipush cx dX12_readsNumbers_114 rfl ?_
                          refine q_icne (tgt := 125) cx ⟨by decide, by decide⟩ ⟨by decide, by decide⟩ dX12_readsNumbers_116 (by decide) (fun c464 => ?_) (fun c464 => ?_)
                          · refine q_vret cx hr hlk hB dX12_readsNumbers_125 ?_
                            exact (Or.inl ⟨z450, z451, (tk_okr (tk_rd_n (by decide) (tk_ns_2 (by decide) t339 (Eq.trans (Eq.symm ex354) t341) t382 (Eq.trans (Eq.symm ex398) t384)) (tk_okx t428 ex443)) z452), (by have h70 : _ = _ := z448; have h71 : _ = _ := z449; unfold k_cc; omega), g461, g462⟩)
                          · exact absurd c464 (by omega)
                        · exact absurd c463 (by omega)
                      · obtain ⟨lz465, uz465, t466, g467⟩ := h425
                        have z468 : q_is (q_z f421 mo 3) tn := Eq.trans (hF.z hmo (by rw [kmo]; rfl)) z401
                        have z469 : q_is (q_z f421 sr 0) xc := Eq.trans (hF.z hsr (by rw [ksr]; rfl)) z402
                        have z470 : q_is (q_z f421 c1 (Int.toNat a0)) y333 := Eq.trans (hF.z hc1 (by rw [kc1]; rfl)) z403
                        have z471 : q_is (q_z f421 c2 (Int.toNat a0)) y376 := Eq.trans (hF.z hc2 (by rw [kc2]; rfl)) z400
                        have z472 : q_ir (q_r f421 mo 13) sr := Eq.trans (hF.r hmo (by rw [kmo]; rfl)) z407
                        have z473 : q_ir (q_r f421 mo 18) nm := Eq.trans (hF.r hmo (by rw [kmo]; rfl)) z408
                        have z474 : q_ir (q_r f421 mo 1) bu := Eq.trans (hF.r hmo (by rw [kmo]; rfl)) z409
                        have z475 : q_ir (q_r f421 mo 30) c1 := Eq.trans (hF.r hmo (by rw [kmo]; rfl)) z410
                        have z476 : q_ir (q_r f421 mo 31) c2 := Eq.trans (hF.r hmo (by rw [kmo]; rfl)) z411
                        have z477 : q_ir (q_r f421 mo 32) c3 := Eq.trans (hF.r hmo (by rw [kmo]; rfl)) z412
                        have g478 : tk_ub f421 bu B tn := tk_ub_tr g413 (fun i9 => hF.z hbu (by rw [kbu]; rfl))
                        have g479 : tk_nq f421 nm nl9 := tk_nq_tr g414 (fun i9 => hF.j hnm (by rw [knm]; rfl))
                        have g480 : k_bl f f421 c1 c2 a0 := k_bl_tr g415 (fun i9 => hF.z hc1 (by rw [kc1]; rfl)) (fun i9 => hF.z hc2 (by rw [kc2]; rfl))
                        obtain ⟨x481, ex481⟩ : ∃ zz, q_is (q_z f421 mo 8) zz := ⟨_, q_isr _⟩
                        obtain ⟨lx481, ux481⟩ := q_isb ex481 ⟨lz465, uz465⟩
                        obtain ⟨x482, ex482⟩ : ∃ zz, q_is (q_z f421 mo 5) zz := ⟨_, q_isr _⟩
                        obtain ⟨lx482, ux482⟩ := q_isb ex482 (q_fib hB.2.1 hmo kmo (by decide) rfl)
                        obtain ⟨x483, ex483⟩ : ∃ zz, q_is (q_z f421 mo 9) zz := ⟨_, q_isr _⟩
                        obtain ⟨lx483, ux483⟩ := q_isb ex483 (q_fib hB.2.1 hmo kmo (by decide) rfl)
                        obtain ⟨-, l0x482, u0x482, -, -⟩ := tk_tr_n g467 ex482
                        refine q_iast (lo := (-2147483648)) (hi := 2147483647) (n := 60) cx hB hc3 kc3 (by decide) rfl rfl (by omega) (by omega) (by decide) rfl ⟨by omega, by omega⟩ (by omega) (by omega) (q_inWi (lo := 0) (hi := 58) (by decide) (by omega) (by omega)) dX12_readsNumbers_93 (fun H locs f484 ef484 z485 hB => ?_)
                        have z486 : q_is (q_z f484 mo 3) tn := by rw [ef484, q_setz (Or.inl (fun q => by rw [q, kc3] at kmo; exact absurd kmo (by decide)))]; exact z468
                        have z487 : q_is (q_z f484 sr 0) xc := by rw [ef484, q_setz (Or.inl (fun q => by rw [q, kc3] at ksr; exact absurd ksr (by decide)))]; exact z469
                        have z488 : q_is (q_z f484 c1 (Int.toNat a0)) y333 := by rw [ef484, q_setz (Or.inl (fun q => by rw [q, kc3] at kc1; exact absurd kc1 (by decide)))]; exact z470
                        have z489 : q_is (q_z f484 c2 (Int.toNat a0)) y376 := by rw [ef484, q_setz (Or.inl (fun q => by rw [q, kc3] at kc2; exact absurd kc2 (by decide)))]; exact z471
                        have z490 : q_is (q_z f484 mo 8) x481 := by rw [ef484, q_setz (Or.inl (fun q => by rw [q, kc3] at kmo; exact absurd kmo (by decide)))]; exact ex481
                        have z491 : q_is (q_z f484 mo 5) x482 := by rw [ef484, q_setz (Or.inl (fun q => by rw [q, kc3] at kmo; exact absurd kmo (by decide)))]; exact ex482
                        have z492 : q_is (q_z f484 mo 9) x483 := by rw [ef484, q_setz (Or.inl (fun q => by rw [q, kc3] at kmo; exact absurd kmo (by decide)))]; exact ex483
                        have z493 : q_ir (q_r f484 mo 13) sr := by rw [ef484, q_setr (Or.inl (fun q => by rw [q, kc3] at kmo; exact absurd kmo (by decide)))]; exact z472
                        have z494 : q_ir (q_r f484 mo 18) nm := by rw [ef484, q_setr (Or.inl (fun q => by rw [q, kc3] at kmo; exact absurd kmo (by decide)))]; exact z473
                        have z495 : q_ir (q_r f484 mo 1) bu := by rw [ef484, q_setr (Or.inl (fun q => by rw [q, kc3] at kmo; exact absurd kmo (by decide)))]; exact z474
                        have z496 : q_ir (q_r f484 mo 30) c1 := by rw [ef484, q_setr (Or.inl (fun q => by rw [q, kc3] at kmo; exact absurd kmo (by decide)))]; exact z475
                        have z497 : q_ir (q_r f484 mo 31) c2 := by rw [ef484, q_setr (Or.inl (fun q => by rw [q, kc3] at kmo; exact absurd kmo (by decide)))]; exact z476
                        have z498 : q_ir (q_r f484 mo 32) c3 := by rw [ef484, q_setr (Or.inl (fun q => by rw [q, kc3] at kmo; exact absurd kmo (by decide)))]; exact z477
                        have g499 : tk_ub f484 bu B tn := tk_ub_tr g478 (fun i9 => by rw [ef484, q_setz (Or.inl (fun q => by rw [q, kc3] at kbu; exact absurd kbu (by decide)))])
                        have g500 : tk_nq f484 nm nl9 := tk_nq_tr g479 (fun i9 => by rw [ef484, q_setj (Or.inl (fun q => by rw [q, kc3] at knm; exact absurd knm (by decide)))])
                        have g501 : k_bl f f484 c1 c2 a0 := k_bl_tr g480 (fun i9 => by rw [ef484, q_setz (Or.inl (fun q => by rw [q, kc3] at kc1; exact absurd kc1 (by decide)))]) (fun i9 => by rw [ef484, q_setz (Or.inl (fun q => by rw [q, kc3] at kc2; exact absurd kc2 (by decide)))])
                        have g502 : tk_tr f484 mo B tn := tk_tr_tr g467 (by rw [ef484, q_setz (Or.inl (fun q => by rw [q, kc3] at kmo; exact absurd kmo (by decide)))]) (by rw [ef484, q_setz (Or.inl (fun q => by rw [q, kc3] at kmo; exact absurd kmo (by decide)))]) (by rw [ef484, q_setz (Or.inl (fun q => by rw [q, kc3] at kmo; exact absurd kmo (by decide)))]) (by rw [ef484, q_setz (Or.inl (fun q => by rw [q, kc3] at kmo; exact absurd kmo (by decide)))]) (by rw [ef484, q_setj (Or.inl (fun q => by rw [q, kc3] at kmo; exact absurd kmo (by decide)))])
                        refine q_ild_n cx dX12_readsNumbers_94 rfl (lv_at hl 2 rfl) ?_
                        refine q_bipush cx dX12_readsNumbers_95 rfl ?_
                        refine q_icne (tgt := 113) cx ⟨by decide, by decide⟩ ⟨by decide, by decide⟩ dX12_readsNumbers_97 (by decide) (fun c503 => ?_) (fun c503 => ?_)
                        · refine q_ild_n cx dX12_readsNumbers_113 rfl (lv_at hl 2 rfl) ?_
                          refine q_bipush cx dX12_readsNumbers_114 rfl ?_
                          refine q_icne (tgt := 125) cx ⟨by decide, by decide⟩ ⟨by decide, by decide⟩ dX12_readsNumbers_116 (by decide) (fun c504 => ?_) (fun c504 => ?_)
                          · refine q_vret cx hr hlk hB dX12_readsNumbers_125 ?_
                            exact (Or.inr ⟨(q_isl z490 (by omega)), (q_isu z490 (by omega)), (tk_erp (tk_rd_n (by decide) (tk_ns_2 (by decide) t339 (Eq.trans (Eq.symm ex354) t341) t382 (Eq.trans (Eq.symm ex398) t384)) (tk_erx t466 ex481 ex483)) z490 z492), g502⟩)
                          · exact absurd c504 (by omega)
                        · exact absurd c503 (by omega)
                · exact absurd c417 (by omega)
              · obtain ⟨qy376, lz505, uz505, t506, g507⟩ := h379
                have z508 : q_is (q_z f375 mo 3) tn := Eq.trans (hF.z hmo (by rw [kmo]; rfl)) z357
                have z509 : q_is (q_z f375 sr 0) xc := Eq.trans (hF.z hsr (by rw [ksr]; rfl)) z358
                have z510 : q_is (q_z f375 c1 (Int.toNat a0)) y333 := Eq.trans (hF.z hc1 (by rw [kc1]; rfl)) z356
                have z511 : q_ir (q_r f375 mo 13) sr := Eq.trans (hF.r hmo (by rw [kmo]; rfl)) z362
                have z512 : q_ir (q_r f375 mo 18) nm := Eq.trans (hF.r hmo (by rw [kmo]; rfl)) z363
                have z513 : q_ir (q_r f375 mo 1) bu := Eq.trans (hF.r hmo (by rw [kmo]; rfl)) z364
                have z514 : q_ir (q_r f375 mo 30) c1 := Eq.trans (hF.r hmo (by rw [kmo]; rfl)) z365
                have z515 : q_ir (q_r f375 mo 31) c2 := Eq.trans (hF.r hmo (by rw [kmo]; rfl)) z366
                have z516 : q_ir (q_r f375 mo 32) c3 := Eq.trans (hF.r hmo (by rw [kmo]; rfl)) z367
                have g517 : tk_ub f375 bu B tn := tk_ub_tr g368 (fun i9 => hF.z hbu (by rw [kbu]; rfl))
                have g518 : tk_nq f375 nm nl9 := tk_nq_tr g369 (fun i9 => hF.j hnm (by rw [knm]; rfl))
                have g519 : k_bl f f375 c1 c2 a0 := k_bl_tr g370 (fun i9 => hF.z hc1 (by rw [kc1]; rfl)) (fun i9 => hF.z hc2 (by rw [kc2]; rfl))
                obtain ⟨x520, ex520⟩ : ∃ zz, q_is (q_z f375 mo 8) zz := ⟨_, q_isr _⟩
                obtain ⟨lx520, ux520⟩ := q_isb ex520 ⟨lz505, uz505⟩
                subst qy376
                obtain ⟨x521, ex521⟩ : ∃ zz, q_is (q_z f375 mo 5) zz := ⟨_, q_isr _⟩
                obtain ⟨lx521, ux521⟩ := q_isb ex521 (q_fib hB.2.1 hmo kmo (by decide) rfl)
                obtain ⟨x522, ex522⟩ : ∃ zz, q_is (q_z f375 mo 9) zz := ⟨_, q_isr _⟩
                obtain ⟨lx522, ux522⟩ := q_isb ex522 (q_fib hB.2.1 hmo kmo (by decide) rfl)
                obtain ⟨-, l0x521, u0x521, -, -⟩ := tk_tr_n g507 ex521
                refine q_iast (lo := (-2147483648)) (hi := 2147483647) (n := 60) cx hB hc2 kc2 (by decide) rfl rfl (by omega) (by omega) (by decide) rfl ⟨by decide, by decide⟩ (by decide) (by decide) (q_inWi (lo := 0) (hi := 58) (by decide) (by omega) (by omega)) dX12_readsNumbers_53 (fun H locs f523 ef523 z524 hB => ?_)
                have z525 : q_is (q_z f523 mo 3) tn := by rw [ef523, q_setz (Or.inl (fun q => by rw [q, kc2] at kmo; exact absurd kmo (by decide)))]; exact z508
                have z526 : q_is (q_z f523 sr 0) xc := by rw [ef523, q_setz (Or.inl (fun q => by rw [q, kc2] at ksr; exact absurd ksr (by decide)))]; exact z509
                have z527 : q_is (q_z f523 c1 (Int.toNat a0)) y333 := by rw [ef523, q_setz (Or.inl (fun q => by rw [q, kc2] at kc1; exact absurd kc1 (by decide)))]; exact z510
                have z528 : q_is (q_z f523 mo 8) x520 := by rw [ef523, q_setz (Or.inl (fun q => by rw [q, kc2] at kmo; exact absurd kmo (by decide)))]; exact ex520
                have z529 : q_is (q_z f523 mo 5) x521 := by rw [ef523, q_setz (Or.inl (fun q => by rw [q, kc2] at kmo; exact absurd kmo (by decide)))]; exact ex521
                have z530 : q_is (q_z f523 mo 9) x522 := by rw [ef523, q_setz (Or.inl (fun q => by rw [q, kc2] at kmo; exact absurd kmo (by decide)))]; exact ex522
                have z531 : q_ir (q_r f523 mo 13) sr := by rw [ef523, q_setr (Or.inl (fun q => by rw [q, kc2] at kmo; exact absurd kmo (by decide)))]; exact z511
                have z532 : q_ir (q_r f523 mo 18) nm := by rw [ef523, q_setr (Or.inl (fun q => by rw [q, kc2] at kmo; exact absurd kmo (by decide)))]; exact z512
                have z533 : q_ir (q_r f523 mo 1) bu := by rw [ef523, q_setr (Or.inl (fun q => by rw [q, kc2] at kmo; exact absurd kmo (by decide)))]; exact z513
                have z534 : q_ir (q_r f523 mo 30) c1 := by rw [ef523, q_setr (Or.inl (fun q => by rw [q, kc2] at kmo; exact absurd kmo (by decide)))]; exact z514
                have z535 : q_ir (q_r f523 mo 31) c2 := by rw [ef523, q_setr (Or.inl (fun q => by rw [q, kc2] at kmo; exact absurd kmo (by decide)))]; exact z515
                have z536 : q_ir (q_r f523 mo 32) c3 := by rw [ef523, q_setr (Or.inl (fun q => by rw [q, kc2] at kmo; exact absurd kmo (by decide)))]; exact z516
                have g537 : tk_ub f523 bu B tn := tk_ub_tr g517 (fun i9 => by rw [ef523, q_setz (Or.inl (fun q => by rw [q, kc2] at kbu; exact absurd kbu (by decide)))])
                have g538 : tk_nq f523 nm nl9 := tk_nq_tr g518 (fun i9 => by rw [ef523, q_setj (Or.inl (fun q => by rw [q, kc2] at knm; exact absurd knm (by decide)))])
                have g539 : k_bl f f523 c1 c2 a0 := k_bl_s2 g519 ef523 (by omega) (fun q => q_kne (k := 162) (k2 := 163) (by decide) kc1 kc2 q)
                have g540 : tk_tr f523 mo B tn := tk_tr_tr g507 (by rw [ef523, q_setz (Or.inl (fun q => by rw [q, kc2] at kmo; exact absurd kmo (by decide)))]) (by rw [ef523, q_setz (Or.inl (fun q => by rw [q, kc2] at kmo; exact absurd kmo (by decide)))]) (by rw [ef523, q_setz (Or.inl (fun q => by rw [q, kc2] at kmo; exact absurd kmo (by decide)))]) (by rw [ef523, q_setz (Or.inl (fun q => by rw [q, kc2] at kmo; exact absurd kmo (by decide)))]) (by rw [ef523, q_setj (Or.inl (fun q => by rw [q, kc2] at kmo; exact absurd kmo (by decide)))])
                refine q_ild_n cx dX12_readsNumbers_54 rfl (lv_at hl 2 rfl) ?_
                refine q_iconst cx dX12_readsNumbers_55 ?_
                refine q_iclt (tgt := 74) cx ⟨by decide, by decide⟩ ⟨by decide, by decide⟩ dX12_readsNumbers_56 (by decide) (fun c541 => ?_) (fun c541 => ?_)
                · refine q_ild_n cx dX12_readsNumbers_74 rfl (lv_at hl 2 rfl) ?_
                  refine q_iconst cx dX12_readsNumbers_75 ?_
                  refine q_iceq (tgt := 84) cx ⟨by decide, by decide⟩ ⟨by decide, by decide⟩ dX12_readsNumbers_76 (by decide) (fun c542 => ?_) (fun c542 => ?_)
                  · exact absurd c542 (by omega)
                  · refine q_ild_n cx dX12_readsNumbers_79 rfl (lv_at hl 2 rfl) ?_
                    refine q_iconst cx dX12_readsNumbers_80 ?_
                    refine q_icne (tgt := 94) cx ⟨by decide, by decide⟩ ⟨by decide, by decide⟩ dX12_readsNumbers_81 (by decide) (fun c543 => ?_) (fun c543 => ?_)
                    · exact absurd c543 (by omega)
                    · refine q_ald_n cx dX12_readsNumbers_84 rfl (lv_at hl 0 rfl) ?_
                      refine q_gX12_60 cx hB hmo kmo z536 dX12_readsNumbers_85 (fun hb544 kb544 => ?_)
                      refine q_ild_n cx dX12_readsNumbers_88 rfl (lv_at hl 1 rfl) ?_
                      refine q_ald_n cx dX12_readsNumbers_89 rfl (lv_at hl 0 rfl) ?_
                      refine q_cVi (As := []) (rest := [.int (q_i a0), .ref c3]) cx hB (fun _ h => h) hN hmo kmo (by decide) rfl (r_any1 l g hN hB.2.1 mo hmo kmo x520 (by omega) (by omega) z528) q_cX12_482 q_dX12_any (by decide) rfl rfl hl.1 rfl (Nat.le_of_ble_eq_true rfl) dX12_readsNumbers_90 (fun y546 H locs f545 ry546 h547 hF hB => ?_)
                      obtain rfl := h547
                      refine q_iast (lo := (-2147483648)) (hi := 2147483647) (n := 60) cx hB hc3 kc3 (by decide) rfl rfl (by omega) (by omega) (by decide) rfl ⟨by omega, by omega⟩ (by omega) (by omega) (q_inWi (lo := 0) (hi := 58) (by decide) (by omega) (by omega)) dX12_readsNumbers_93 (fun H locs f548 ef548 z549 hB => ?_)
                      have z550 : q_is (q_z f548 mo 3) tn := by rw [ef548, q_setz (Or.inl (fun q => by rw [q, kc3] at kmo; exact absurd kmo (by decide)))]; exact z525
                      have z551 : q_is (q_z f548 sr 0) xc := by rw [ef548, q_setz (Or.inl (fun q => by rw [q, kc3] at ksr; exact absurd ksr (by decide)))]; exact z526
                      have z552 : q_is (q_z f548 c1 (Int.toNat a0)) y333 := by rw [ef548, q_setz (Or.inl (fun q => by rw [q, kc3] at kc1; exact absurd kc1 (by decide)))]; exact z527
                      have z553 : q_is (q_z f548 mo 8) x520 := by rw [ef548, q_setz (Or.inl (fun q => by rw [q, kc3] at kmo; exact absurd kmo (by decide)))]; exact z528
                      have z554 : q_is (q_z f548 mo 5) x521 := by rw [ef548, q_setz (Or.inl (fun q => by rw [q, kc3] at kmo; exact absurd kmo (by decide)))]; exact z529
                      have z555 : q_is (q_z f548 mo 9) x522 := by rw [ef548, q_setz (Or.inl (fun q => by rw [q, kc3] at kmo; exact absurd kmo (by decide)))]; exact z530
                      have z556 : q_is (q_z f548 c2 (Int.toNat a0)) (-1) := by rw [ef548, q_setz (Or.inl (fun q => by rw [q, kc3] at kc2; exact absurd kc2 (by decide)))]; exact z524
                      have z557 : q_ir (q_r f548 mo 13) sr := by rw [ef548, q_setr (Or.inl (fun q => by rw [q, kc3] at kmo; exact absurd kmo (by decide)))]; exact z531
                      have z558 : q_ir (q_r f548 mo 18) nm := by rw [ef548, q_setr (Or.inl (fun q => by rw [q, kc3] at kmo; exact absurd kmo (by decide)))]; exact z532
                      have z559 : q_ir (q_r f548 mo 1) bu := by rw [ef548, q_setr (Or.inl (fun q => by rw [q, kc3] at kmo; exact absurd kmo (by decide)))]; exact z533
                      have z560 : q_ir (q_r f548 mo 30) c1 := by rw [ef548, q_setr (Or.inl (fun q => by rw [q, kc3] at kmo; exact absurd kmo (by decide)))]; exact z534
                      have z561 : q_ir (q_r f548 mo 31) c2 := by rw [ef548, q_setr (Or.inl (fun q => by rw [q, kc3] at kmo; exact absurd kmo (by decide)))]; exact z535
                      have z562 : q_ir (q_r f548 mo 32) c3 := by rw [ef548, q_setr (Or.inl (fun q => by rw [q, kc3] at kmo; exact absurd kmo (by decide)))]; exact z536
                      have g563 : tk_ub f548 bu B tn := tk_ub_tr g537 (fun i9 => by rw [ef548, q_setz (Or.inl (fun q => by rw [q, kc3] at kbu; exact absurd kbu (by decide)))])
                      have g564 : tk_nq f548 nm nl9 := tk_nq_tr g538 (fun i9 => by rw [ef548, q_setj (Or.inl (fun q => by rw [q, kc3] at knm; exact absurd knm (by decide)))])
                      have g565 : k_bl f f548 c1 c2 a0 := k_bl_tr g539 (fun i9 => by rw [ef548, q_setz (Or.inl (fun q => by rw [q, kc3] at kc1; exact absurd kc1 (by decide)))]) (fun i9 => by rw [ef548, q_setz (Or.inl (fun q => by rw [q, kc3] at kc2; exact absurd kc2 (by decide)))])
                      have g566 : tk_tr f548 mo B tn := tk_tr_tr g540 (by rw [ef548, q_setz (Or.inl (fun q => by rw [q, kc3] at kmo; exact absurd kmo (by decide)))]) (by rw [ef548, q_setz (Or.inl (fun q => by rw [q, kc3] at kmo; exact absurd kmo (by decide)))]) (by rw [ef548, q_setz (Or.inl (fun q => by rw [q, kc3] at kmo; exact absurd kmo (by decide)))]) (by rw [ef548, q_setz (Or.inl (fun q => by rw [q, kc3] at kmo; exact absurd kmo (by decide)))]) (by rw [ef548, q_setj (Or.inl (fun q => by rw [q, kc3] at kmo; exact absurd kmo (by decide)))])
                      refine q_ild_n cx dX12_readsNumbers_94 rfl (lv_at hl 2 rfl) ?_
                      refine q_bipush cx dX12_readsNumbers_95 rfl ?_
                      refine q_icne (tgt := 113) cx ⟨by decide, by decide⟩ ⟨by decide, by decide⟩ dX12_readsNumbers_97 (by decide) (fun c567 => ?_) (fun c567 => ?_)
                      · refine q_ild_n cx dX12_readsNumbers_113 rfl (lv_at hl 2 rfl) ?_
                        refine q_bipush cx dX12_readsNumbers_114 rfl ?_
                        refine q_icne (tgt := 125) cx ⟨by decide, by decide⟩ ⟨by decide, by decide⟩ dX12_readsNumbers_116 (by decide) (fun c568 => ?_) (fun c568 => ?_)
                        · refine q_vret cx hr hlk hB dX12_readsNumbers_125 ?_
                          exact (Or.inr ⟨(q_isl z553 (by omega)), (q_isu z553 (by omega)), (tk_erp (tk_rd_e (by decide) (tk_ns_e2 (by decide) t339 (Eq.trans (Eq.symm ex354) t341) (tk_erx t506 ex520 ex522))) z553 z555), g566⟩)
                        · exact absurd c568 (by omega)
                      · exact absurd c567 (by omega)
                · exact absurd c541 (by omega)
        · obtain ⟨qy333, lz569, uz569, t570, g571⟩ := h336
          have z572 : q_is (q_z f332 mo 3) tn := Eq.trans (hF.z hmo (by rw [kmo]; rfl)) hf0
          have z573 : q_is (q_z f332 sr 0) xc := Eq.trans (hF.z hsr (by rw [ksr]; rfl)) hf4
          have z574 : q_ir (q_r f332 mo 13) sr := Eq.trans (hF.r hmo (by rw [kmo]; rfl)) hr0
          have z575 : q_ir (q_r f332 mo 18) nm := Eq.trans (hF.r hmo (by rw [kmo]; rfl)) hr1
          have z576 : q_ir (q_r f332 mo 1) bu := Eq.trans (hF.r hmo (by rw [kmo]; rfl)) hr2
          have z577 : q_ir (q_r f332 mo 30) c1 := Eq.trans (hF.r hmo (by rw [kmo]; rfl)) hr3
          have z578 : q_ir (q_r f332 mo 31) c2 := Eq.trans (hF.r hmo (by rw [kmo]; rfl)) hr4
          have z579 : q_ir (q_r f332 mo 32) c3 := Eq.trans (hF.r hmo (by rw [kmo]; rfl)) hr5
          have g580 : tk_ub f332 bu B tn := tk_ub_tr hub (fun i9 => hF.z hbu (by rw [kbu]; rfl))
          have g581 : tk_nq f332 nm nl9 := tk_nq_tr hrn (fun i9 => hF.j hnm (by rw [knm]; rfl))
          have g582 : k_bl f f332 c1 c2 a0 := k_bl_tr hbl (fun i9 => hF.z hc1 (by rw [kc1]; rfl)) (fun i9 => hF.z hc2 (by rw [kc2]; rfl))
          obtain ⟨x583, ex583⟩ : ∃ zz, q_is (q_z f332 mo 8) zz := ⟨_, q_isr _⟩
          obtain ⟨lx583, ux583⟩ := q_isb ex583 ⟨lz569, uz569⟩
          subst qy333
          obtain ⟨x584, ex584⟩ : ∃ zz, q_is (q_z f332 mo 5) zz := ⟨_, q_isr _⟩
          obtain ⟨lx584, ux584⟩ := q_isb ex584 (q_fib hB.2.1 hmo kmo (by decide) rfl)
          obtain ⟨x585, ex585⟩ : ∃ zz, q_is (q_z f332 mo 9) zz := ⟨_, q_isr _⟩
          obtain ⟨lx585, ux585⟩ := q_isb ex585 (q_fib hB.2.1 hmo kmo (by decide) rfl)
          obtain ⟨-, l0x584, u0x584, -, -⟩ := tk_tr_n g571 ex584
          refine q_iast (lo := (-2147483648)) (hi := 2147483647) (n := 60) cx hB hc1 kc1 (by decide) rfl rfl (by omega) (by omega) (by decide) rfl ⟨by decide, by decide⟩ (by decide) (by decide) (q_inWi (lo := 0) (hi := 58) (by decide) (by omega) (by omega)) dX12_readsNumbers_33 (fun H locs f586 ef586 z587 hB => ?_)
          have z588 : q_is (q_z f586 mo 3) tn := by rw [ef586, q_setz (Or.inl (fun q => by rw [q, kc1] at kmo; exact absurd kmo (by decide)))]; exact z572
          have z589 : q_is (q_z f586 sr 0) xc := by rw [ef586, q_setz (Or.inl (fun q => by rw [q, kc1] at ksr; exact absurd ksr (by decide)))]; exact z573
          have z590 : q_is (q_z f586 mo 8) x583 := by rw [ef586, q_setz (Or.inl (fun q => by rw [q, kc1] at kmo; exact absurd kmo (by decide)))]; exact ex583
          have z591 : q_is (q_z f586 mo 5) x584 := by rw [ef586, q_setz (Or.inl (fun q => by rw [q, kc1] at kmo; exact absurd kmo (by decide)))]; exact ex584
          have z592 : q_is (q_z f586 mo 9) x585 := by rw [ef586, q_setz (Or.inl (fun q => by rw [q, kc1] at kmo; exact absurd kmo (by decide)))]; exact ex585
          have z593 : q_ir (q_r f586 mo 13) sr := by rw [ef586, q_setr (Or.inl (fun q => by rw [q, kc1] at kmo; exact absurd kmo (by decide)))]; exact z574
          have z594 : q_ir (q_r f586 mo 18) nm := by rw [ef586, q_setr (Or.inl (fun q => by rw [q, kc1] at kmo; exact absurd kmo (by decide)))]; exact z575
          have z595 : q_ir (q_r f586 mo 1) bu := by rw [ef586, q_setr (Or.inl (fun q => by rw [q, kc1] at kmo; exact absurd kmo (by decide)))]; exact z576
          have z596 : q_ir (q_r f586 mo 30) c1 := by rw [ef586, q_setr (Or.inl (fun q => by rw [q, kc1] at kmo; exact absurd kmo (by decide)))]; exact z577
          have z597 : q_ir (q_r f586 mo 31) c2 := by rw [ef586, q_setr (Or.inl (fun q => by rw [q, kc1] at kmo; exact absurd kmo (by decide)))]; exact z578
          have z598 : q_ir (q_r f586 mo 32) c3 := by rw [ef586, q_setr (Or.inl (fun q => by rw [q, kc1] at kmo; exact absurd kmo (by decide)))]; exact z579
          have g599 : tk_ub f586 bu B tn := tk_ub_tr g580 (fun i9 => by rw [ef586, q_setz (Or.inl (fun q => by rw [q, kc1] at kbu; exact absurd kbu (by decide)))])
          have g600 : tk_nq f586 nm nl9 := tk_nq_tr g581 (fun i9 => by rw [ef586, q_setj (Or.inl (fun q => by rw [q, kc1] at knm; exact absurd knm (by decide)))])
          have g601 : k_bl f f586 c1 c2 a0 := k_bl_s1 g582 ef586 (by omega) (fun q => q_kne (k := 163) (k2 := 162) (by decide) kc2 kc1 q)
          have g602 : tk_tr f586 mo B tn := tk_tr_tr g571 (by rw [ef586, q_setz (Or.inl (fun q => by rw [q, kc1] at kmo; exact absurd kmo (by decide)))]) (by rw [ef586, q_setz (Or.inl (fun q => by rw [q, kc1] at kmo; exact absurd kmo (by decide)))]) (by rw [ef586, q_setz (Or.inl (fun q => by rw [q, kc1] at kmo; exact absurd kmo (by decide)))]) (by rw [ef586, q_setz (Or.inl (fun q => by rw [q, kc1] at kmo; exact absurd kmo (by decide)))]) (by rw [ef586, q_setj (Or.inl (fun q => by rw [q, kc1] at kmo; exact absurd kmo (by decide)))])
          refine q_ild_n cx dX12_readsNumbers_34 rfl (lv_at hl 2 rfl) ?_
          refine q_iconst cx dX12_readsNumbers_35 ?_
          refine q_iceq (tgt := 44) cx ⟨by decide, by decide⟩ ⟨by decide, by decide⟩ dX12_readsNumbers_36 (by decide) (fun c603 => ?_) (fun c603 => ?_)
          · exact absurd c603 (by omega)
          · refine q_ild_n cx dX12_readsNumbers_39 rfl (lv_at hl 2 rfl) ?_
            refine q_iconst cx dX12_readsNumbers_40 ?_
            refine q_icne (tgt := 54) cx ⟨by decide, by decide⟩ ⟨by decide, by decide⟩ dX12_readsNumbers_41 (by decide) (fun c604 => ?_) (fun c604 => ?_)
            · exact absurd c604 (by omega)
            · refine q_ald_n cx dX12_readsNumbers_44 rfl (lv_at hl 0 rfl) ?_
              refine q_gX12_57 cx hB hmo kmo z597 dX12_readsNumbers_45 (fun hb605 kb605 => ?_)
              refine q_ild_n cx dX12_readsNumbers_48 rfl (lv_at hl 1 rfl) ?_
              refine q_ald_n cx dX12_readsNumbers_49 rfl (lv_at hl 0 rfl) ?_
              refine q_cVi (As := []) (rest := [.int (q_i a0), .ref c2]) cx hB (fun _ h => h) hN hmo kmo (by decide) rfl (r_told1 l g hN hB.2.1 mo hmo kmo x583 (by omega) (by omega) z590) q_cX12_213 q_dX12_told (by decide) rfl rfl hl.1 rfl (Nat.le_of_ble_eq_true rfl) dX12_readsNumbers_50 (fun y607 H locs f606 ry607 h608 hF hB => ?_)
              obtain ⟨rfl, qy607⟩ := h608
              subst qy607
              refine q_iast (lo := (-2147483648)) (hi := 2147483647) (n := 60) cx hB hc2 kc2 (by decide) rfl rfl (by omega) (by omega) (by decide) rfl ⟨by decide, by decide⟩ (by decide) (by decide) (q_inWi (lo := 0) (hi := 58) (by decide) (by omega) (by omega)) dX12_readsNumbers_53 (fun H locs f609 ef609 z610 hB => ?_)
              have z611 : q_is (q_z f609 mo 3) tn := by rw [ef609, q_setz (Or.inl (fun q => by rw [q, kc2] at kmo; exact absurd kmo (by decide)))]; exact z588
              have z612 : q_is (q_z f609 sr 0) xc := by rw [ef609, q_setz (Or.inl (fun q => by rw [q, kc2] at ksr; exact absurd ksr (by decide)))]; exact z589
              have z613 : q_is (q_z f609 mo 8) x583 := by rw [ef609, q_setz (Or.inl (fun q => by rw [q, kc2] at kmo; exact absurd kmo (by decide)))]; exact z590
              have z614 : q_is (q_z f609 mo 5) x584 := by rw [ef609, q_setz (Or.inl (fun q => by rw [q, kc2] at kmo; exact absurd kmo (by decide)))]; exact z591
              have z615 : q_is (q_z f609 mo 9) x585 := by rw [ef609, q_setz (Or.inl (fun q => by rw [q, kc2] at kmo; exact absurd kmo (by decide)))]; exact z592
              have z616 : q_is (q_z f609 c1 (Int.toNat a0)) (-1) := by rw [ef609, q_setz (Or.inl (fun q => by rw [q, kc2] at kc1; exact absurd kc1 (by decide)))]; exact z587
              have z617 : q_ir (q_r f609 mo 13) sr := by rw [ef609, q_setr (Or.inl (fun q => by rw [q, kc2] at kmo; exact absurd kmo (by decide)))]; exact z593
              have z618 : q_ir (q_r f609 mo 18) nm := by rw [ef609, q_setr (Or.inl (fun q => by rw [q, kc2] at kmo; exact absurd kmo (by decide)))]; exact z594
              have z619 : q_ir (q_r f609 mo 1) bu := by rw [ef609, q_setr (Or.inl (fun q => by rw [q, kc2] at kmo; exact absurd kmo (by decide)))]; exact z595
              have z620 : q_ir (q_r f609 mo 30) c1 := by rw [ef609, q_setr (Or.inl (fun q => by rw [q, kc2] at kmo; exact absurd kmo (by decide)))]; exact z596
              have z621 : q_ir (q_r f609 mo 31) c2 := by rw [ef609, q_setr (Or.inl (fun q => by rw [q, kc2] at kmo; exact absurd kmo (by decide)))]; exact z597
              have z622 : q_ir (q_r f609 mo 32) c3 := by rw [ef609, q_setr (Or.inl (fun q => by rw [q, kc2] at kmo; exact absurd kmo (by decide)))]; exact z598
              have g623 : tk_ub f609 bu B tn := tk_ub_tr g599 (fun i9 => by rw [ef609, q_setz (Or.inl (fun q => by rw [q, kc2] at kbu; exact absurd kbu (by decide)))])
              have g624 : tk_nq f609 nm nl9 := tk_nq_tr g600 (fun i9 => by rw [ef609, q_setj (Or.inl (fun q => by rw [q, kc2] at knm; exact absurd knm (by decide)))])
              have g625 : k_bl f f609 c1 c2 a0 := k_bl_s2 g601 ef609 (by omega) (fun q => q_kne (k := 162) (k2 := 163) (by decide) kc1 kc2 q)
              have g626 : tk_tr f609 mo B tn := tk_tr_tr g602 (by rw [ef609, q_setz (Or.inl (fun q => by rw [q, kc2] at kmo; exact absurd kmo (by decide)))]) (by rw [ef609, q_setz (Or.inl (fun q => by rw [q, kc2] at kmo; exact absurd kmo (by decide)))]) (by rw [ef609, q_setz (Or.inl (fun q => by rw [q, kc2] at kmo; exact absurd kmo (by decide)))]) (by rw [ef609, q_setz (Or.inl (fun q => by rw [q, kc2] at kmo; exact absurd kmo (by decide)))]) (by rw [ef609, q_setj (Or.inl (fun q => by rw [q, kc2] at kmo; exact absurd kmo (by decide)))])
              refine q_ild_n cx dX12_readsNumbers_54 rfl (lv_at hl 2 rfl) ?_
              refine q_iconst cx dX12_readsNumbers_55 ?_
              refine q_iclt (tgt := 74) cx ⟨by decide, by decide⟩ ⟨by decide, by decide⟩ dX12_readsNumbers_56 (by decide) (fun c627 => ?_) (fun c627 => ?_)
              · refine q_ild_n cx dX12_readsNumbers_74 rfl (lv_at hl 2 rfl) ?_
                refine q_iconst cx dX12_readsNumbers_75 ?_
                refine q_iceq (tgt := 84) cx ⟨by decide, by decide⟩ ⟨by decide, by decide⟩ dX12_readsNumbers_76 (by decide) (fun c628 => ?_) (fun c628 => ?_)
                · exact absurd c628 (by omega)
                · refine q_ild_n cx dX12_readsNumbers_79 rfl (lv_at hl 2 rfl) ?_
                  refine q_iconst cx dX12_readsNumbers_80 ?_
                  refine q_icne (tgt := 94) cx ⟨by decide, by decide⟩ ⟨by decide, by decide⟩ dX12_readsNumbers_81 (by decide) (fun c629 => ?_) (fun c629 => ?_)
                  · exact absurd c629 (by omega)
                  · refine q_ald_n cx dX12_readsNumbers_84 rfl (lv_at hl 0 rfl) ?_
                    refine q_gX12_60 cx hB hmo kmo z622 dX12_readsNumbers_85 (fun hb630 kb630 => ?_)
                    refine q_ild_n cx dX12_readsNumbers_88 rfl (lv_at hl 1 rfl) ?_
                    refine q_ald_n cx dX12_readsNumbers_89 rfl (lv_at hl 0 rfl) ?_
                    refine q_cVi (As := []) (rest := [.int (q_i a0), .ref c3]) cx hB (fun _ h => h) hN hmo kmo (by decide) rfl (r_any1 l g hN hB.2.1 mo hmo kmo x583 (by omega) (by omega) z613) q_cX12_482 q_dX12_any (by decide) rfl rfl hl.1 rfl (Nat.le_of_ble_eq_true rfl) dX12_readsNumbers_90 (fun y632 H locs f631 ry632 h633 hF hB => ?_)
                    obtain rfl := h633
                    refine q_iast (lo := (-2147483648)) (hi := 2147483647) (n := 60) cx hB hc3 kc3 (by decide) rfl rfl (by omega) (by omega) (by decide) rfl ⟨by omega, by omega⟩ (by omega) (by omega) (q_inWi (lo := 0) (hi := 58) (by decide) (by omega) (by omega)) dX12_readsNumbers_93 (fun H locs f634 ef634 z635 hB => ?_)
                    have z636 : q_is (q_z f634 mo 3) tn := by rw [ef634, q_setz (Or.inl (fun q => by rw [q, kc3] at kmo; exact absurd kmo (by decide)))]; exact z611
                    have z637 : q_is (q_z f634 sr 0) xc := by rw [ef634, q_setz (Or.inl (fun q => by rw [q, kc3] at ksr; exact absurd ksr (by decide)))]; exact z612
                    have z638 : q_is (q_z f634 mo 8) x583 := by rw [ef634, q_setz (Or.inl (fun q => by rw [q, kc3] at kmo; exact absurd kmo (by decide)))]; exact z613
                    have z639 : q_is (q_z f634 mo 5) x584 := by rw [ef634, q_setz (Or.inl (fun q => by rw [q, kc3] at kmo; exact absurd kmo (by decide)))]; exact z614
                    have z640 : q_is (q_z f634 mo 9) x585 := by rw [ef634, q_setz (Or.inl (fun q => by rw [q, kc3] at kmo; exact absurd kmo (by decide)))]; exact z615
                    have z641 : q_is (q_z f634 c1 (Int.toNat a0)) (-1) := by rw [ef634, q_setz (Or.inl (fun q => by rw [q, kc3] at kc1; exact absurd kc1 (by decide)))]; exact z616
                    have z642 : q_is (q_z f634 c2 (Int.toNat a0)) (-1) := by rw [ef634, q_setz (Or.inl (fun q => by rw [q, kc3] at kc2; exact absurd kc2 (by decide)))]; exact z610
                    have z643 : q_ir (q_r f634 mo 13) sr := by rw [ef634, q_setr (Or.inl (fun q => by rw [q, kc3] at kmo; exact absurd kmo (by decide)))]; exact z617
                    have z644 : q_ir (q_r f634 mo 18) nm := by rw [ef634, q_setr (Or.inl (fun q => by rw [q, kc3] at kmo; exact absurd kmo (by decide)))]; exact z618
                    have z645 : q_ir (q_r f634 mo 1) bu := by rw [ef634, q_setr (Or.inl (fun q => by rw [q, kc3] at kmo; exact absurd kmo (by decide)))]; exact z619
                    have z646 : q_ir (q_r f634 mo 30) c1 := by rw [ef634, q_setr (Or.inl (fun q => by rw [q, kc3] at kmo; exact absurd kmo (by decide)))]; exact z620
                    have z647 : q_ir (q_r f634 mo 31) c2 := by rw [ef634, q_setr (Or.inl (fun q => by rw [q, kc3] at kmo; exact absurd kmo (by decide)))]; exact z621
                    have z648 : q_ir (q_r f634 mo 32) c3 := by rw [ef634, q_setr (Or.inl (fun q => by rw [q, kc3] at kmo; exact absurd kmo (by decide)))]; exact z622
                    have g649 : tk_ub f634 bu B tn := tk_ub_tr g623 (fun i9 => by rw [ef634, q_setz (Or.inl (fun q => by rw [q, kc3] at kbu; exact absurd kbu (by decide)))])
                    have g650 : tk_nq f634 nm nl9 := tk_nq_tr g624 (fun i9 => by rw [ef634, q_setj (Or.inl (fun q => by rw [q, kc3] at knm; exact absurd knm (by decide)))])
                    have g651 : k_bl f f634 c1 c2 a0 := k_bl_tr g625 (fun i9 => by rw [ef634, q_setz (Or.inl (fun q => by rw [q, kc3] at kc1; exact absurd kc1 (by decide)))]) (fun i9 => by rw [ef634, q_setz (Or.inl (fun q => by rw [q, kc3] at kc2; exact absurd kc2 (by decide)))])
                    have g652 : tk_tr f634 mo B tn := tk_tr_tr g626 (by rw [ef634, q_setz (Or.inl (fun q => by rw [q, kc3] at kmo; exact absurd kmo (by decide)))]) (by rw [ef634, q_setz (Or.inl (fun q => by rw [q, kc3] at kmo; exact absurd kmo (by decide)))]) (by rw [ef634, q_setz (Or.inl (fun q => by rw [q, kc3] at kmo; exact absurd kmo (by decide)))]) (by rw [ef634, q_setz (Or.inl (fun q => by rw [q, kc3] at kmo; exact absurd kmo (by decide)))]) (by rw [ef634, q_setj (Or.inl (fun q => by rw [q, kc3] at kmo; exact absurd kmo (by decide)))])
                    refine q_ild_n cx dX12_readsNumbers_94 rfl (lv_at hl 2 rfl) ?_
                    refine q_bipush cx dX12_readsNumbers_95 rfl ?_
                    refine q_icne (tgt := 113) cx ⟨by decide, by decide⟩ ⟨by decide, by decide⟩ dX12_readsNumbers_97 (by decide) (fun c653 => ?_) (fun c653 => ?_)
                    · refine q_ild_n cx dX12_readsNumbers_113 rfl (lv_at hl 2 rfl) ?_
                      refine q_bipush cx dX12_readsNumbers_114 rfl ?_
                      refine q_icne (tgt := 125) cx ⟨by decide, by decide⟩ ⟨by decide, by decide⟩ dX12_readsNumbers_116 (by decide) (fun c654 => ?_) (fun c654 => ?_)
                      · refine q_vret cx hr hlk hB dX12_readsNumbers_125 ?_
                        exact (Or.inr ⟨(q_isl z638 (by omega)), (q_isu z638 (by omega)), (tk_erp (tk_rd_e (by decide) (tk_ns_e1 (by decide) (tk_erx t570 ex583 ex585))) z638 z640), g652⟩)
                      · exact absurd c654 (by omega)
                    · exact absurd c653 (by omega)
              · exact absurd c627 (by omega)
  · exact absurd c328 (by omega)
set_option maxHeartbeats 4000000 in
set_option maxRecDepth 100000 in
theorem f_mreadsNumbers3 (l : Launch) (g : q_G) {K : Nat → Nat} {L : List Nat} (hN : L.Nodup) {f : Nat → va_E} (hT : q_Ty g K L f) (B : Nat → Int) (nl9 : List (List Int)) (mo : Nat) (hmo : mo ∈ L) (kmo : K mo = 12) (a0 : Int) (la0 : 0 ≤ a0) (ua0 : a0 ≤ 58) (b0 : Int) (lb0 : 3 ≤ b0) (ub0 : b0 ≤ 3) (sr : Nat) (hsr : sr ∈ L) (ksr : K sr = 151) (nm : Nat) (hnm : nm ∈ L) (knm : K nm = 156) (bu : Nat) (hbu : bu ∈ L) (kbu : K bu = 150) (c1 : Nat) (hc1 : c1 ∈ L) (kc1 : K c1 = 162) (c2 : Nat) (hc2 : c2 ∈ L) (kc2 : K c2 = 163) (c3 : Nat) (hc3 : c3 ∈ L) (kc3 : K c3 = 164) (tn : Int) (ltn : 0 ≤ tn) (utn : tn ≤ 600) (ss : Int) (lss : 0 ≤ ss) (uss : ss ≤ 600) (xc : Int) (lxc : 0 ≤ xc) (uxc : xc ≤ 10) (hf0 : q_is (q_z f mo 3) tn) (hf1 : q_is (q_z f mo 5) ss) (hf2 : q_is (q_z f mo 8) 0) (hf3 : q_is (q_z f mo 9) (-1)) (hf4 : q_is (q_z f sr 0) xc) (hr0 : q_ir (q_r f mo 13) sr) (hr1 : q_ir (q_r f mo 18) nm) (hr2 : q_ir (q_r f mo 1) bu) (hr3 : q_ir (q_r f mo 30) c1) (hr4 : q_ir (q_r f mo 31) c2) (hr5 : q_ir (q_r f mo 32) c3) (hp0 : (nl9.length : Int) = xc) (htr : tk_tr f mo B tn) (hub : tk_ub f bu B tn) (hrn : tk_nq f nm nl9) : q_Ct l g K L yX12_readsNumbers cX12_readsNumbers 3 none 4 90 [.ref mo, .int (q_i a0), .int (q_i b0)] f [(12, 4, 9), (12, 12, 12), (162, 0, 58), (163, 0, 58)] (q_Pv (fun (f1 : Nat → va_E) => (q_is (q_z f1 mo 8) 0 ∧ q_is (q_z f1 mo 9) (-1) ∧ (tk_rd B tn nl9 3 ss = tk_ok (q_z f1 mo 5)) ∧ (k_cc b0 f1 c1 c2 (Int.toNat a0)) ∧ (k_bl f f1 c1 c2 a0) ∧ (tk_tr f1 mo B tn)) ∨ (1 ≤ q_z f1 mo 8 ∧ q_z f1 mo 8 ≤ 5 ∧ (tk_rd B tn nl9 3 ss = tk_er (q_z f1 mo 8) (q_z f1 mo 9)) ∧ (tk_tr f1 mo B tn)))) := by
  obtain rfl : b0 = 3 := by omega
  refine q_ofb (by decide +kernel) hN hT (Nat.le_of_ble_eq_true rfl) ?_
  intro p e s m below meth c ls cx hr hlk hB hl
  have hl : lv_has ls 3 [(0, .ref mo), (1, .int (q_i a0)), (2, .int (q_i 3))] := hl
  obtain ⟨H, hH⟩ : ∃ H : Heap, H = s.heap := ⟨_, rfl⟩
  obtain ⟨locs, hlocs⟩ : ∃ z : List Loc, z = [] := ⟨_, rfl⟩
  rw [← hH, ← hlocs] at hB
  rw [← hH, ← hlocs]
  have hbl : k_bl f f c1 c2 a0 := k_bl_rf _ _ _ _
  refine q_ild_n cx dX12_readsNumbers_0 rfl (lv_at hl 2 rfl) ?_
  refine q_ifne (tgt := 14) cx ⟨by decide, by decide⟩ dX12_readsNumbers_1 (by decide) (fun c198 => ?_) (fun c198 => ?_)
  · refine q_ild_n cx dX12_readsNumbers_14 rfl (lv_at hl 2 rfl) ?_
    refine q_iconst cx dX12_readsNumbers_15 ?_
    refine q_iclt (tgt := 34) cx ⟨by decide, by decide⟩ ⟨by decide, by decide⟩ dX12_readsNumbers_16 (by decide) (fun c199 => ?_) (fun c199 => ?_)
    · exact absurd c199 (by omega)
    · refine q_ild_n cx dX12_readsNumbers_19 rfl (lv_at hl 2 rfl) ?_
      refine q_iconst cx dX12_readsNumbers_20 ?_
      refine q_icgt (tgt := 34) cx ⟨by decide, by decide⟩ ⟨by decide, by decide⟩ dX12_readsNumbers_21 (by decide) (fun c200 => ?_) (fun c200 => ?_)
      · exact absurd c200 (by omega)
      · refine q_ald_n cx dX12_readsNumbers_24 rfl (lv_at hl 0 rfl) ?_
        refine q_gX12_54 cx hB hmo kmo hr3 dX12_readsNumbers_25 (fun hb201 kb201 => ?_)
        refine q_ild_n cx dX12_readsNumbers_28 rfl (lv_at hl 1 rfl) ?_
        refine q_ald_n cx dX12_readsNumbers_29 rfl (lv_at hl 0 rfl) ?_
        refine q_cVi (As := []) (rest := [.int (q_i a0), .ref c1]) cx hB (fun _ h => h) hN hmo kmo (by decide) rfl (f_mtoldN l g hN hB.2.1 B nl9 mo hmo kmo sr hsr ksr nm hnm knm bu hbu kbu tn (by omega) (by omega) ss (by omega) (by omega) xc (by omega) (by omega) hf0 hf1 hf2 hf3 hf4 hr0 hr1 hr2 hp0 htr hub hrn) q_cX12_213 q_dX12_told (by decide) rfl rfl hl.1 rfl (Nat.le_of_ble_eq_true rfl) dX12_readsNumbers_30 (fun y203 H locs f202 ry203 h204 hF hB => ?_)
        rcases h204 with h205 | h206
        · obtain ⟨ly203, uy203, z207, z208, t209, t210, t211, g212⟩ := h205
          have z213 : q_is (q_z f202 mo 3) tn := Eq.trans (hF.z hmo (by rw [kmo]; rfl)) hf0
          have z214 : q_is (q_z f202 sr 0) xc := Eq.trans (hF.z hsr (by rw [ksr]; rfl)) hf4
          have z215 : q_ir (q_r f202 mo 13) sr := Eq.trans (hF.r hmo (by rw [kmo]; rfl)) hr0
          have z216 : q_ir (q_r f202 mo 18) nm := Eq.trans (hF.r hmo (by rw [kmo]; rfl)) hr1
          have z217 : q_ir (q_r f202 mo 1) bu := Eq.trans (hF.r hmo (by rw [kmo]; rfl)) hr2
          have z218 : q_ir (q_r f202 mo 30) c1 := Eq.trans (hF.r hmo (by rw [kmo]; rfl)) hr3
          have z219 : q_ir (q_r f202 mo 31) c2 := Eq.trans (hF.r hmo (by rw [kmo]; rfl)) hr4
          have z220 : q_ir (q_r f202 mo 32) c3 := Eq.trans (hF.r hmo (by rw [kmo]; rfl)) hr5
          have g221 : tk_ub f202 bu B tn := tk_ub_tr hub (fun i9 => hF.z hbu (by rw [kbu]; rfl))
          have g222 : tk_nq f202 nm nl9 := tk_nq_tr hrn (fun i9 => hF.j hnm (by rw [knm]; rfl))
          have g223 : k_bl f f202 c1 c2 a0 := k_bl_tr hbl (fun i9 => hF.z hc1 (by rw [kc1]; rfl)) (fun i9 => hF.z hc2 (by rw [kc2]; rfl))
          obtain ⟨x224, ex224⟩ : ∃ zz, q_is (q_z f202 mo 5) zz := ⟨_, q_isr _⟩
          obtain ⟨lx224, ux224⟩ := q_isb ex224 (q_fib hB.2.1 hmo kmo (by decide) rfl)
          obtain ⟨-, l0x224, u0x224, -, -⟩ := tk_tr_n g212 ex224
          refine q_iast (lo := (-2147483648)) (hi := 2147483647) (n := 60) cx hB hc1 kc1 (by decide) rfl rfl (by omega) (by omega) (by decide) rfl ⟨by omega, by omega⟩ (by omega) (by omega) (q_inWi (lo := 0) (hi := 58) (by decide) (by omega) (by omega)) dX12_readsNumbers_33 (fun H locs f225 ef225 z226 hB => ?_)
          have z227 : q_is (q_z f225 mo 3) tn := by rw [ef225, q_setz (Or.inl (fun q => by rw [q, kc1] at kmo; exact absurd kmo (by decide)))]; exact z213
          have z228 : q_is (q_z f225 sr 0) xc := by rw [ef225, q_setz (Or.inl (fun q => by rw [q, kc1] at ksr; exact absurd ksr (by decide)))]; exact z214
          have z229 : q_is (q_z f225 mo 8) 0 := by rw [ef225, q_setz (Or.inl (fun q => by rw [q, kc1] at kmo; exact absurd kmo (by decide)))]; exact z207
          have z230 : q_is (q_z f225 mo 9) (-1) := by rw [ef225, q_setz (Or.inl (fun q => by rw [q, kc1] at kmo; exact absurd kmo (by decide)))]; exact z208
          have z231 : q_is (q_z f225 mo 5) x224 := by rw [ef225, q_setz (Or.inl (fun q => by rw [q, kc1] at kmo; exact absurd kmo (by decide)))]; exact ex224
          have z232 : q_ir (q_r f225 mo 13) sr := by rw [ef225, q_setr (Or.inl (fun q => by rw [q, kc1] at kmo; exact absurd kmo (by decide)))]; exact z215
          have z233 : q_ir (q_r f225 mo 18) nm := by rw [ef225, q_setr (Or.inl (fun q => by rw [q, kc1] at kmo; exact absurd kmo (by decide)))]; exact z216
          have z234 : q_ir (q_r f225 mo 1) bu := by rw [ef225, q_setr (Or.inl (fun q => by rw [q, kc1] at kmo; exact absurd kmo (by decide)))]; exact z217
          have z235 : q_ir (q_r f225 mo 30) c1 := by rw [ef225, q_setr (Or.inl (fun q => by rw [q, kc1] at kmo; exact absurd kmo (by decide)))]; exact z218
          have z236 : q_ir (q_r f225 mo 31) c2 := by rw [ef225, q_setr (Or.inl (fun q => by rw [q, kc1] at kmo; exact absurd kmo (by decide)))]; exact z219
          have z237 : q_ir (q_r f225 mo 32) c3 := by rw [ef225, q_setr (Or.inl (fun q => by rw [q, kc1] at kmo; exact absurd kmo (by decide)))]; exact z220
          have g238 : tk_ub f225 bu B tn := tk_ub_tr g221 (fun i9 => by rw [ef225, q_setz (Or.inl (fun q => by rw [q, kc1] at kbu; exact absurd kbu (by decide)))])
          have g239 : tk_nq f225 nm nl9 := tk_nq_tr g222 (fun i9 => by rw [ef225, q_setj (Or.inl (fun q => by rw [q, kc1] at knm; exact absurd knm (by decide)))])
          have g240 : k_bl f f225 c1 c2 a0 := k_bl_s1 g223 ef225 (by omega) (fun q => q_kne (k := 163) (k2 := 162) (by decide) kc2 kc1 q)
          have g241 : tk_tr f225 mo B tn := tk_tr_tr g212 (by rw [ef225, q_setz (Or.inl (fun q => by rw [q, kc1] at kmo; exact absurd kmo (by decide)))]) (by rw [ef225, q_setz (Or.inl (fun q => by rw [q, kc1] at kmo; exact absurd kmo (by decide)))]) (by rw [ef225, q_setz (Or.inl (fun q => by rw [q, kc1] at kmo; exact absurd kmo (by decide)))]) (by rw [ef225, q_setz (Or.inl (fun q => by rw [q, kc1] at kmo; exact absurd kmo (by decide)))]) (by rw [ef225, q_setj (Or.inl (fun q => by rw [q, kc1] at kmo; exact absurd kmo (by decide)))])
          refine q_ild_n cx dX12_readsNumbers_34 rfl (lv_at hl 2 rfl) ?_
          refine q_iconst cx dX12_readsNumbers_35 ?_
          refine q_iceq (tgt := 44) cx ⟨by decide, by decide⟩ ⟨by decide, by decide⟩ dX12_readsNumbers_36 (by decide) (fun c242 => ?_) (fun c242 => ?_)
          · exact absurd c242 (by omega)
          · refine q_ild_n cx dX12_readsNumbers_39 rfl (lv_at hl 2 rfl) ?_
            refine q_iconst cx dX12_readsNumbers_40 ?_
            refine q_icne (tgt := 54) cx ⟨by decide, by decide⟩ ⟨by decide, by decide⟩ dX12_readsNumbers_41 (by decide) (fun c243 => ?_) (fun c243 => ?_)
            · refine q_ild_n cx dX12_readsNumbers_54 rfl (lv_at hl 2 rfl) ?_
              refine q_iconst cx dX12_readsNumbers_55 ?_
              refine q_iclt (tgt := 74) cx ⟨by decide, by decide⟩ ⟨by decide, by decide⟩ dX12_readsNumbers_56 (by decide) (fun c244 => ?_) (fun c244 => ?_)
              · exact absurd c244 (by omega)
              · refine q_ild_n cx dX12_readsNumbers_59 rfl (lv_at hl 2 rfl) ?_
                refine q_iconst cx dX12_readsNumbers_60 ?_
                refine q_icgt (tgt := 74) cx ⟨by decide, by decide⟩ ⟨by decide, by decide⟩ dX12_readsNumbers_61 (by decide) (fun c245 => ?_) (fun c245 => ?_)
                · exact absurd c245 (by omega)
                · refine q_ald_n cx dX12_readsNumbers_64 rfl (lv_at hl 0 rfl) ?_
                  refine q_gX12_57 cx hB hmo kmo z236 dX12_readsNumbers_65 (fun hb246 kb246 => ?_)
                  refine q_ild_n cx dX12_readsNumbers_68 rfl (lv_at hl 1 rfl) ?_
                  refine q_ald_n cx dX12_readsNumbers_69 rfl (lv_at hl 0 rfl) ?_
                  refine q_cVi (As := []) (rest := [.int (q_i a0), .ref c2]) cx hB (fun _ h => h) hN hmo kmo (by decide) rfl (f_many l g hN hB.2.1 B mo hmo kmo bu hbu kbu tn (by omega) (by omega) x224 (by omega) (by omega) z227 z231 z229 z230 z234 g241 g238) q_cX12_482 q_dX12_any (by decide) rfl rfl hl.1 rfl (Nat.le_of_ble_eq_true rfl) dX12_readsNumbers_70 (fun y248 H locs f247 ry248 h249 hF hB => ?_)
                  rcases h249 with h250 | h251
                  · obtain ⟨ly248, uy248, z252, z253, t254, g255⟩ := h250
                    have z256 : q_is (q_z f247 mo 3) tn := Eq.trans (hF.z hmo (by rw [kmo]; rfl)) z227
                    have z257 : q_is (q_z f247 sr 0) xc := Eq.trans (hF.z hsr (by rw [ksr]; rfl)) z228
                    have z258 : q_is (q_z f247 c1 (Int.toNat a0)) y203 := Eq.trans (hF.z hc1 (by rw [kc1]; rfl)) z226
                    have z259 : q_ir (q_r f247 mo 13) sr := Eq.trans (hF.r hmo (by rw [kmo]; rfl)) z232
                    have z260 : q_ir (q_r f247 mo 18) nm := Eq.trans (hF.r hmo (by rw [kmo]; rfl)) z233
                    have z261 : q_ir (q_r f247 mo 1) bu := Eq.trans (hF.r hmo (by rw [kmo]; rfl)) z234
                    have z262 : q_ir (q_r f247 mo 30) c1 := Eq.trans (hF.r hmo (by rw [kmo]; rfl)) z235
                    have z263 : q_ir (q_r f247 mo 31) c2 := Eq.trans (hF.r hmo (by rw [kmo]; rfl)) z236
                    have z264 : q_ir (q_r f247 mo 32) c3 := Eq.trans (hF.r hmo (by rw [kmo]; rfl)) z237
                    have g265 : tk_ub f247 bu B tn := tk_ub_tr g238 (fun i9 => hF.z hbu (by rw [kbu]; rfl))
                    have g266 : tk_nq f247 nm nl9 := tk_nq_tr g239 (fun i9 => hF.j hnm (by rw [knm]; rfl))
                    have g267 : k_bl f f247 c1 c2 a0 := k_bl_tr g240 (fun i9 => hF.z hc1 (by rw [kc1]; rfl)) (fun i9 => hF.z hc2 (by rw [kc2]; rfl))
                    obtain ⟨x268, ex268⟩ : ∃ zz, q_is (q_z f247 mo 5) zz := ⟨_, q_isr _⟩
                    obtain ⟨lx268, ux268⟩ := q_isb ex268 (q_fib hB.2.1 hmo kmo (by decide) rfl)
                    obtain ⟨-, l0x268, u0x268, -, -⟩ := tk_tr_n g255 ex268
                    refine q_iast (lo := (-2147483648)) (hi := 2147483647) (n := 60) cx hB hc2 kc2 (by decide) rfl rfl (by omega) (by omega) (by decide) rfl ⟨by omega, by omega⟩ (by omega) (by omega) (q_inWi (lo := 0) (hi := 58) (by decide) (by omega) (by omega)) dX12_readsNumbers_73 (fun H locs f269 ef269 z270 hB => ?_)
                    have z271 : q_is (q_z f269 mo 3) tn := by rw [ef269, q_setz (Or.inl (fun q => by rw [q, kc2] at kmo; exact absurd kmo (by decide)))]; exact z256
                    have z272 : q_is (q_z f269 sr 0) xc := by rw [ef269, q_setz (Or.inl (fun q => by rw [q, kc2] at ksr; exact absurd ksr (by decide)))]; exact z257
                    have z273 : q_is (q_z f269 c1 (Int.toNat a0)) y203 := by rw [ef269, q_setz (Or.inl (fun q => by rw [q, kc2] at kc1; exact absurd kc1 (by decide)))]; exact z258
                    have z274 : q_is (q_z f269 mo 8) 0 := by rw [ef269, q_setz (Or.inl (fun q => by rw [q, kc2] at kmo; exact absurd kmo (by decide)))]; exact z252
                    have z275 : q_is (q_z f269 mo 9) (-1) := by rw [ef269, q_setz (Or.inl (fun q => by rw [q, kc2] at kmo; exact absurd kmo (by decide)))]; exact z253
                    have z276 : q_is (q_z f269 mo 5) x268 := by rw [ef269, q_setz (Or.inl (fun q => by rw [q, kc2] at kmo; exact absurd kmo (by decide)))]; exact ex268
                    have z277 : q_ir (q_r f269 mo 13) sr := by rw [ef269, q_setr (Or.inl (fun q => by rw [q, kc2] at kmo; exact absurd kmo (by decide)))]; exact z259
                    have z278 : q_ir (q_r f269 mo 18) nm := by rw [ef269, q_setr (Or.inl (fun q => by rw [q, kc2] at kmo; exact absurd kmo (by decide)))]; exact z260
                    have z279 : q_ir (q_r f269 mo 1) bu := by rw [ef269, q_setr (Or.inl (fun q => by rw [q, kc2] at kmo; exact absurd kmo (by decide)))]; exact z261
                    have z280 : q_ir (q_r f269 mo 30) c1 := by rw [ef269, q_setr (Or.inl (fun q => by rw [q, kc2] at kmo; exact absurd kmo (by decide)))]; exact z262
                    have z281 : q_ir (q_r f269 mo 31) c2 := by rw [ef269, q_setr (Or.inl (fun q => by rw [q, kc2] at kmo; exact absurd kmo (by decide)))]; exact z263
                    have z282 : q_ir (q_r f269 mo 32) c3 := by rw [ef269, q_setr (Or.inl (fun q => by rw [q, kc2] at kmo; exact absurd kmo (by decide)))]; exact z264
                    have g283 : tk_ub f269 bu B tn := tk_ub_tr g265 (fun i9 => by rw [ef269, q_setz (Or.inl (fun q => by rw [q, kc2] at kbu; exact absurd kbu (by decide)))])
                    have g284 : tk_nq f269 nm nl9 := tk_nq_tr g266 (fun i9 => by rw [ef269, q_setj (Or.inl (fun q => by rw [q, kc2] at knm; exact absurd knm (by decide)))])
                    have g285 : k_bl f f269 c1 c2 a0 := k_bl_s2 g267 ef269 (by omega) (fun q => q_kne (k := 162) (k2 := 163) (by decide) kc1 kc2 q)
                    have g286 : tk_tr f269 mo B tn := tk_tr_tr g255 (by rw [ef269, q_setz (Or.inl (fun q => by rw [q, kc2] at kmo; exact absurd kmo (by decide)))]) (by rw [ef269, q_setz (Or.inl (fun q => by rw [q, kc2] at kmo; exact absurd kmo (by decide)))]) (by rw [ef269, q_setz (Or.inl (fun q => by rw [q, kc2] at kmo; exact absurd kmo (by decide)))]) (by rw [ef269, q_setz (Or.inl (fun q => by rw [q, kc2] at kmo; exact absurd kmo (by decide)))]) (by rw [ef269, q_setj (Or.inl (fun q => by rw [q, kc2] at kmo; exact absurd kmo (by decide)))])
                    refine q_ild_n cx dX12_readsNumbers_74 rfl (lv_at hl 2 rfl) ?_
                    refine q_iconst cx dX12_readsNumbers_75 ?_
                    refine q_iceq (tgt := 84) cx ⟨by decide, by decide⟩ ⟨by decide, by decide⟩ dX12_readsNumbers_76 (by decide) (fun c287 => ?_) (fun c287 => ?_)
                    · exact absurd c287 (by omega)
                    · refine q_ild_n cx dX12_readsNumbers_79 rfl (lv_at hl 2 rfl) ?_
                      refine q_iconst cx dX12_readsNumbers_80 ?_
                      refine q_icne (tgt := 94) cx ⟨by decide, by decide⟩ ⟨by decide, by decide⟩ dX12_readsNumbers_81 (by decide) (fun c288 => ?_) (fun c288 => ?_)
                      · refine q_ild_n cx dX12_readsNumbers_94 rfl (lv_at hl 2 rfl) ?_
                        refine q_bipush cx dX12_readsNumbers_95 rfl ?_
                        refine q_icne (tgt := 113) cx ⟨by decide, by decide⟩ ⟨by decide, by decide⟩ dX12_readsNumbers_97 (by decide) (fun c289 => ?_) (fun c289 => ?_)
                        · refine q_ild_n cx dX12_readsNumbers_113 rfl (lv_at hl 2 rfl) ?_
                          refine q_bipush cx dX12_readsNumbers_114 rfl ?_
                          refine q_icne (tgt := 125) cx ⟨by decide, by decide⟩ ⟨by decide, by decide⟩ dX12_readsNumbers_116 (by decide) (fun c290 => ?_) (fun c290 => ?_)
                          · refine q_vret cx hr hlk hB dX12_readsNumbers_125 ?_
                            exact (Or.inl ⟨z274, z275, (tk_okr (tk_rd_n (by decide) (tk_ns_1 (by decide) (by decide) t209 (Eq.trans (Eq.symm ex224) t211)) (tk_okx t254 ex268)) z276), (by have h70 : _ = _ := z273; have h71 : _ = _ := z270; unfold k_cc; omega), g285, g286⟩)
                          · exact absurd c290 (by omega)
                        · exact absurd c289 (by omega)
                      · exact absurd c288 (by omega)
                  · obtain ⟨lz291, uz291, t292, g293⟩ := h251
                    have z294 : q_is (q_z f247 mo 3) tn := Eq.trans (hF.z hmo (by rw [kmo]; rfl)) z227
                    have z295 : q_is (q_z f247 sr 0) xc := Eq.trans (hF.z hsr (by rw [ksr]; rfl)) z228
                    have z296 : q_is (q_z f247 c1 (Int.toNat a0)) y203 := Eq.trans (hF.z hc1 (by rw [kc1]; rfl)) z226
                    have z297 : q_ir (q_r f247 mo 13) sr := Eq.trans (hF.r hmo (by rw [kmo]; rfl)) z232
                    have z298 : q_ir (q_r f247 mo 18) nm := Eq.trans (hF.r hmo (by rw [kmo]; rfl)) z233
                    have z299 : q_ir (q_r f247 mo 1) bu := Eq.trans (hF.r hmo (by rw [kmo]; rfl)) z234
                    have z300 : q_ir (q_r f247 mo 30) c1 := Eq.trans (hF.r hmo (by rw [kmo]; rfl)) z235
                    have z301 : q_ir (q_r f247 mo 31) c2 := Eq.trans (hF.r hmo (by rw [kmo]; rfl)) z236
                    have z302 : q_ir (q_r f247 mo 32) c3 := Eq.trans (hF.r hmo (by rw [kmo]; rfl)) z237
                    have g303 : tk_ub f247 bu B tn := tk_ub_tr g238 (fun i9 => hF.z hbu (by rw [kbu]; rfl))
                    have g304 : tk_nq f247 nm nl9 := tk_nq_tr g239 (fun i9 => hF.j hnm (by rw [knm]; rfl))
                    have g305 : k_bl f f247 c1 c2 a0 := k_bl_tr g240 (fun i9 => hF.z hc1 (by rw [kc1]; rfl)) (fun i9 => hF.z hc2 (by rw [kc2]; rfl))
                    obtain ⟨x306, ex306⟩ : ∃ zz, q_is (q_z f247 mo 8) zz := ⟨_, q_isr _⟩
                    obtain ⟨lx306, ux306⟩ := q_isb ex306 ⟨lz291, uz291⟩
                    obtain ⟨x307, ex307⟩ : ∃ zz, q_is (q_z f247 mo 5) zz := ⟨_, q_isr _⟩
                    obtain ⟨lx307, ux307⟩ := q_isb ex307 (q_fib hB.2.1 hmo kmo (by decide) rfl)
                    obtain ⟨x308, ex308⟩ : ∃ zz, q_is (q_z f247 mo 9) zz := ⟨_, q_isr _⟩
                    obtain ⟨lx308, ux308⟩ := q_isb ex308 (q_fib hB.2.1 hmo kmo (by decide) rfl)
                    obtain ⟨-, l0x307, u0x307, -, -⟩ := tk_tr_n g293 ex307
                    refine q_iast (lo := (-2147483648)) (hi := 2147483647) (n := 60) cx hB hc2 kc2 (by decide) rfl rfl (by omega) (by omega) (by decide) rfl ⟨by omega, by omega⟩ (by omega) (by omega) (q_inWi (lo := 0) (hi := 58) (by decide) (by omega) (by omega)) dX12_readsNumbers_73 (fun H locs f309 ef309 z310 hB => ?_)
                    have z311 : q_is (q_z f309 mo 3) tn := by rw [ef309, q_setz (Or.inl (fun q => by rw [q, kc2] at kmo; exact absurd kmo (by decide)))]; exact z294
                    have z312 : q_is (q_z f309 sr 0) xc := by rw [ef309, q_setz (Or.inl (fun q => by rw [q, kc2] at ksr; exact absurd ksr (by decide)))]; exact z295
                    have z313 : q_is (q_z f309 c1 (Int.toNat a0)) y203 := by rw [ef309, q_setz (Or.inl (fun q => by rw [q, kc2] at kc1; exact absurd kc1 (by decide)))]; exact z296
                    have z314 : q_is (q_z f309 mo 8) x306 := by rw [ef309, q_setz (Or.inl (fun q => by rw [q, kc2] at kmo; exact absurd kmo (by decide)))]; exact ex306
                    have z315 : q_is (q_z f309 mo 5) x307 := by rw [ef309, q_setz (Or.inl (fun q => by rw [q, kc2] at kmo; exact absurd kmo (by decide)))]; exact ex307
                    have z316 : q_is (q_z f309 mo 9) x308 := by rw [ef309, q_setz (Or.inl (fun q => by rw [q, kc2] at kmo; exact absurd kmo (by decide)))]; exact ex308
                    have z317 : q_ir (q_r f309 mo 13) sr := by rw [ef309, q_setr (Or.inl (fun q => by rw [q, kc2] at kmo; exact absurd kmo (by decide)))]; exact z297
                    have z318 : q_ir (q_r f309 mo 18) nm := by rw [ef309, q_setr (Or.inl (fun q => by rw [q, kc2] at kmo; exact absurd kmo (by decide)))]; exact z298
                    have z319 : q_ir (q_r f309 mo 1) bu := by rw [ef309, q_setr (Or.inl (fun q => by rw [q, kc2] at kmo; exact absurd kmo (by decide)))]; exact z299
                    have z320 : q_ir (q_r f309 mo 30) c1 := by rw [ef309, q_setr (Or.inl (fun q => by rw [q, kc2] at kmo; exact absurd kmo (by decide)))]; exact z300
                    have z321 : q_ir (q_r f309 mo 31) c2 := by rw [ef309, q_setr (Or.inl (fun q => by rw [q, kc2] at kmo; exact absurd kmo (by decide)))]; exact z301
                    have z322 : q_ir (q_r f309 mo 32) c3 := by rw [ef309, q_setr (Or.inl (fun q => by rw [q, kc2] at kmo; exact absurd kmo (by decide)))]; exact z302
                    have g323 : tk_ub f309 bu B tn := tk_ub_tr g303 (fun i9 => by rw [ef309, q_setz (Or.inl (fun q => by rw [q, kc2] at kbu; exact absurd kbu (by decide)))])
                    have g324 : tk_nq f309 nm nl9 := tk_nq_tr g304 (fun i9 => by rw [ef309, q_setj (Or.inl (fun q => by rw [q, kc2] at knm; exact absurd knm (by decide)))])
                    have g325 : k_bl f f309 c1 c2 a0 := k_bl_s2 g305 ef309 (by omega) (fun q => q_kne (k := 162) (k2 := 163) (by decide) kc1 kc2 q)
                    have g326 : tk_tr f309 mo B tn := tk_tr_tr g293 (by rw [ef309, q_setz (Or.inl (fun q => by rw [q, kc2] at kmo; exact absurd kmo (by decide)))]) (by rw [ef309, q_setz (Or.inl (fun q => by rw [q, kc2] at kmo; exact absurd kmo (by decide)))]) (by rw [ef309, q_setz (Or.inl (fun q => by rw [q, kc2] at kmo; exact absurd kmo (by decide)))]) (by rw [ef309, q_setz (Or.inl (fun q => by rw [q, kc2] at kmo; exact absurd kmo (by decide)))]) (by rw [ef309, q_setj (Or.inl (fun q => by rw [q, kc2] at kmo; exact absurd kmo (by decide)))])
                    refine q_ild_n cx dX12_readsNumbers_74 rfl (lv_at hl 2 rfl) ?_
                    refine q_iconst cx dX12_readsNumbers_75 ?_
                    refine q_iceq (tgt := 84) cx ⟨by decide, by decide⟩ ⟨by decide, by decide⟩ dX12_readsNumbers_76 (by decide) (fun c327 => ?_) (fun c327 => ?_)
                    · exact absurd c327 (by omega)
                    · refine q_ild_n cx dX12_readsNumbers_79 rfl (lv_at hl 2 rfl) ?_
                      refine q_iconst cx dX12_readsNumbers_80 ?_
                      refine q_icne (tgt := 94) cx ⟨by decide, by decide⟩ ⟨by decide, by decide⟩ dX12_readsNumbers_81 (by decide) (fun c328 => ?_) (fun c328 => ?_)
                      · refine q_ild_n cx dX12_readsNumbers_94 rfl (lv_at hl 2 rfl) ?_
                        refine q_bipush cx dX12_readsNumbers_95 rfl ?_
                        refine q_icne (tgt := 113) cx ⟨by decide, by decide⟩ ⟨by decide, by decide⟩ dX12_readsNumbers_97 (by decide) (fun c329 => ?_) (fun c329 => ?_)
                        · refine q_ild_n cx dX12_readsNumbers_113 rfl (lv_at hl 2 rfl) ?_
                          refine q_bipush cx dX12_readsNumbers_114 rfl ?_
                          refine q_icne (tgt := 125) cx ⟨by decide, by decide⟩ ⟨by decide, by decide⟩ dX12_readsNumbers_116 (by decide) (fun c330 => ?_) (fun c330 => ?_)
                          · refine q_vret cx hr hlk hB dX12_readsNumbers_125 ?_
                            exact (Or.inr ⟨(q_isl z314 (by omega)), (q_isu z314 (by omega)), (tk_erp (tk_rd_n (by decide) (tk_ns_1 (by decide) (by decide) t209 (Eq.trans (Eq.symm ex224) t211)) (tk_erx t292 ex306 ex308)) z314 z316), g326⟩)
                          · exact absurd c330 (by omega)
                        · exact absurd c329 (by omega)
                      · exact absurd c328 (by omega)
            · exact absurd c243 (by omega)
        · obtain ⟨qy203, lz331, uz331, t332, g333⟩ := h206
          have z334 : q_is (q_z f202 mo 3) tn := Eq.trans (hF.z hmo (by rw [kmo]; rfl)) hf0
          have z335 : q_is (q_z f202 sr 0) xc := Eq.trans (hF.z hsr (by rw [ksr]; rfl)) hf4
          have z336 : q_ir (q_r f202 mo 13) sr := Eq.trans (hF.r hmo (by rw [kmo]; rfl)) hr0
          have z337 : q_ir (q_r f202 mo 18) nm := Eq.trans (hF.r hmo (by rw [kmo]; rfl)) hr1
          have z338 : q_ir (q_r f202 mo 1) bu := Eq.trans (hF.r hmo (by rw [kmo]; rfl)) hr2
          have z339 : q_ir (q_r f202 mo 30) c1 := Eq.trans (hF.r hmo (by rw [kmo]; rfl)) hr3
          have z340 : q_ir (q_r f202 mo 31) c2 := Eq.trans (hF.r hmo (by rw [kmo]; rfl)) hr4
          have z341 : q_ir (q_r f202 mo 32) c3 := Eq.trans (hF.r hmo (by rw [kmo]; rfl)) hr5
          have g342 : tk_ub f202 bu B tn := tk_ub_tr hub (fun i9 => hF.z hbu (by rw [kbu]; rfl))
          have g343 : tk_nq f202 nm nl9 := tk_nq_tr hrn (fun i9 => hF.j hnm (by rw [knm]; rfl))
          have g344 : k_bl f f202 c1 c2 a0 := k_bl_tr hbl (fun i9 => hF.z hc1 (by rw [kc1]; rfl)) (fun i9 => hF.z hc2 (by rw [kc2]; rfl))
          obtain ⟨x345, ex345⟩ : ∃ zz, q_is (q_z f202 mo 8) zz := ⟨_, q_isr _⟩
          obtain ⟨lx345, ux345⟩ := q_isb ex345 ⟨lz331, uz331⟩
          subst qy203
          obtain ⟨x346, ex346⟩ : ∃ zz, q_is (q_z f202 mo 5) zz := ⟨_, q_isr _⟩
          obtain ⟨lx346, ux346⟩ := q_isb ex346 (q_fib hB.2.1 hmo kmo (by decide) rfl)
          obtain ⟨x347, ex347⟩ : ∃ zz, q_is (q_z f202 mo 9) zz := ⟨_, q_isr _⟩
          obtain ⟨lx347, ux347⟩ := q_isb ex347 (q_fib hB.2.1 hmo kmo (by decide) rfl)
          obtain ⟨-, l0x346, u0x346, -, -⟩ := tk_tr_n g333 ex346
          refine q_iast (lo := (-2147483648)) (hi := 2147483647) (n := 60) cx hB hc1 kc1 (by decide) rfl rfl (by omega) (by omega) (by decide) rfl ⟨by decide, by decide⟩ (by decide) (by decide) (q_inWi (lo := 0) (hi := 58) (by decide) (by omega) (by omega)) dX12_readsNumbers_33 (fun H locs f348 ef348 z349 hB => ?_)
          have z350 : q_is (q_z f348 mo 3) tn := by rw [ef348, q_setz (Or.inl (fun q => by rw [q, kc1] at kmo; exact absurd kmo (by decide)))]; exact z334
          have z351 : q_is (q_z f348 sr 0) xc := by rw [ef348, q_setz (Or.inl (fun q => by rw [q, kc1] at ksr; exact absurd ksr (by decide)))]; exact z335
          have z352 : q_is (q_z f348 mo 8) x345 := by rw [ef348, q_setz (Or.inl (fun q => by rw [q, kc1] at kmo; exact absurd kmo (by decide)))]; exact ex345
          have z353 : q_is (q_z f348 mo 5) x346 := by rw [ef348, q_setz (Or.inl (fun q => by rw [q, kc1] at kmo; exact absurd kmo (by decide)))]; exact ex346
          have z354 : q_is (q_z f348 mo 9) x347 := by rw [ef348, q_setz (Or.inl (fun q => by rw [q, kc1] at kmo; exact absurd kmo (by decide)))]; exact ex347
          have z355 : q_ir (q_r f348 mo 13) sr := by rw [ef348, q_setr (Or.inl (fun q => by rw [q, kc1] at kmo; exact absurd kmo (by decide)))]; exact z336
          have z356 : q_ir (q_r f348 mo 18) nm := by rw [ef348, q_setr (Or.inl (fun q => by rw [q, kc1] at kmo; exact absurd kmo (by decide)))]; exact z337
          have z357 : q_ir (q_r f348 mo 1) bu := by rw [ef348, q_setr (Or.inl (fun q => by rw [q, kc1] at kmo; exact absurd kmo (by decide)))]; exact z338
          have z358 : q_ir (q_r f348 mo 30) c1 := by rw [ef348, q_setr (Or.inl (fun q => by rw [q, kc1] at kmo; exact absurd kmo (by decide)))]; exact z339
          have z359 : q_ir (q_r f348 mo 31) c2 := by rw [ef348, q_setr (Or.inl (fun q => by rw [q, kc1] at kmo; exact absurd kmo (by decide)))]; exact z340
          have z360 : q_ir (q_r f348 mo 32) c3 := by rw [ef348, q_setr (Or.inl (fun q => by rw [q, kc1] at kmo; exact absurd kmo (by decide)))]; exact z341
          have g361 : tk_ub f348 bu B tn := tk_ub_tr g342 (fun i9 => by rw [ef348, q_setz (Or.inl (fun q => by rw [q, kc1] at kbu; exact absurd kbu (by decide)))])
          have g362 : tk_nq f348 nm nl9 := tk_nq_tr g343 (fun i9 => by rw [ef348, q_setj (Or.inl (fun q => by rw [q, kc1] at knm; exact absurd knm (by decide)))])
          have g363 : k_bl f f348 c1 c2 a0 := k_bl_s1 g344 ef348 (by omega) (fun q => q_kne (k := 163) (k2 := 162) (by decide) kc2 kc1 q)
          have g364 : tk_tr f348 mo B tn := tk_tr_tr g333 (by rw [ef348, q_setz (Or.inl (fun q => by rw [q, kc1] at kmo; exact absurd kmo (by decide)))]) (by rw [ef348, q_setz (Or.inl (fun q => by rw [q, kc1] at kmo; exact absurd kmo (by decide)))]) (by rw [ef348, q_setz (Or.inl (fun q => by rw [q, kc1] at kmo; exact absurd kmo (by decide)))]) (by rw [ef348, q_setz (Or.inl (fun q => by rw [q, kc1] at kmo; exact absurd kmo (by decide)))]) (by rw [ef348, q_setj (Or.inl (fun q => by rw [q, kc1] at kmo; exact absurd kmo (by decide)))])
          refine q_ild_n cx dX12_readsNumbers_34 rfl (lv_at hl 2 rfl) ?_
          refine q_iconst cx dX12_readsNumbers_35 ?_
          refine q_iceq (tgt := 44) cx ⟨by decide, by decide⟩ ⟨by decide, by decide⟩ dX12_readsNumbers_36 (by decide) (fun c365 => ?_) (fun c365 => ?_)
          · exact absurd c365 (by omega)
          · refine q_ild_n cx dX12_readsNumbers_39 rfl (lv_at hl 2 rfl) ?_
            refine q_iconst cx dX12_readsNumbers_40 ?_
            refine q_icne (tgt := 54) cx ⟨by decide, by decide⟩ ⟨by decide, by decide⟩ dX12_readsNumbers_41 (by decide) (fun c366 => ?_) (fun c366 => ?_)
            · refine q_ild_n cx dX12_readsNumbers_54 rfl (lv_at hl 2 rfl) ?_
              refine q_iconst cx dX12_readsNumbers_55 ?_
              refine q_iclt (tgt := 74) cx ⟨by decide, by decide⟩ ⟨by decide, by decide⟩ dX12_readsNumbers_56 (by decide) (fun c367 => ?_) (fun c367 => ?_)
              · exact absurd c367 (by omega)
              · refine q_ild_n cx dX12_readsNumbers_59 rfl (lv_at hl 2 rfl) ?_
                refine q_iconst cx dX12_readsNumbers_60 ?_
                refine q_icgt (tgt := 74) cx ⟨by decide, by decide⟩ ⟨by decide, by decide⟩ dX12_readsNumbers_61 (by decide) (fun c368 => ?_) (fun c368 => ?_)
                · exact absurd c368 (by omega)
                · refine q_ald_n cx dX12_readsNumbers_64 rfl (lv_at hl 0 rfl) ?_
                  refine q_gX12_57 cx hB hmo kmo z359 dX12_readsNumbers_65 (fun hb369 kb369 => ?_)
                  refine q_ild_n cx dX12_readsNumbers_68 rfl (lv_at hl 1 rfl) ?_
                  refine q_ald_n cx dX12_readsNumbers_69 rfl (lv_at hl 0 rfl) ?_
                  refine q_cVi (As := []) (rest := [.int (q_i a0), .ref c2]) cx hB (fun _ h => h) hN hmo kmo (by decide) rfl (r_any1 l g hN hB.2.1 mo hmo kmo x345 (by omega) (by omega) z352) q_cX12_482 q_dX12_any (by decide) rfl rfl hl.1 rfl (Nat.le_of_ble_eq_true rfl) dX12_readsNumbers_70 (fun y371 H locs f370 ry371 h372 hF hB => ?_)
                  obtain rfl := h372
                  refine q_iast (lo := (-2147483648)) (hi := 2147483647) (n := 60) cx hB hc2 kc2 (by decide) rfl rfl (by omega) (by omega) (by decide) rfl ⟨by omega, by omega⟩ (by omega) (by omega) (q_inWi (lo := 0) (hi := 58) (by decide) (by omega) (by omega)) dX12_readsNumbers_73 (fun H locs f373 ef373 z374 hB => ?_)
                  have z375 : q_is (q_z f373 mo 3) tn := by rw [ef373, q_setz (Or.inl (fun q => by rw [q, kc2] at kmo; exact absurd kmo (by decide)))]; exact z350
                  have z376 : q_is (q_z f373 sr 0) xc := by rw [ef373, q_setz (Or.inl (fun q => by rw [q, kc2] at ksr; exact absurd ksr (by decide)))]; exact z351
                  have z377 : q_is (q_z f373 mo 8) x345 := by rw [ef373, q_setz (Or.inl (fun q => by rw [q, kc2] at kmo; exact absurd kmo (by decide)))]; exact z352
                  have z378 : q_is (q_z f373 mo 5) x346 := by rw [ef373, q_setz (Or.inl (fun q => by rw [q, kc2] at kmo; exact absurd kmo (by decide)))]; exact z353
                  have z379 : q_is (q_z f373 mo 9) x347 := by rw [ef373, q_setz (Or.inl (fun q => by rw [q, kc2] at kmo; exact absurd kmo (by decide)))]; exact z354
                  have z380 : q_is (q_z f373 c1 (Int.toNat a0)) (-1) := by rw [ef373, q_setz (Or.inl (fun q => by rw [q, kc2] at kc1; exact absurd kc1 (by decide)))]; exact z349
                  have z381 : q_ir (q_r f373 mo 13) sr := by rw [ef373, q_setr (Or.inl (fun q => by rw [q, kc2] at kmo; exact absurd kmo (by decide)))]; exact z355
                  have z382 : q_ir (q_r f373 mo 18) nm := by rw [ef373, q_setr (Or.inl (fun q => by rw [q, kc2] at kmo; exact absurd kmo (by decide)))]; exact z356
                  have z383 : q_ir (q_r f373 mo 1) bu := by rw [ef373, q_setr (Or.inl (fun q => by rw [q, kc2] at kmo; exact absurd kmo (by decide)))]; exact z357
                  have z384 : q_ir (q_r f373 mo 30) c1 := by rw [ef373, q_setr (Or.inl (fun q => by rw [q, kc2] at kmo; exact absurd kmo (by decide)))]; exact z358
                  have z385 : q_ir (q_r f373 mo 31) c2 := by rw [ef373, q_setr (Or.inl (fun q => by rw [q, kc2] at kmo; exact absurd kmo (by decide)))]; exact z359
                  have z386 : q_ir (q_r f373 mo 32) c3 := by rw [ef373, q_setr (Or.inl (fun q => by rw [q, kc2] at kmo; exact absurd kmo (by decide)))]; exact z360
                  have g387 : tk_ub f373 bu B tn := tk_ub_tr g361 (fun i9 => by rw [ef373, q_setz (Or.inl (fun q => by rw [q, kc2] at kbu; exact absurd kbu (by decide)))])
                  have g388 : tk_nq f373 nm nl9 := tk_nq_tr g362 (fun i9 => by rw [ef373, q_setj (Or.inl (fun q => by rw [q, kc2] at knm; exact absurd knm (by decide)))])
                  have g389 : k_bl f f373 c1 c2 a0 := k_bl_s2 g363 ef373 (by omega) (fun q => q_kne (k := 162) (k2 := 163) (by decide) kc1 kc2 q)
                  have g390 : tk_tr f373 mo B tn := tk_tr_tr g364 (by rw [ef373, q_setz (Or.inl (fun q => by rw [q, kc2] at kmo; exact absurd kmo (by decide)))]) (by rw [ef373, q_setz (Or.inl (fun q => by rw [q, kc2] at kmo; exact absurd kmo (by decide)))]) (by rw [ef373, q_setz (Or.inl (fun q => by rw [q, kc2] at kmo; exact absurd kmo (by decide)))]) (by rw [ef373, q_setz (Or.inl (fun q => by rw [q, kc2] at kmo; exact absurd kmo (by decide)))]) (by rw [ef373, q_setj (Or.inl (fun q => by rw [q, kc2] at kmo; exact absurd kmo (by decide)))])
                  refine q_ild_n cx dX12_readsNumbers_74 rfl (lv_at hl 2 rfl) ?_
                  refine q_iconst cx dX12_readsNumbers_75 ?_
                  refine q_iceq (tgt := 84) cx ⟨by decide, by decide⟩ ⟨by decide, by decide⟩ dX12_readsNumbers_76 (by decide) (fun c391 => ?_) (fun c391 => ?_)
                  · exact absurd c391 (by omega)
                  · refine q_ild_n cx dX12_readsNumbers_79 rfl (lv_at hl 2 rfl) ?_
                    refine q_iconst cx dX12_readsNumbers_80 ?_
                    refine q_icne (tgt := 94) cx ⟨by decide, by decide⟩ ⟨by decide, by decide⟩ dX12_readsNumbers_81 (by decide) (fun c392 => ?_) (fun c392 => ?_)
                    · refine q_ild_n cx dX12_readsNumbers_94 rfl (lv_at hl 2 rfl) ?_
                      refine q_bipush cx dX12_readsNumbers_95 rfl ?_
                      refine q_icne (tgt := 113) cx ⟨by decide, by decide⟩ ⟨by decide, by decide⟩ dX12_readsNumbers_97 (by decide) (fun c393 => ?_) (fun c393 => ?_)
                      · refine q_ild_n cx dX12_readsNumbers_113 rfl (lv_at hl 2 rfl) ?_
                        refine q_bipush cx dX12_readsNumbers_114 rfl ?_
                        refine q_icne (tgt := 125) cx ⟨by decide, by decide⟩ ⟨by decide, by decide⟩ dX12_readsNumbers_116 (by decide) (fun c394 => ?_) (fun c394 => ?_)
                        · refine q_vret cx hr hlk hB dX12_readsNumbers_125 ?_
                          exact (Or.inr ⟨(q_isl z377 (by omega)), (q_isu z377 (by omega)), (tk_erp (tk_rd_e (by decide) (tk_ns_e1 (by decide) (tk_erx t332 ex345 ex347))) z377 z379), g390⟩)
                        · exact absurd c394 (by omega)
                      · exact absurd c393 (by omega)
                    · exact absurd c392 (by omega)
            · exact absurd c366 (by omega)
  · exact absurd c198 (by omega)
