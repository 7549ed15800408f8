set_option maxHeartbeats 4000000 in
set_option maxRecDepth 100000 in
theorem f_mreadsNumbers1 (l : Launch) (g : q_G) {K : Nat → Nat} {L : List Nat} (hN : L.Nodup) {f : Nat → va_E} (hT : q_Ty g K L f) (B : Nat → Int) (nl9 : List (List Int)) (mo : Nat) (hmo : mo ∈ L) (kmo : K mo = 12) (a0 : Int) (la0 : 0 ≤ a0) (ua0 : a0 ≤ 58) (b0 : Int) (lb0 : 1 ≤ b0) (ub0 : b0 ≤ 1) (sr : Nat) (hsr : sr ∈ L) (ksr : K sr = 151) (nm : Nat) (hnm : nm ∈ L) (knm : K nm = 156) (bu : Nat) (hbu : bu ∈ L) (kbu : K bu = 150) (c1 : Nat) (hc1 : c1 ∈ L) (kc1 : K c1 = 162) (c2 : Nat) (hc2 : c2 ∈ L) (kc2 : K c2 = 163) (c3 : Nat) (hc3 : c3 ∈ L) (kc3 : K c3 = 164) (tn : Int) (ltn : 0 ≤ tn) (utn : tn ≤ 600) (ss : Int) (lss : 0 ≤ ss) (uss : ss ≤ 600) (xc : Int) (lxc : 0 ≤ xc) (uxc : xc ≤ 10) (hf0 : q_is (q_z f mo 3) tn) (hf1 : q_is (q_z f mo 5) ss) (hf2 : q_is (q_z f mo 8) 0) (hf3 : q_is (q_z f mo 9) (-1)) (hf4 : q_is (q_z f sr 0) xc) (hr0 : q_ir (q_r f mo 13) sr) (hr1 : q_ir (q_r f mo 18) nm) (hr2 : q_ir (q_r f mo 1) bu) (hr3 : q_ir (q_r f mo 30) c1) (hr4 : q_ir (q_r f mo 31) c2) (hr5 : q_ir (q_r f mo 32) c3) (hp0 : (nl9.length : Int) = xc) (htr : tk_tr f mo B tn) (hub : tk_ub f bu B tn) (hrn : tk_nq f nm nl9) : q_Ct l g K L yX12_readsNumbers cX12_readsNumbers 3 none 4 90 [.ref mo, .int (q_i a0), .int (q_i b0)] f [(12, 4, 9), (12, 12, 12), (162, 0, 58), (163, 0, 58), (164, 0, 58)] (q_Pv (fun (f1 : Nat → va_E) => (q_is (q_z f1 mo 8) 0 ∧ q_is (q_z f1 mo 9) (-1) ∧ (tk_rd B tn nl9 1 ss = tk_ok (q_z f1 mo 5)) ∧ (k_cc b0 f1 c1 c2 (Int.toNat a0)) ∧ (k_bl f f1 c1 c2 a0) ∧ (tk_tr f1 mo B tn)) ∨ (1 ≤ q_z f1 mo 8 ∧ q_z f1 mo 8 ≤ 5 ∧ (tk_rd B tn nl9 1 ss = tk_er (q_z f1 mo 8) (q_z f1 mo 9)) ∧ (tk_tr f1 mo B tn)))) := by
  obtain rfl : b0 = 1 := by omega
  refine q_ofb (by decide +kernel) hN hT (Nat.le_of_ble_eq_true rfl) ?_
  intro p e s m below meth c ls cx hr hlk hB hl
  have hl : lv_has ls 3 [(0, .ref mo), (1, .int (q_i a0)), (2, .int (q_i 1))] := hl
  obtain ⟨H, hH⟩ : ∃ H : Heap, H = s.heap := ⟨_, rfl⟩
  obtain ⟨locs, hlocs⟩ : ∃ z : List Loc, z = [] := ⟨_, rfl⟩
  rw [← hH, ← hlocs] at hB
  rw [← hH, ← hlocs]
  have hbl : k_bl f f c1 c2 a0 := k_bl_rf _ _ _ _
  refine q_ild_n cx dX12_readsNumbers_0 rfl (lv_at hl 2 rfl) ?_
  refine q_ifne (tgt := 14) cx ⟨by decide, by decide⟩ dX12_readsNumbers_1 (by decide) (fun c323 => ?_) (fun c323 => ?_)
  · refine q_ild_n cx dX12_readsNumbers_14 rfl (lv_at hl 2 rfl) ?_
    refine q_iconst cx dX12_readsNumbers_15 ?_
    refine q_iclt (tgt := 34) cx ⟨by decide, by decide⟩ ⟨by decide, by decide⟩ dX12_readsNumbers_16 (by decide) (fun c324 => ?_) (fun c324 => ?_)
    · exact absurd c324 (by omega)
    · refine q_ild_n cx dX12_readsNumbers_19 rfl (lv_at hl 2 rfl) ?_
      refine q_iconst cx dX12_readsNumbers_20 ?_
      refine q_icgt (tgt := 34) cx ⟨by decide, by decide⟩ ⟨by decide, by decide⟩ dX12_readsNumbers_21 (by decide) (fun c325 => ?_) (fun c325 => ?_)
      · exact absurd c325 (by omega)
      · refine q_ald_n cx dX12_readsNumbers_24 rfl (lv_at hl 0 rfl) ?_
        refine q_gX12_54 cx hB hmo kmo hr3 dX12_readsNumbers_25 (fun hb326 kb326 => ?_)
        refine q_ild_n cx dX12_readsNumbers_28 rfl (lv_at hl 1 rfl) ?_
        refine q_ald_n cx dX12_readsNumbers_29 rfl (lv_at hl 0 rfl) ?_
        refine q_cVi (As := []) (rest := [.int (q_i a0), .ref c1]) cx hB (fun _ h => h) hN hmo kmo (by decide) rfl (f_mtoldN l g hN hB.2.1 B nl9 mo hmo kmo sr hsr ksr nm hnm knm bu hbu kbu tn (by omega) (by omega) ss (by omega) (by omega) xc (by omega) (by omega) hf0 hf1 hf2 hf3 hf4 hr0 hr1 hr2 hp0 htr hub hrn) q_cX12_213 q_dX12_told (by decide) rfl rfl hl.1 rfl (Nat.le_of_ble_eq_true rfl) dX12_readsNumbers_30 (fun y328 H locs f327 ry328 h329 hF hB => ?_)
        rcases h329 with h330 | h331
        · obtain ⟨ly328, uy328, z332, z333, t334, t335, t336, g337⟩ := h330
          have z338 : q_is (q_z f327 mo 3) tn := Eq.trans (hF.z hmo (by rw [kmo]; rfl)) hf0
          have z339 : q_is (q_z f327 sr 0) xc := Eq.trans (hF.z hsr (by rw [ksr]; rfl)) hf4
          have z340 : q_ir (q_r f327 mo 13) sr := Eq.trans (hF.r hmo (by rw [kmo]; rfl)) hr0
          have z341 : q_ir (q_r f327 mo 18) nm := Eq.trans (hF.r hmo (by rw [kmo]; rfl)) hr1
          have z342 : q_ir (q_r f327 mo 1) bu := Eq.trans (hF.r hmo (by rw [kmo]; rfl)) hr2
          have z343 : q_ir (q_r f327 mo 30) c1 := Eq.trans (hF.r hmo (by rw [kmo]; rfl)) hr3
          have z344 : q_ir (q_r f327 mo 31) c2 := Eq.trans (hF.r hmo (by rw [kmo]; rfl)) hr4
          have z345 : q_ir (q_r f327 mo 32) c3 := Eq.trans (hF.r hmo (by rw [kmo]; rfl)) hr5
          have g346 : tk_ub f327 bu B tn := tk_ub_tr hub (fun i9 => hF.z hbu (by rw [kbu]; rfl))
          have g347 : tk_nq f327 nm nl9 := tk_nq_tr hrn (fun i9 => hF.j hnm (by rw [knm]; rfl))
          have g348 : k_bl f f327 c1 c2 a0 := k_bl_tr hbl (fun i9 => hF.z hc1 (by rw [kc1]; rfl)) (fun i9 => hF.z hc2 (by rw [kc2]; rfl))
          obtain ⟨x349, ex349⟩ : ∃ zz, q_is (q_z f327 mo 5) zz := ⟨_, q_isr _⟩
          obtain ⟨lx349, ux349⟩ := q_isb ex349 (q_fib hB.2.1 hmo kmo (by decide) rfl)
          obtain ⟨-, l0x349, u0x349, -, -⟩ := tk_tr_n g337 ex349
          refine q_iast (lo := (-2147483648)) (hi := 2147483647) (n := 60) cx hB hc1 kc1 (by decide) rfl rfl (by omega) (by omega) (by decide) rfl ⟨by omega, by omega⟩ (by omega) (by omega) (q_inWi (lo := 0) (hi := 58) (by decide) (by omega) (by omega)) dX12_readsNumbers_33 (fun H locs f350 ef350 z351 hB => ?_)
          have z352 : q_is (q_z f350 mo 3) tn := by rw [ef350, q_setz (Or.inl (fun q => by rw [q, kc1] at kmo; exact absurd kmo (by decide)))]; exact z338
          have z353 : q_is (q_z f350 sr 0) xc := by rw [ef350, q_setz (Or.inl (fun q => by rw [q, kc1] at ksr; exact absurd ksr (by decide)))]; exact z339
          have z354 : q_is (q_z f350 mo 8) 0 := by rw [ef350, q_setz (Or.inl (fun q => by rw [q, kc1] at kmo; exact absurd kmo (by decide)))]; exact z332
          have z355 : q_is (q_z f350 mo 9) (-1) := by rw [ef350, q_setz (Or.inl (fun q => by rw [q, kc1] at kmo; exact absurd kmo (by decide)))]; exact z333
          have z356 : q_is (q_z f350 mo 5) x349 := by rw [ef350, q_setz (Or.inl (fun q => by rw [q, kc1] at kmo; exact absurd kmo (by decide)))]; exact ex349
          have z357 : q_ir (q_r f350 mo 13) sr := by rw [ef350, q_setr (Or.inl (fun q => by rw [q, kc1] at kmo; exact absurd kmo (by decide)))]; exact z340
          have z358 : q_ir (q_r f350 mo 18) nm := by rw [ef350, q_setr (Or.inl (fun q => by rw [q, kc1] at kmo; exact absurd kmo (by decide)))]; exact z341
          have z359 : q_ir (q_r f350 mo 1) bu := by rw [ef350, q_setr (Or.inl (fun q => by rw [q, kc1] at kmo; exact absurd kmo (by decide)))]; exact z342
          have z360 : q_ir (q_r f350 mo 30) c1 := by rw [ef350, q_setr (Or.inl (fun q => by rw [q, kc1] at kmo; exact absurd kmo (by decide)))]; exact z343
          have z361 : q_ir (q_r f350 mo 31) c2 := by rw [ef350, q_setr (Or.inl (fun q => by rw [q, kc1] at kmo; exact absurd kmo (by decide)))]; exact z344
          have z362 : q_ir (q_r f350 mo 32) c3 := by rw [ef350, q_setr (Or.inl (fun q => by rw [q, kc1] at kmo; exact absurd kmo (by decide)))]; exact z345
          have g363 : tk_ub f350 bu B tn := tk_ub_tr g346 (fun i9 => by rw [ef350, q_setz (Or.inl (fun q => by rw [q, kc1] at kbu; exact absurd kbu (by decide)))])
          have g364 : tk_nq f350 nm nl9 := tk_nq_tr g347 (fun i9 => by rw [ef350, q_setj (Or.inl (fun q => by rw [q, kc1] at knm; exact absurd knm (by decide)))])
          have g365 : k_bl f f350 c1 c2 a0 := k_bl_s1 g348 ef350 (by omega) (fun q => q_kne (k := 163) (k2 := 162) (by decide) kc2 kc1 q)
          have g366 : tk_tr f350 mo B tn := tk_tr_tr g337 (by rw [ef350, q_setz (Or.inl (fun q => by rw [q, kc1] at kmo; exact absurd kmo (by decide)))]) (by rw [ef350, q_setz (Or.inl (fun q => by rw [q, kc1] at kmo; exact absurd kmo (by decide)))]) (by rw [ef350, q_setz (Or.inl (fun q => by rw [q, kc1] at kmo; exact absurd kmo (by decide)))]) (by rw [ef350, q_setz (Or.inl (fun q => by rw [q, kc1] at kmo; exact absurd kmo (by decide)))]) (by rw [ef350, q_setj (Or.inl (fun q => by rw [q, kc1] at kmo; exact absurd kmo (by decide)))])
          refine q_ild_n cx dX12_readsNumbers_34 rfl (lv_at hl 2 rfl) ?_
          refine q_iconst cx dX12_readsNumbers_35 ?_
          refine q_iceq (tgt := 44) cx ⟨by decide, by decide⟩ ⟨by decide, by decide⟩ dX12_readsNumbers_36 (by decide) (fun c367 => ?_) (fun c367 => ?_)
          · refine q_ald_n cx dX12_readsNumbers_44 rfl (lv_at hl 0 rfl) ?_
            refine q_gX12_57 cx hB hmo kmo z361 dX12_readsNumbers_45 (fun hb368 kb368 => ?_)
            refine q_ild_n cx dX12_readsNumbers_48 rfl (lv_at hl 1 rfl) ?_
            refine q_ald_n cx dX12_readsNumbers_49 rfl (lv_at hl 0 rfl) ?_
            refine q_cVi (As := []) (rest := [.int (q_i a0), .ref c2]) cx hB (fun _ h => h) hN hmo kmo (by decide) rfl (f_mtoldN l g hN hB.2.1 B nl9 mo hmo kmo sr hsr ksr nm hnm knm bu hbu kbu tn (by omega) (by omega) x349 (by omega) (by omega) xc (by omega) (by omega) z352 z356 z354 z355 z353 z357 z358 z359 hp0 g366 g363 g364) q_cX12_213 q_dX12_told (by decide) rfl rfl hl.1 rfl (Nat.le_of_ble_eq_true rfl) dX12_readsNumbers_50 (fun y370 H locs f369 ry370 h371 hF hB => ?_)
            rcases h371 with h372 | h373
            · obtain ⟨ly370, uy370, z374, z375, t376, t377, t378, g379⟩ := h372
              have z380 : q_is (q_z f369 mo 3) tn := Eq.trans (hF.z hmo (by rw [kmo]; rfl)) z352
              have z381 : q_is (q_z f369 sr 0) xc := Eq.trans (hF.z hsr (by rw [ksr]; rfl)) z353
              have z382 : q_is (q_z f369 c1 (Int.toNat a0)) y328 := Eq.trans (hF.z hc1 (by rw [kc1]; rfl)) z351
              have z383 : q_ir (q_r f369 mo 13) sr := Eq.trans (hF.r hmo (by rw [kmo]; rfl)) z357
              have z384 : q_ir (q_r f369 mo 18) nm := Eq.trans (hF.r hmo (by rw [kmo]; rfl)) z358
              have z385 : q_ir (q_r f369 mo 1) bu := Eq.trans (hF.r hmo (by rw [kmo]; rfl)) z359
              have z386 : q_ir (q_r f369 mo 30) c1 := Eq.trans (hF.r hmo (by rw [kmo]; rfl)) z360
              have z387 : q_ir (q_r f369 mo 31) c2 := Eq.trans (hF.r hmo (by rw [kmo]; rfl)) z361
              have z388 : q_ir (q_r f369 mo 32) c3 := Eq.trans (hF.r hmo (by rw [kmo]; rfl)) z362
              have g389 : tk_ub f369 bu B tn := tk_ub_tr g363 (fun i9 => hF.z hbu (by rw [kbu]; rfl))
              have g390 : tk_nq f369 nm nl9 := tk_nq_tr g364 (fun i9 => hF.j hnm (by rw [knm]; rfl))
              have g391 : k_bl f f369 c1 c2 a0 := k_bl_tr g365 (fun i9 => hF.z hc1 (by rw [kc1]; rfl)) (fun i9 => hF.z hc2 (by rw [kc2]; rfl))
              obtain ⟨x392, ex392⟩ : ∃ zz, q_is (q_z f369 mo 5) zz := ⟨_, q_isr _⟩
              obtain ⟨lx392, ux392⟩ := q_isb ex392 (q_fib hB.2.1 hmo kmo (by decide) rfl)
              obtain ⟨-, l0x392, u0x392, -, -⟩ := tk_tr_n g379 ex392
              refine q_iast (lo := (-2147483648)) (hi := 2147483647) (n := 60) cx hB hc2 kc2 (by decide) rfl rfl (by omega) (by omega) (by decide) rfl ⟨by omega, by omega⟩ (by omega) (by omega) (q_inWi (lo := 0) (hi := 58) (by decide) (by omega) (by omega)) dX12_readsNumbers_53 (fun H locs f393 ef393 z394 hB => ?_)
              have z395 : q_is (q_z f393 mo 3) tn := by rw [ef393, q_setz (Or.inl (fun q => by rw [q, kc2] at kmo; exact absurd kmo (by decide)))]; exact z380
              have z396 : q_is (q_z f393 sr 0) xc := by rw [ef393, q_setz (Or.inl (fun q => by rw [q, kc2] at ksr; exact absurd ksr (by decide)))]; exact z381
              have z397 : q_is (q_z f393 c1 (Int.toNat a0)) y328 := by rw [ef393, q_setz (Or.inl (fun q => by rw [q, kc2] at kc1; exact absurd kc1 (by decide)))]; exact z382
              have z398 : q_is (q_z f393 mo 8) 0 := by rw [ef393, q_setz (Or.inl (fun q => by rw [q, kc2] at kmo; exact absurd kmo (by decide)))]; exact z374
              have z399 : q_is (q_z f393 mo 9) (-1) := by rw [ef393, q_setz (Or.inl (fun q => by rw [q, kc2] at kmo; exact absurd kmo (by decide)))]; exact z375
              have z400 : q_is (q_z f393 mo 5) x392 := by rw [ef393, q_setz (Or.inl (fun q => by rw [q, kc2] at kmo; exact absurd kmo (by decide)))]; exact ex392
              have z401 : q_ir (q_r f393 mo 13) sr := by rw [ef393, q_setr (Or.inl (fun q => by rw [q, kc2] at kmo; exact absurd kmo (by decide)))]; exact z383
              have z402 : q_ir (q_r f393 mo 18) nm := by rw [ef393, q_setr (Or.inl (fun q => by rw [q, kc2] at kmo; exact absurd kmo (by decide)))]; exact z384
              have z403 : q_ir (q_r f393 mo 1) bu := by rw [ef393, q_setr (Or.inl (fun q => by rw [q, kc2] at kmo; exact absurd kmo (by decide)))]; exact z385
              have z404 : q_ir (q_r f393 mo 30) c1 := by rw [ef393, q_setr (Or.inl (fun q => by rw [q, kc2] at kmo; exact absurd kmo (by decide)))]; exact z386
              have z405 : q_ir (q_r f393 mo 31) c2 := by rw [ef393, q_setr (Or.inl (fun q => by rw [q, kc2] at kmo; exact absurd kmo (by decide)))]; exact z387
              have z406 : q_ir (q_r f393 mo 32) c3 := by rw [ef393, q_setr (Or.inl (fun q => by rw [q, kc2] at kmo; exact absurd kmo (by decide)))]; exact z388
              have g407 : tk_ub f393 bu B tn := tk_ub_tr g389 (fun i9 => by rw [ef393, q_setz (Or.inl (fun q => by rw [q, kc2] at kbu; exact absurd kbu (by decide)))])
              have g408 : tk_nq f393 nm nl9 := tk_nq_tr g390 (fun i9 => by rw [ef393, q_setj (Or.inl (fun q => by rw [q, kc2] at knm; exact absurd knm (by decide)))])
              have g409 : k_bl f f393 c1 c2 a0 := k_bl_s2 g391 ef393 (by omega) (fun q => q_kne (k := 162) (k2 := 163) (by decide) kc1 kc2 q)
              have g410 : tk_tr f393 mo B tn := tk_tr_tr g379 (by rw [ef393, q_setz (Or.inl (fun q => by rw [q, kc2] at kmo; exact absurd kmo (by decide)))]) (by rw [ef393, q_setz (Or.inl (fun q => by rw [q, kc2] at kmo; exact absurd kmo (by decide)))]) (by rw [ef393, q_setz (Or.inl (fun q => by rw [q, kc2] at kmo; exact absurd kmo (by decide)))]) (by rw [ef393, q_setz (Or.inl (fun q => by rw [q, kc2] at kmo; exact absurd kmo (by decide)))]) (by rw [ef393, q_setj (Or.inl (fun q => by rw [q, kc2] at kmo; exact absurd kmo (by decide)))])
              refine q_ild_n cx dX12_readsNumbers_54 rfl (lv_at hl 2 rfl) ?_
              refine q_iconst cx dX12_readsNumbers_55 ?_
              refine q_iclt (tgt := 74) cx ⟨by decide, by decide⟩ ⟨by decide, by decide⟩ dX12_readsNumbers_56 (by decide) (fun c411 => ?_) (fun c411 => ?_)
              · refine q_ild_n cx dX12_readsNumbers_74 rfl (lv_at hl 2 rfl) ?_
                refine q_iconst cx dX12_readsNumbers_75 ?_
                refine q_iceq (tgt := 84) cx ⟨by decide, by decide⟩ ⟨by decide, by decide⟩ dX12_readsNumbers_76 (by decide) (fun c412 => ?_) (fun c412 => ?_)
                · refine q_ald_n cx dX12_readsNumbers_84 rfl (lv_at hl 0 rfl) ?_
                  refine q_gX12_60 cx hB hmo kmo z406 dX12_readsNumbers_85 (fun hb413 kb413 => ?_)
                  refine q_ild_n cx dX12_readsNumbers_88 rfl (lv_at hl 1 rfl) ?_
                  refine q_ald_n cx dX12_readsNumbers_89 rfl (lv_at hl 0 rfl) ?_
                  refine q_cVi (As := []) (rest := [.int (q_i a0), .ref c3]) cx hB (fun _ h => h) hN hmo kmo (by decide) rfl (f_many l g hN hB.2.1 B mo hmo kmo bu hbu kbu tn (by omega) (by omega) x392 (by omega) (by omega) z395 z400 z398 z399 z403 g410 g407) q_cX12_482 q_dX12_any (by decide) rfl rfl hl.1 rfl (Nat.le_of_ble_eq_true rfl) dX12_readsNumbers_90 (fun y415 H locs f414 ry415 h416 hF hB => ?_)
                  rcases h416 with h417 | h418
                  · obtain ⟨ly415, uy415, z419, z420, t421, g422⟩ := h417
                    have z423 : q_is (q_z f414 mo 3) tn := Eq.trans (hF.z hmo (by rw [kmo]; rfl)) z395
                    have z424 : q_is (q_z f414 sr 0) xc := Eq.trans (hF.z hsr (by rw [ksr]; rfl)) z396
                    have z425 : q_is (q_z f414 c1 (Int.toNat a0)) y328 := Eq.trans (hF.z hc1 (by rw [kc1]; rfl)) z397
                    have z426 : q_is (q_z f414 c2 (Int.toNat a0)) y370 := Eq.trans (hF.z hc2 (by rw [kc2]; rfl)) z394
                    have z427 : q_ir (q_r f414 mo 13) sr := Eq.trans (hF.r hmo (by rw [kmo]; rfl)) z401
                    have z428 : q_ir (q_r f414 mo 18) nm := Eq.trans (hF.r hmo (by rw [kmo]; rfl)) z402
                    have z429 : q_ir (q_r f414 mo 1) bu := Eq.trans (hF.r hmo (by rw [kmo]; rfl)) z403
                    have z430 : q_ir (q_r f414 mo 30) c1 := Eq.trans (hF.r hmo (by rw [kmo]; rfl)) z404
                    have z431 : q_ir (q_r f414 mo 31) c2 := Eq.trans (hF.r hmo (by rw [kmo]; rfl)) z405
                    have z432 : q_ir (q_r f414 mo 32) c3 := Eq.trans (hF.r hmo (by rw [kmo]; rfl)) z406
                    have g433 : tk_ub f414 bu B tn := tk_ub_tr g407 (fun i9 => hF.z hbu (by rw [kbu]; rfl))
                    have g434 : tk_nq f414 nm nl9 := tk_nq_tr g408 (fun i9 => hF.j hnm (by rw [knm]; rfl))
                    have g435 : k_bl f f414 c1 c2 a0 := k_bl_tr g409 (fun i9 => hF.z hc1 (by rw [kc1]; rfl)) (fun i9 => hF.z hc2 (by rw [kc2]; rfl))
                    obtain ⟨x436, ex436⟩ : ∃ zz, q_is (q_z f414 mo 5) zz := ⟨_, q_isr _⟩
                    obtain ⟨lx436, ux436⟩ := q_isb ex436 (q_fib hB.2.1 hmo kmo (by decide) rfl)
                    obtain ⟨-, l0x436, u0x436, -, -⟩ := tk_tr_n g422 ex436
                    refine q_iast (lo := (-2147483648)) (hi := 2147483647) (n := 60) cx hB hc3 kc3 (by decide) rfl rfl (by omega) (by omega) (by decide) rfl ⟨by omega, by omega⟩ (by omega) (by omega) (q_inWi (lo := 0) (hi := 58) (by decide) (by omega) (by omega)) dX12_readsNumbers_93 (fun H locs f437 ef437 z438 hB => ?_)
                    have z439 : q_is (q_z f437 mo 3) tn := by rw [ef437, q_setz (Or.inl (fun q => by rw [q, kc3] at kmo; exact absurd kmo (by decide)))]; exact z423
                    have z440 : q_is (q_z f437 sr 0) xc := by rw [ef437, q_setz (Or.inl (fun q => by rw [q, kc3] at ksr; exact absurd ksr (by decide)))]; exact z424
                    have z441 : q_is (q_z f437 c1 (Int.toNat a0)) y328 := by rw [ef437, q_setz (Or.inl (fun q => by rw [q, kc3] at kc1; exact absurd kc1 (by decide)))]; exact z425
                    have z442 : q_is (q_z f437 c2 (Int.toNat a0)) y370 := by rw [ef437, q_setz (Or.inl (fun q => by rw [q, kc3] at kc2; exact absurd kc2 (by decide)))]; exact z426
                    have z443 : q_is (q_z f437 mo 8) 0 := by rw [ef437, q_setz (Or.inl (fun q => by rw [q, kc3] at kmo; exact absurd kmo (by decide)))]; exact z419
                    have z444 : q_is (q_z f437 mo 9) (-1) := by rw [ef437, q_setz (Or.inl (fun q => by rw [q, kc3] at kmo; exact absurd kmo (by decide)))]; exact z420
                    have z445 : q_is (q_z f437 mo 5) x436 := by rw [ef437, q_setz (Or.inl (fun q => by rw [q, kc3] at kmo; exact absurd kmo (by decide)))]; exact ex436
                    have z446 : q_ir (q_r f437 mo 13) sr := by rw [ef437, q_setr (Or.inl (fun q => by rw [q, kc3] at kmo; exact absurd kmo (by decide)))]; exact z427
                    have z447 : q_ir (q_r f437 mo 18) nm := by rw [ef437, q_setr (Or.inl (fun q => by rw [q, kc3] at kmo; exact absurd kmo (by decide)))]; exact z428
                    have z448 : q_ir (q_r f437 mo 1) bu := by rw [ef437, q_setr (Or.inl (fun q => by rw [q, kc3] at kmo; exact absurd kmo (by decide)))]; exact z429
                    have z449 : q_ir (q_r f437 mo 30) c1 := by rw [ef437, q_setr (Or.inl (fun q => by rw [q, kc3] at kmo; exact absurd kmo (by decide)))]; exact z430
                    have z450 : q_ir (q_r f437 mo 31) c2 := by rw [ef437, q_setr (Or.inl (fun q => by rw [q, kc3] at kmo; exact absurd kmo (by decide)))]; exact z431
                    have z451 : q_ir (q_r f437 mo 32) c3 := by rw [ef437, q_setr (Or.inl (fun q => by rw [q, kc3] at kmo; exact absurd kmo (by decide)))]; exact z432
                    have g452 : tk_ub f437 bu B tn := tk_ub_tr g433 (fun i9 => by rw [ef437, q_setz (Or.inl (fun q => by rw [q, kc3] at kbu; exact absurd kbu (by decide)))])
                    have g453 : tk_nq f437 nm nl9 := tk_nq_tr g434 (fun i9 => by rw [ef437, q_setj (Or.inl (fun q => by rw [q, kc3] at knm; exact absurd knm (by decide)))])
                    have g454 : k_bl f f437 c1 c2 a0 := k_bl_tr g435 (fun i9 => by rw [ef437, q_setz (Or.inl (fun q => by rw [q, kc3] at kc1; exact absurd kc1 (by decide)))]) (fun i9 => by rw [ef437, q_setz (Or.inl (fun q => by rw [q, kc3] at kc2; exact absurd kc2 (by decide)))])
                    have g455 : tk_tr f437 mo B tn := tk_tr_tr g422 (by rw [ef437, q_setz (Or.inl (fun q => by rw [q, kc3] at kmo; exact absurd kmo (by decide)))]) (by rw [ef437, q_setz (Or.inl (fun q => by rw [q, kc3] at kmo; exact absurd kmo (by decide)))]) (by rw [ef437, q_setz (Or.inl (fun q => by rw [q, kc3] at kmo; exact absurd kmo (by decide)))]) (by rw [ef437, q_setz (Or.inl (fun q => by rw [q, kc3] at kmo; exact absurd kmo (by decide)))]) (by rw [ef437, q_setj (Or.inl (fun q => by rw [q, kc3] at kmo; exact absurd kmo (by decide)))])
                    refine q_ild_n cx dX12_readsNumbers_94 rfl (lv_at hl 2 rfl) ?_
                    refine q_bipush cx dX12_readsNumbers_95 rfl ?_
                    refine q_icne (tgt := 113) cx ⟨by decide, by decide⟩ ⟨by decide, by decide⟩ dX12_readsNumbers_97 (by decide) (fun c456 => ?_) (fun c456 => ?_)
                    · refine q_ild_n cx dX12_readsNumbers_113 rfl (lv_at hl 2 rfl) ?_
                      refine q_bipush cx dX12_readsNumbers_114 rfl ?_
                      refine q_icne (tgt := 125) cx ⟨by decide, by decide⟩ ⟨by decide, by decide⟩ dX12_readsNumbers_116 (by decide) (fun c457 => ?_) (fun c457 => ?_)
                      · refine q_vret cx hr hlk hB dX12_readsNumbers_125 ?_
                        exact (Or.inl ⟨z443, z444, (tk_okr (tk_rd_n (by decide) (tk_ns_2 (by decide) t334 (Eq.trans (Eq.symm ex349) t336) t376 (Eq.trans (Eq.symm ex392) t378)) (tk_okx t421 ex436)) z445), (by have h70 : _ = _ := z441; have h71 : _ = _ := z442; unfold k_cc; omega), g454, g455⟩)
                      · exact absurd c457 (by omega)
                    · exact absurd c456 (by omega)
                  · obtain ⟨lz458, uz458, t459, g460⟩ := h418
                    have z461 : q_is (q_z f414 mo 3) tn := Eq.trans (hF.z hmo (by rw [kmo]; rfl)) z395
                    have z462 : q_is (q_z f414 sr 0) xc := Eq.trans (hF.z hsr (by rw [ksr]; rfl)) z396
                    have z463 : q_is (q_z f414 c1 (Int.toNat a0)) y328 := Eq.trans (hF.z hc1 (by rw [kc1]; rfl)) z397
                    have z464 : q_is (q_z f414 c2 (Int.toNat a0)) y370 := Eq.trans (hF.z hc2 (by rw [kc2]; rfl)) z394
                    have z465 : q_ir (q_r f414 mo 13) sr := Eq.trans (hF.r hmo (by rw [kmo]; rfl)) z401
                    have z466 : q_ir (q_r f414 mo 18) nm := Eq.trans (hF.r hmo (by rw [kmo]; rfl)) z402
                    have z467 : q_ir (q_r f414 mo 1) bu := Eq.trans (hF.r hmo (by rw [kmo]; rfl)) z403
                    have z468 : q_ir (q_r f414 mo 30) c1 := Eq.trans (hF.r hmo (by rw [kmo]; rfl)) z404
                    have z469 : q_ir (q_r f414 mo 31) c2 := Eq.trans (hF.r hmo (by rw [kmo]; rfl)) z405
                    have z470 : q_ir (q_r f414 mo 32) c3 := Eq.trans (hF.r hmo (by rw [kmo]; rfl)) z406
                    have g471 : tk_ub f414 bu B tn := tk_ub_tr g407 (fun i9 => hF.z hbu (by rw [kbu]; rfl))
                    have g472 : tk_nq f414 nm nl9 := tk_nq_tr g408 (fun i9 => hF.j hnm (by rw [knm]; rfl))
                    have g473 : k_bl f f414 c1 c2 a0 := k_bl_tr g409 (fun i9 => hF.z hc1 (by rw [kc1]; rfl)) (fun i9 => hF.z hc2 (by rw [kc2]; rfl))
                    obtain ⟨x474, ex474⟩ : ∃ zz, q_is (q_z f414 mo 8) zz := ⟨_, q_isr _⟩
                    obtain ⟨lx474, ux474⟩ := q_isb ex474 ⟨lz458, uz458⟩
                    obtain ⟨x475, ex475⟩ : ∃ zz, q_is (q_z f414 mo 5) zz := ⟨_, q_isr _⟩
                    obtain ⟨lx475, ux475⟩ := q_isb ex475 (q_fib hB.2.1 hmo kmo (by decide) rfl)
                    obtain ⟨x476, ex476⟩ : ∃ zz, q_is (q_z f414 mo 9) zz := ⟨_, q_isr _⟩
                    obtain ⟨lx476, ux476⟩ := q_isb ex476 (q_fib hB.2.1 hmo kmo (by decide) rfl)
                    obtain ⟨-, l0x475, u0x475, -, -⟩ := tk_tr_n g460 ex475
                    refine q_iast (lo := (-2147483648)) (hi := 2147483647) (n := 60) cx hB hc3 kc3 (by decide) rfl rfl (by omega) (by omega) (by decide) rfl ⟨by omega, by omega⟩ (by omega) (by omega) (q_inWi (lo := 0) (hi := 58) (by decide) (by omega) (by omega)) dX12_readsNumbers_93 (fun H locs f477 ef477 z478 hB => ?_)
                    have z479 : q_is (q_z f477 mo 3) tn := by rw [ef477, q_setz (Or.inl (fun q => by rw [q, kc3] at kmo; exact absurd kmo (by decide)))]; exact z461
                    have z480 : q_is (q_z f477 sr 0) xc := by rw [ef477, q_setz (Or.inl (fun q => by rw [q, kc3] at ksr; exact absurd ksr (by decide)))]; exact z462
                    have z481 : q_is (q_z f477 c1 (Int.toNat a0)) y328 := by rw [ef477, q_setz (Or.inl (fun q => by rw [q, kc3] at kc1; exact absurd kc1 (by decide)))]; exact z463
                    have z482 : q_is (q_z f477 c2 (Int.toNat a0)) y370 := by rw [ef477, q_setz (Or.inl (fun q => by rw [q, kc3] at kc2; exact absurd kc2 (by decide)))]; exact z464
                    have z483 : q_is (q_z f477 mo 8) x474 := by rw [ef477, q_setz (Or.inl (fun q => by rw [q, kc3] at kmo; exact absurd kmo (by decide)))]; exact ex474
                    have z484 : q_is (q_z f477 mo 5) x475 := by rw [ef477, q_setz (Or.inl (fun q => by rw [q, kc3] at kmo; exact absurd kmo (by decide)))]; exact ex475
                    have z485 : q_is (q_z f477 mo 9) x476 := by rw [ef477, q_setz (Or.inl (fun q => by rw [q, kc3] at kmo; exact absurd kmo (by decide)))]; exact ex476
                    have z486 : q_ir (q_r f477 mo 13) sr := by rw [ef477, q_setr (Or.inl (fun q => by rw [q, kc3] at kmo; exact absurd kmo (by decide)))]; exact z465
                    have z487 : q_ir (q_r f477 mo 18) nm := by rw [ef477, q_setr (Or.inl (fun q => by rw [q, kc3] at kmo; exact absurd kmo (by decide)))]; exact z466
                    have z488 : q_ir (q_r f477 mo 1) bu := by rw [ef477, q_setr (Or.inl (fun q => by rw [q, kc3] at kmo; exact absurd kmo (by decide)))]; exact z467
                    have z489 : q_ir (q_r f477 mo 30) c1 := by rw [ef477, q_setr (Or.inl (fun q => by rw [q, kc3] at kmo; exact absurd kmo (by decide)))]; exact z468
                    have z490 : q_ir (q_r f477 mo 31) c2 := by rw [ef477, q_setr (Or.inl (fun q => by rw [q, kc3] at kmo; exact absurd kmo (by decide)))]; exact z469
                    have z491 : q_ir (q_r f477 mo 32) c3 := by rw [ef477, q_setr (Or.inl (fun q => by rw [q, kc3] at kmo; exact absurd kmo (by decide)))]; exact z470
                    have g492 : tk_ub f477 bu B tn := tk_ub_tr g471 (fun i9 => by rw [ef477, q_setz (Or.inl (fun q => by rw [q, kc3] at kbu; exact absurd kbu (by decide)))])
                    have g493 : tk_nq f477 nm nl9 := tk_nq_tr g472 (fun i9 => by rw [ef477, q_setj (Or.inl (fun q => by rw [q, kc3] at knm; exact absurd knm (by decide)))])
                    have g494 : k_bl f f477 c1 c2 a0 := k_bl_tr g473 (fun i9 => by rw [ef477, q_setz (Or.inl (fun q => by rw [q, kc3] at kc1; exact absurd kc1 (by decide)))]) (fun i9 => by rw [ef477, q_setz (Or.inl (fun q => by rw [q, kc3] at kc2; exact absurd kc2 (by decide)))])
                    have g495 : tk_tr f477 mo B tn := tk_tr_tr g460 (by rw [ef477, q_setz (Or.inl (fun q => by rw [q, kc3] at kmo; exact absurd kmo (by decide)))]) (by rw [ef477, q_setz (Or.inl (fun q => by rw [q, kc3] at kmo; exact absurd kmo (by decide)))]) (by rw [ef477, q_setz (Or.inl (fun q => by rw [q, kc3] at kmo; exact absurd kmo (by decide)))]) (by rw [ef477, q_setz (Or.inl (fun q => by rw [q, kc3] at kmo; exact absurd kmo (by decide)))]) (by rw [ef477, q_setj (Or.inl (fun q => by rw [q, kc3] at kmo; exact absurd kmo (by decide)))])
                    refine q_ild_n cx dX12_readsNumbers_94 rfl (lv_at hl 2 rfl) ?_
                    refine q_bipush cx dX12_readsNumbers_95 rfl ?_
                    refine q_icne (tgt := 113) cx ⟨by decide, by decide⟩ ⟨by decide, by decide⟩ dX12_readsNumbers_97 (by decide) (fun c496 => ?_) (fun c496 => ?_)
                    · refine q_ild_n cx dX12_readsNumbers_113 rfl (lv_at hl 2 rfl) ?_
                      refine q_bipush cx dX12_readsNumbers_114 rfl ?_
                      refine q_icne (tgt := 125) cx ⟨by decide, by decide⟩ ⟨by decide, by decide⟩ dX12_readsNumbers_116 (by decide) (fun c497 => ?_) (fun c497 => ?_)
                      · refine q_vret cx hr hlk hB dX12_readsNumbers_125 ?_
                        exact (Or.inr ⟨(q_isl z483 (by omega)), (q_isu z483 (by omega)), (tk_erp (tk_rd_n (by decide) (tk_ns_2 (by decide) t334 (Eq.trans (Eq.symm ex349) t336) t376 (Eq.trans (Eq.symm ex392) t378)) (tk_erx t459 ex474 ex476)) z483 z485), g495⟩)
                      · exact absurd c497 (by omega)
                    · exact absurd c496 (by omega)
                · exact absurd c412 (by omega)
              · exact absurd c411 (by omega)
            · obtain ⟨qy370, lz498, uz498, t499, g500⟩ := h373
              have z501 : q_is (q_z f369 mo 3) tn := Eq.trans (hF.z hmo (by rw [kmo]; rfl)) z352
              have z502 : q_is (q_z f369 sr 0) xc := Eq.trans (hF.z hsr (by rw [ksr]; rfl)) z353
              have z503 : q_is (q_z f369 c1 (Int.toNat a0)) y328 := Eq.trans (hF.z hc1 (by rw [kc1]; rfl)) z351
              have z504 : q_ir (q_r f369 mo 13) sr := Eq.trans (hF.r hmo (by rw [kmo]; rfl)) z357
              have z505 : q_ir (q_r f369 mo 18) nm := Eq.trans (hF.r hmo (by rw [kmo]; rfl)) z358
              have z506 : q_ir (q_r f369 mo 1) bu := Eq.trans (hF.r hmo (by rw [kmo]; rfl)) z359
              have z507 : q_ir (q_r f369 mo 30) c1 := Eq.trans (hF.r hmo (by rw [kmo]; rfl)) z360
              have z508 : q_ir (q_r f369 mo 31) c2 := Eq.trans (hF.r hmo (by rw [kmo]; rfl)) z361
              have z509 : q_ir (q_r f369 mo 32) c3 := Eq.trans (hF.r hmo (by rw [kmo]; rfl)) z362
              have g510 : tk_ub f369 bu B tn := tk_ub_tr g363 (fun i9 => hF.z hbu (by rw [kbu]; rfl))
              have g511 : tk_nq f369 nm nl9 := tk_nq_tr g364 (fun i9 => hF.j hnm (by rw [knm]; rfl))
              have g512 : k_bl f f369 c1 c2 a0 := k_bl_tr g365 (fun i9 => hF.z hc1 (by rw [kc1]; rfl)) (fun i9 => hF.z hc2 (by rw [kc2]; rfl))
              obtain ⟨x513, ex513⟩ : ∃ zz, q_is (q_z f369 mo 8) zz := ⟨_, q_isr _⟩
              obtain ⟨lx513, ux513⟩ := q_isb ex513 ⟨lz498, uz498⟩
              subst qy370
              obtain ⟨x514, ex514⟩ : ∃ zz, q_is (q_z f369 mo 5) zz := ⟨_, q_isr _⟩
              obtain ⟨lx514, ux514⟩ := q_isb ex514 (q_fib hB.2.1 hmo kmo (by decide) rfl)
              obtain ⟨x515, ex515⟩ : ∃ zz, q_is (q_z f369 mo 9) zz := ⟨_, q_isr _⟩
              obtain ⟨lx515, ux515⟩ := q_isb ex515 (q_fib hB.2.1 hmo kmo (by decide) rfl)
              obtain ⟨-, l0x514, u0x514, -, -⟩ := tk_tr_n g500 ex514
              refine q_iast (lo := (-2147483648)) (hi := 2147483647) (n := 60) cx hB hc2 kc2 (by decide) rfl rfl (by omega) (by omega) (by decide) rfl ⟨by decide, by decide⟩ (by decide) (by decide) (q_inWi (lo := 0) (hi := 58) (by decide) (by omega) (by omega)) dX12_readsNumbers_53 (fun H locs f516 ef516 z517 hB => ?_)
              have z518 : q_is (q_z f516 mo 3) tn := by rw [ef516, q_setz (Or.inl (fun q => by rw [q, kc2] at kmo; exact absurd kmo (by decide)))]; exact z501
              have z519 : q_is (q_z f516 sr 0) xc := by rw [ef516, q_setz (Or.inl (fun q => by rw [q, kc2] at ksr; exact absurd ksr (by decide)))]; exact z502
              have z520 : q_is (q_z f516 c1 (Int.toNat a0)) y328 := by rw [ef516, q_setz (Or.inl (fun q => by rw [q, kc2] at kc1; exact absurd kc1 (by decide)))]; exact z503
              have z521 : q_is (q_z f516 mo 8) x513 := by rw [ef516, q_setz (Or.inl (fun q => by rw [q, kc2] at kmo; exact absurd kmo (by decide)))]; exact ex513
              have z522 : q_is (q_z f516 mo 5) x514 := by rw [ef516, q_setz (Or.inl (fun q => by rw [q, kc2] at kmo; exact absurd kmo (by decide)))]; exact ex514
              have z523 : q_is (q_z f516 mo 9) x515 := by rw [ef516, q_setz (Or.inl (fun q => by rw [q, kc2] at kmo; exact absurd kmo (by decide)))]; exact ex515
              have z524 : q_ir (q_r f516 mo 13) sr := by rw [ef516, q_setr (Or.inl (fun q => by rw [q, kc2] at kmo; exact absurd kmo (by decide)))]; exact z504
              have z525 : q_ir (q_r f516 mo 18) nm := by rw [ef516, q_setr (Or.inl (fun q => by rw [q, kc2] at kmo; exact absurd kmo (by decide)))]; exact z505
              have z526 : q_ir (q_r f516 mo 1) bu := by rw [ef516, q_setr (Or.inl (fun q => by rw [q, kc2] at kmo; exact absurd kmo (by decide)))]; exact z506
              have z527 : q_ir (q_r f516 mo 30) c1 := by rw [ef516, q_setr (Or.inl (fun q => by rw [q, kc2] at kmo; exact absurd kmo (by decide)))]; exact z507
              have z528 : q_ir (q_r f516 mo 31) c2 := by rw [ef516, q_setr (Or.inl (fun q => by rw [q, kc2] at kmo; exact absurd kmo (by decide)))]; exact z508
              have z529 : q_ir (q_r f516 mo 32) c3 := by rw [ef516, q_setr (Or.inl (fun q => by rw [q, kc2] at kmo; exact absurd kmo (by decide)))]; exact z509
              have g530 : tk_ub f516 bu B tn := tk_ub_tr g510 (fun i9 => by rw [ef516, q_setz (Or.inl (fun q => by rw [q, kc2] at kbu; exact absurd kbu (by decide)))])
              have g531 : tk_nq f516 nm nl9 := tk_nq_tr g511 (fun i9 => by rw [ef516, q_setj (Or.inl (fun q => by rw [q, kc2] at knm; exact absurd knm (by decide)))])
              have g532 : k_bl f f516 c1 c2 a0 := k_bl_s2 g512 ef516 (by omega) (fun q => q_kne (k := 162) (k2 := 163) (by decide) kc1 kc2 q)
              have g533 : tk_tr f516 mo B tn := tk_tr_tr g500 (by rw [ef516, q_setz (Or.inl (fun q => by rw [q, kc2] at kmo; exact absurd kmo (by decide)))]) (by rw [ef516, q_setz (Or.inl (fun q => by rw [q, kc2] at kmo; exact absurd kmo (by decide)))]) (by rw [ef516, q_setz (Or.inl (fun q => by rw [q, kc2] at kmo; exact absurd kmo (by decide)))]) (by rw [ef516, q_setz (Or.inl (fun q => by rw [q, kc2] at kmo; exact absurd kmo (by decide)))]) (by rw [ef516, q_setj (Or.inl (fun q => by rw [q, kc2] at kmo; exact absurd kmo (by decide)))])
              refine q_ild_n cx dX12_readsNumbers_54 rfl (lv_at hl 2 rfl) ?_
              refine q_iconst cx dX12_readsNumbers_55 ?_
              refine q_iclt (tgt := 74) cx ⟨by decide, by decide⟩ ⟨by decide, by decide⟩ dX12_readsNumbers_56 (by decide) (fun c534 => ?_) (fun c534 => ?_)
              · refine q_ild_n cx dX12_readsNumbers_74 rfl (lv_at hl 2 rfl) ?_
                refine q_iconst cx dX12_readsNumbers_75 ?_
                refine q_iceq (tgt := 84) cx ⟨by decide, by decide⟩ ⟨by decide, by decide⟩ dX12_readsNumbers_76 (by decide) (fun c535 => ?_) (fun c535 => ?_)
                · refine q_ald_n cx dX12_readsNumbers_84 rfl (lv_at hl 0 rfl) ?_
                  refine q_gX12_60 cx hB hmo kmo z529 dX12_readsNumbers_85 (fun hb536 kb536 => ?_)
                  refine q_ild_n cx dX12_readsNumbers_88 rfl (lv_at hl 1 rfl) ?_
                  refine q_ald_n cx dX12_readsNumbers_89 rfl (lv_at hl 0 rfl) ?_
                  refine q_cVi (As := []) (rest := [.int (q_i a0), .ref c3]) cx hB (fun _ h => h) hN hmo kmo (by decide) rfl (r_any1 l g hN hB.2.1 mo hmo kmo x513 (by omega) (by omega) z521) q_cX12_482 q_dX12_any (by decide) rfl rfl hl.1 rfl (Nat.le_of_ble_eq_true rfl) dX12_readsNumbers_90 (fun y538 H locs f537 ry538 h539 hF hB => ?_)
                  obtain rfl := h539
                  refine q_iast (lo := (-2147483648)) (hi := 2147483647) (n := 60) cx hB hc3 kc3 (by decide) rfl rfl (by omega) (by omega) (by decide) rfl ⟨by omega, by omega⟩ (by omega) (by omega) (q_inWi (lo := 0) (hi := 58) (by decide) (by omega) (by omega)) dX12_readsNumbers_93 (fun H locs f540 ef540 z541 hB => ?_)
                  have z542 : q_is (q_z f540 mo 3) tn := by rw [ef540, q_setz (Or.inl (fun q => by rw [q, kc3] at kmo; exact absurd kmo (by decide)))]; exact z518
                  have z543 : q_is (q_z f540 sr 0) xc := by rw [ef540, q_setz (Or.inl (fun q => by rw [q, kc3] at ksr; exact absurd ksr (by decide)))]; exact z519
                  have z544 : q_is (q_z f540 c1 (Int.toNat a0)) y328 := by rw [ef540, q_setz (Or.inl (fun q => by rw [q, kc3] at kc1; exact absurd kc1 (by decide)))]; exact z520
                  have z545 : q_is (q_z f540 mo 8) x513 := by rw [ef540, q_setz (Or.inl (fun q => by rw [q, kc3] at kmo; exact absurd kmo (by decide)))]; exact z521
                  have z546 : q_is (q_z f540 mo 5) x514 := by rw [ef540, q_setz (Or.inl (fun q => by rw [q, kc3] at kmo; exact absurd kmo (by decide)))]; exact z522
                  have z547 : q_is (q_z f540 mo 9) x515 := by rw [ef540, q_setz (Or.inl (fun q => by rw [q, kc3] at kmo; exact absurd kmo (by decide)))]; exact z523
                  have z548 : q_is (q_z f540 c2 (Int.toNat a0)) (-1) := by rw [ef540, q_setz (Or.inl (fun q => by rw [q, kc3] at kc2; exact absurd kc2 (by decide)))]; exact z517
                  have z549 : q_ir (q_r f540 mo 13) sr := by rw [ef540, q_setr (Or.inl (fun q => by rw [q, kc3] at kmo; exact absurd kmo (by decide)))]; exact z524
                  have z550 : q_ir (q_r f540 mo 18) nm := by rw [ef540, q_setr (Or.inl (fun q => by rw [q, kc3] at kmo; exact absurd kmo (by decide)))]; exact z525
                  have z551 : q_ir (q_r f540 mo 1) bu := by rw [ef540, q_setr (Or.inl (fun q => by rw [q, kc3] at kmo; exact absurd kmo (by decide)))]; exact z526
                  have z552 : q_ir (q_r f540 mo 30) c1 := by rw [ef540, q_setr (Or.inl (fun q => by rw [q, kc3] at kmo; exact absurd kmo (by decide)))]; exact z527
                  have z553 : q_ir (q_r f540 mo 31) c2 := by rw [ef540, q_setr (Or.inl (fun q => by rw [q, kc3] at kmo; exact absurd kmo (by decide)))]; exact z528
                  have z554 : q_ir (q_r f540 mo 32) c3 := by rw [ef540, q_setr (Or.inl (fun q => by rw [q, kc3] at kmo; exact absurd kmo (by decide)))]; exact z529
                  have g555 : tk_ub f540 bu B tn := tk_ub_tr g530 (fun i9 => by rw [ef540, q_setz (Or.inl (fun q => by rw [q, kc3] at kbu; exact absurd kbu (by decide)))])
                  have g556 : tk_nq f540 nm nl9 := tk_nq_tr g531 (fun i9 => by rw [ef540, q_setj (Or.inl (fun q => by rw [q, kc3] at knm; exact absurd knm (by decide)))])
                  have g557 : k_bl f f540 c1 c2 a0 := k_bl_tr g532 (fun i9 => by rw [ef540, q_setz (Or.inl (fun q => by rw [q, kc3] at kc1; exact absurd kc1 (by decide)))]) (fun i9 => by rw [ef540, q_setz (Or.inl (fun q => by rw [q, kc3] at kc2; exact absurd kc2 (by decide)))])
                  have g558 : tk_tr f540 mo B tn := tk_tr_tr g533 (by rw [ef540, q_setz (Or.inl (fun q => by rw [q, kc3] at kmo; exact absurd kmo (by decide)))]) (by rw [ef540, q_setz (Or.inl (fun q => by rw [q, kc3] at kmo; exact absurd kmo (by decide)))]) (by rw [ef540, q_setz (Or.inl (fun q => by rw [q, kc3] at kmo; exact absurd kmo (by decide)))]) (by rw [ef540, q_setz (Or.inl (fun q => by rw [q, kc3] at kmo; exact absurd kmo (by decide)))]) (by rw [ef540, q_setj (Or.inl (fun q => by rw [q, kc3] at kmo; exact absurd kmo (by decide)))])
                  refine q_ild_n cx dX12_readsNumbers_94 rfl (lv_at hl 2 rfl) ?_
                  refine q_bipush cx dX12_readsNumbers_95 rfl ?_
                  refine q_icne (tgt := 113) cx ⟨by decide, by decide⟩ ⟨by decide, by decide⟩ dX12_readsNumbers_97 (by decide) (fun c559 => ?_) (fun c559 => ?_)
                  · refine q_ild_n cx dX12_readsNumbers_113 rfl (lv_at hl 2 rfl) ?_
                    refine q_bipush cx dX12_readsNumbers_114 rfl ?_
                    refine q_icne (tgt := 125) cx ⟨by decide, by decide⟩ ⟨by decide, by decide⟩ dX12_readsNumbers_116 (by decide) (fun c560 => ?_) (fun c560 => ?_)
                    · refine q_vret cx hr hlk hB dX12_readsNumbers_125 ?_
                      exact (Or.inr ⟨(q_isl z545 (by omega)), (q_isu z545 (by omega)), (tk_erp (tk_rd_e (by decide) (tk_ns_e2 (by decide) t334 (Eq.trans (Eq.symm ex349) t336) (tk_erx t499 ex513 ex515))) z545 z547), g558⟩)
                    · exact absurd c560 (by omega)
                  · exact absurd c559 (by omega)
                · exact absurd c535 (by omega)
              · exact absurd c534 (by omega)
          · exact absurd c367 (by omega)
        · obtain ⟨qy328, lz561, uz561, t562, g563⟩ := h331
          have z564 : q_is (q_z f327 mo 3) tn := Eq.trans (hF.z hmo (by rw [kmo]; rfl)) hf0
          have z565 : q_is (q_z f327 sr 0) xc := Eq.trans (hF.z hsr (by rw [ksr]; rfl)) hf4
          have z566 : q_ir (q_r f327 mo 13) sr := Eq.trans (hF.r hmo (by rw [kmo]; rfl)) hr0
          have z567 : q_ir (q_r f327 mo 18) nm := Eq.trans (hF.r hmo (by rw [kmo]; rfl)) hr1
          have z568 : q_ir (q_r f327 mo 1) bu := Eq.trans (hF.r hmo (by rw [kmo]; rfl)) hr2
          have z569 : q_ir (q_r f327 mo 30) c1 := Eq.trans (hF.r hmo (by rw [kmo]; rfl)) hr3
          have z570 : q_ir (q_r f327 mo 31) c2 := Eq.trans (hF.r hmo (by rw [kmo]; rfl)) hr4
          have z571 : q_ir (q_r f327 mo 32) c3 := Eq.trans (hF.r hmo (by rw [kmo]; rfl)) hr5
          have g572 : tk_ub f327 bu B tn := tk_ub_tr hub (fun i9 => hF.z hbu (by rw [kbu]; rfl))
          have g573 : tk_nq f327 nm nl9 := tk_nq_tr hrn (fun i9 => hF.j hnm (by rw [knm]; rfl))
          have g574 : k_bl f f327 c1 c2 a0 := k_bl_tr hbl (fun i9 => hF.z hc1 (by rw [kc1]; rfl)) (fun i9 => hF.z hc2 (by rw [kc2]; rfl))
          obtain ⟨x575, ex575⟩ : ∃ zz, q_is (q_z f327 mo 8) zz := ⟨_, q_isr _⟩
          obtain ⟨lx575, ux575⟩ := q_isb ex575 ⟨lz561, uz561⟩
          subst qy328
          obtain ⟨x576, ex576⟩ : ∃ zz, q_is (q_z f327 mo 5) zz := ⟨_, q_isr _⟩
          obtain ⟨lx576, ux576⟩ := q_isb ex576 (q_fib hB.2.1 hmo kmo (by decide) rfl)
          obtain ⟨x577, ex577⟩ : ∃ zz, q_is (q_z f327 mo 9) zz := ⟨_, q_isr _⟩
          obtain ⟨lx577, ux577⟩ := q_isb ex577 (q_fib hB.2.1 hmo kmo (by decide) rfl)
          obtain ⟨-, l0x576, u0x576, -, -⟩ := tk_tr_n g563 ex576
          refine q_iast (lo := (-2147483648)) (hi := 2147483647) (n := 60) cx hB hc1 kc1 (by decide) rfl rfl (by omega) (by omega) (by decide) rfl ⟨by decide, by decide⟩ (by decide) (by decide) (q_inWi (lo := 0) (hi := 58) (by decide) (by omega) (by omega)) dX12_readsNumbers_33 (fun H locs f578 ef578 z579 hB => ?_)
          have z580 : q_is (q_z f578 mo 3) tn := by rw [ef578, q_setz (Or.inl (fun q => by rw [q, kc1] at kmo; exact absurd kmo (by decide)))]; exact z564
          have z581 : q_is (q_z f578 sr 0) xc := by rw [ef578, q_setz (Or.inl (fun q => by rw [q, kc1] at ksr; exact absurd ksr (by decide)))]; exact z565
          have z582 : q_is (q_z f578 mo 8) x575 := by rw [ef578, q_setz (Or.inl (fun q => by rw [q, kc1] at kmo; exact absurd kmo (by decide)))]; exact ex575
          have z583 : q_is (q_z f578 mo 5) x576 := by rw [ef578, q_setz (Or.inl (fun q => by rw [q, kc1] at kmo; exact absurd kmo (by decide)))]; exact ex576
          have z584 : q_is (q_z f578 mo 9) x577 := by rw [ef578, q_setz (Or.inl (fun q => by rw [q, kc1] at kmo; exact absurd kmo (by decide)))]; exact ex577
          have z585 : q_ir (q_r f578 mo 13) sr := by rw [ef578, q_setr (Or.inl (fun q => by rw [q, kc1] at kmo; exact absurd kmo (by decide)))]; exact z566
          have z586 : q_ir (q_r f578 mo 18) nm := by rw [ef578, q_setr (Or.inl (fun q => by rw [q, kc1] at kmo; exact absurd kmo (by decide)))]; exact z567
          have z587 : q_ir (q_r f578 mo 1) bu := by rw [ef578, q_setr (Or.inl (fun q => by rw [q, kc1] at kmo; exact absurd kmo (by decide)))]; exact z568
          have z588 : q_ir (q_r f578 mo 30) c1 := by rw [ef578, q_setr (Or.inl (fun q => by rw [q, kc1] at kmo; exact absurd kmo (by decide)))]; exact z569
          have z589 : q_ir (q_r f578 mo 31) c2 := by rw [ef578, q_setr (Or.inl (fun q => by rw [q, kc1] at kmo; exact absurd kmo (by decide)))]; exact z570
          have z590 : q_ir (q_r f578 mo 32) c3 := by rw [ef578, q_setr (Or.inl (fun q => by rw [q, kc1] at kmo; exact absurd kmo (by decide)))]; exact z571
          have g591 : tk_ub f578 bu B tn := tk_ub_tr g572 (fun i9 => by rw [ef578, q_setz (Or.inl (fun q => by rw [q, kc1] at kbu; exact absurd kbu (by decide)))])
          have g592 : tk_nq f578 nm nl9 := tk_nq_tr g573 (fun i9 => by rw [ef578, q_setj (Or.inl (fun q => by rw [q, kc1] at knm; exact absurd knm (by decide)))])
          have g593 : k_bl f f578 c1 c2 a0 := k_bl_s1 g574 ef578 (by omega) (fun q => q_kne (k := 163) (k2 := 162) (by decide) kc2 kc1 q)
          have g594 : tk_tr f578 mo B tn := tk_tr_tr g563 (by rw [ef578, q_setz (Or.inl (fun q => by rw [q, kc1] at kmo; exact absurd kmo (by decide)))]) (by rw [ef578, q_setz (Or.inl (fun q => by rw [q, kc1] at kmo; exact absurd kmo (by decide)))]) (by rw [ef578, q_setz (Or.inl (fun q => by rw [q, kc1] at kmo; exact absurd kmo (by decide)))]) (by rw [ef578, q_setz (Or.inl (fun q => by rw [q, kc1] at kmo; exact absurd kmo (by decide)))]) (by rw [ef578, q_setj (Or.inl (fun q => by rw [q, kc1] at kmo; exact absurd kmo (by decide)))])
          refine q_ild_n cx dX12_readsNumbers_34 rfl (lv_at hl 2 rfl) ?_
          refine q_iconst cx dX12_readsNumbers_35 ?_
          refine q_iceq (tgt := 44) cx ⟨by decide, by decide⟩ ⟨by decide, by decide⟩ dX12_readsNumbers_36 (by decide) (fun c595 => ?_) (fun c595 => ?_)
          · refine q_ald_n cx dX12_readsNumbers_44 rfl (lv_at hl 0 rfl) ?_
            refine q_gX12_57 cx hB hmo kmo z589 dX12_readsNumbers_45 (fun hb596 kb596 => ?_)
            refine q_ild_n cx dX12_readsNumbers_48 rfl (lv_at hl 1 rfl) ?_
            refine q_ald_n cx dX12_readsNumbers_49 rfl (lv_at hl 0 rfl) ?_
            refine q_cVi (As := []) (rest := [.int (q_i a0), .ref c2]) cx hB (fun _ h => h) hN hmo kmo (by decide) rfl (r_told1 l g hN hB.2.1 mo hmo kmo x575 (by omega) (by omega) z582) q_cX12_213 q_dX12_told (by decide) rfl rfl hl.1 rfl (Nat.le_of_ble_eq_true rfl) dX12_readsNumbers_50 (fun y598 H locs f597 ry598 h599 hF hB => ?_)
            obtain ⟨rfl, qy598⟩ := h599
            subst qy598
            refine q_iast (lo := (-2147483648)) (hi := 2147483647) (n := 60) cx hB hc2 kc2 (by decide) rfl rfl (by omega) (by omega) (by decide) rfl ⟨by decide, by decide⟩ (by decide) (by decide) (q_inWi (lo := 0) (hi := 58) (by decide) (by omega) (by omega)) dX12_readsNumbers_53 (fun H locs f600 ef600 z601 hB => ?_)
            have z602 : q_is (q_z f600 mo 3) tn := by rw [ef600, q_setz (Or.inl (fun q => by rw [q, kc2] at kmo; exact absurd kmo (by decide)))]; exact z580
            have z603 : q_is (q_z f600 sr 0) xc := by rw [ef600, q_setz (Or.inl (fun q => by rw [q, kc2] at ksr; exact absurd ksr (by decide)))]; exact z581
            have z604 : q_is (q_z f600 mo 8) x575 := by rw [ef600, q_setz (Or.inl (fun q => by rw [q, kc2] at kmo; exact absurd kmo (by decide)))]; exact z582
            have z605 : q_is (q_z f600 mo 5) x576 := by rw [ef600, q_setz (Or.inl (fun q => by rw [q, kc2] at kmo; exact absurd kmo (by decide)))]; exact z583
            have z606 : q_is (q_z f600 mo 9) x577 := by rw [ef600, q_setz (Or.inl (fun q => by rw [q, kc2] at kmo; exact absurd kmo (by decide)))]; exact z584
            have z607 : q_is (q_z f600 c1 (Int.toNat a0)) (-1) := by rw [ef600, q_setz (Or.inl (fun q => by rw [q, kc2] at kc1; exact absurd kc1 (by decide)))]; exact z579
            have z608 : q_ir (q_r f600 mo 13) sr := by rw [ef600, q_setr (Or.inl (fun q => by rw [q, kc2] at kmo; exact absurd kmo (by decide)))]; exact z585
            have z609 : q_ir (q_r f600 mo 18) nm := by rw [ef600, q_setr (Or.inl (fun q => by rw [q, kc2] at kmo; exact absurd kmo (by decide)))]; exact z586
            have z610 : q_ir (q_r f600 mo 1) bu := by rw [ef600, q_setr (Or.inl (fun q => by rw [q, kc2] at kmo; exact absurd kmo (by decide)))]; exact z587
            have z611 : q_ir (q_r f600 mo 30) c1 := by rw [ef600, q_setr (Or.inl (fun q => by rw [q, kc2] at kmo; exact absurd kmo (by decide)))]; exact z588
            have z612 : q_ir (q_r f600 mo 31) c2 := by rw [ef600, q_setr (Or.inl (fun q => by rw [q, kc2] at kmo; exact absurd kmo (by decide)))]; exact z589
            have z613 : q_ir (q_r f600 mo 32) c3 := by rw [ef600, q_setr (Or.inl (fun q => by rw [q, kc2] at kmo; exact absurd kmo (by decide)))]; exact z590
            have g614 : tk_ub f600 bu B tn := tk_ub_tr g591 (fun i9 => by rw [ef600, q_setz (Or.inl (fun q => by rw [q, kc2] at kbu; exact absurd kbu (by decide)))])
            have g615 : tk_nq f600 nm nl9 := tk_nq_tr g592 (fun i9 => by rw [ef600, q_setj (Or.inl (fun q => by rw [q, kc2] at knm; exact absurd knm (by decide)))])
            have g616 : k_bl f f600 c1 c2 a0 := k_bl_s2 g593 ef600 (by omega) (fun q => q_kne (k := 162) (k2 := 163) (by decide) kc1 kc2 q)
            have g617 : tk_tr f600 mo B tn := tk_tr_tr g594 (by rw [ef600, q_setz (Or.inl (fun q => by rw [q, kc2] at kmo; exact absurd kmo (by decide)))]) (by rw [ef600, q_setz (Or.inl (fun q => by rw [q, kc2] at kmo; exact absurd kmo (by decide)))]) (by rw [ef600, q_setz (Or.inl (fun q => by rw [q, kc2] at kmo; exact absurd kmo (by decide)))]) (by rw [ef600, q_setz (Or.inl (fun q => by rw [q, kc2] at kmo; exact absurd kmo (by decide)))]) (by rw [ef600, q_setj (Or.inl (fun q => by rw [q, kc2] at kmo; exact absurd kmo (by decide)))])
            refine q_ild_n cx dX12_readsNumbers_54 rfl (lv_at hl 2 rfl) ?_
            refine q_iconst cx dX12_readsNumbers_55 ?_
            refine q_iclt (tgt := 74) cx ⟨by decide, by decide⟩ ⟨by decide, by decide⟩ dX12_readsNumbers_56 (by decide) (fun c618 => ?_) (fun c618 => ?_)
            · refine q_ild_n cx dX12_readsNumbers_74 rfl (lv_at hl 2 rfl) ?_
              refine q_iconst cx dX12_readsNumbers_75 ?_
              refine q_iceq (tgt := 84) cx ⟨by decide, by decide⟩ ⟨by decide, by decide⟩ dX12_readsNumbers_76 (by decide) (fun c619 => ?_) (fun c619 => ?_)
              · refine q_ald_n cx dX12_readsNumbers_84 rfl (lv_at hl 0 rfl) ?_
                refine q_gX12_60 cx hB hmo kmo z613 dX12_readsNumbers_85 (fun hb620 kb620 => ?_)
                refine q_ild_n cx dX12_readsNumbers_88 rfl (lv_at hl 1 rfl) ?_
                refine q_ald_n cx dX12_readsNumbers_89 rfl (lv_at hl 0 rfl) ?_
                refine q_cVi (As := []) (rest := [.int (q_i a0), .ref c3]) cx hB (fun _ h => h) hN hmo kmo (by decide) rfl (r_any1 l g hN hB.2.1 mo hmo kmo x575 (by omega) (by omega) z604) q_cX12_482 q_dX12_any (by decide) rfl rfl hl.1 rfl (Nat.le_of_ble_eq_true rfl) dX12_readsNumbers_90 (fun y622 H locs f621 ry622 h623 hF hB => ?_)
                obtain rfl := h623
                refine q_iast (lo := (-2147483648)) (hi := 2147483647) (n := 60) cx hB hc3 kc3 (by decide) rfl rfl (by omega) (by omega) (by decide) rfl ⟨by omega, by omega⟩ (by omega) (by omega) (q_inWi (lo := 0) (hi := 58) (by decide) (by omega) (by omega)) dX12_readsNumbers_93 (fun H locs f624 ef624 z625 hB => ?_)
                have z626 : q_is (q_z f624 mo 3) tn := by rw [ef624, q_setz (Or.inl (fun q => by rw [q, kc3] at kmo; exact absurd kmo (by decide)))]; exact z602
                have z627 : q_is (q_z f624 sr 0) xc := by rw [ef624, q_setz (Or.inl (fun q => by rw [q, kc3] at ksr; exact absurd ksr (by decide)))]; exact z603
                have z628 : q_is (q_z f624 mo 8) x575 := by rw [ef624, q_setz (Or.inl (fun q => by rw [q, kc3] at kmo; exact absurd kmo (by decide)))]; exact z604
                have z629 : q_is (q_z f624 mo 5) x576 := by rw [ef624, q_setz (Or.inl (fun q => by rw [q, kc3] at kmo; exact absurd kmo (by decide)))]; exact z605
                have z630 : q_is (q_z f624 mo 9) x577 := by rw [ef624, q_setz (Or.inl (fun q => by rw [q, kc3] at kmo; exact absurd kmo (by decide)))]; exact z606
                have z631 : q_is (q_z f624 c1 (Int.toNat a0)) (-1) := by rw [ef624, q_setz (Or.inl (fun q => by rw [q, kc3] at kc1; exact absurd kc1 (by decide)))]; exact z607
                have z632 : q_is (q_z f624 c2 (Int.toNat a0)) (-1) := by rw [ef624, q_setz (Or.inl (fun q => by rw [q, kc3] at kc2; exact absurd kc2 (by decide)))]; exact z601
                have z633 : q_ir (q_r f624 mo 13) sr := by rw [ef624, q_setr (Or.inl (fun q => by rw [q, kc3] at kmo; exact absurd kmo (by decide)))]; exact z608
                have z634 : q_ir (q_r f624 mo 18) nm := by rw [ef624, q_setr (Or.inl (fun q => by rw [q, kc3] at kmo; exact absurd kmo (by decide)))]; exact z609
                have z635 : q_ir (q_r f624 mo 1) bu := by rw [ef624, q_setr (Or.inl (fun q => by rw [q, kc3] at kmo; exact absurd kmo (by decide)))]; exact z610
                have z636 : q_ir (q_r f624 mo 30) c1 := by rw [ef624, q_setr (Or.inl (fun q => by rw [q, kc3] at kmo; exact absurd kmo (by decide)))]; exact z611
                have z637 : q_ir (q_r f624 mo 31) c2 := by rw [ef624, q_setr (Or.inl (fun q => by rw [q, kc3] at kmo; exact absurd kmo (by decide)))]; exact z612
                have z638 : q_ir (q_r f624 mo 32) c3 := by rw [ef624, q_setr (Or.inl (fun q => by rw [q, kc3] at kmo; exact absurd kmo (by decide)))]; exact z613
                have g639 : tk_ub f624 bu B tn := tk_ub_tr g614 (fun i9 => by rw [ef624, q_setz (Or.inl (fun q => by rw [q, kc3] at kbu; exact absurd kbu (by decide)))])
                have g640 : tk_nq f624 nm nl9 := tk_nq_tr g615 (fun i9 => by rw [ef624, q_setj (Or.inl (fun q => by rw [q, kc3] at knm; exact absurd knm (by decide)))])
                have g641 : k_bl f f624 c1 c2 a0 := k_bl_tr g616 (fun i9 => by rw [ef624, q_setz (Or.inl (fun q => by rw [q, kc3] at kc1; exact absurd kc1 (by decide)))]) (fun i9 => by rw [ef624, q_setz (Or.inl (fun q => by rw [q, kc3] at kc2; exact absurd kc2 (by decide)))])
                have g642 : tk_tr f624 mo B tn := tk_tr_tr g617 (by rw [ef624, q_setz (Or.inl (fun q => by rw [q, kc3] at kmo; exact absurd kmo (by decide)))]) (by rw [ef624, q_setz (Or.inl (fun q => by rw [q, kc3] at kmo; exact absurd kmo (by decide)))]) (by rw [ef624, q_setz (Or.inl (fun q => by rw [q, kc3] at kmo; exact absurd kmo (by decide)))]) (by rw [ef624, q_setz (Or.inl (fun q => by rw [q, kc3] at kmo; exact absurd kmo (by decide)))]) (by rw [ef624, q_setj (Or.inl (fun q => by rw [q, kc3] at kmo; exact absurd kmo (by decide)))])
                refine q_ild_n cx dX12_readsNumbers_94 rfl (lv_at hl 2 rfl) ?_
                refine q_bipush cx dX12_readsNumbers_95 rfl ?_
                refine q_icne (tgt := 113) cx ⟨by decide, by decide⟩ ⟨by decide, by decide⟩ dX12_readsNumbers_97 (by decide) (fun c643 => ?_) (fun c643 => ?_)
                · refine q_ild_n cx dX12_readsNumbers_113 rfl (lv_at hl 2 rfl) ?_
                  refine q_bipush cx dX12_readsNumbers_114 rfl ?_
                  refine q_icne (tgt := 125) cx ⟨by decide, by decide⟩ ⟨by decide, by decide⟩ dX12_readsNumbers_116 (by decide) (fun c644 => ?_) (fun c644 => ?_)
                  · refine q_vret cx hr hlk hB dX12_readsNumbers_125 ?_
                    exact (Or.inr ⟨(q_isl z628 (by omega)), (q_isu z628 (by omega)), (tk_erp (tk_rd_e (by decide) (tk_ns_e1 (by decide) (tk_erx t562 ex575 ex577))) z628 z630), g642⟩)
                  · exact absurd c644 (by omega)
                · exact absurd c643 (by omega)
              · exact absurd c619 (by omega)
            · exact absurd c618 (by omega)
          · exact absurd c595 (by omega)
  · exact absurd c323 (by omega)
