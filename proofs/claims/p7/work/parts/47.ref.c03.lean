set_option maxHeartbeats 4000000 in
set_option maxRecDepth 100000 in
theorem r_command (l : Launch) (g : q_G) {K : Nat → Nat} {L : List Nat} (hN : L.Nodup) {f : Nat → va_E} (hT : q_Ty g K L f) (mo : Nat) (hmo : mo ∈ L) (kmo : K mo = 12) (sr : Nat) (hsr : sr ∈ L) (ksr : K sr = 151) (nm : Nat) (hnm : nm ∈ L) (knm : K nm = 156) (bu : Nat) (hbu : bu ∈ L) (kbu : K bu = 150) (cs : Nat) (hcs : cs ∈ L) (kcs : K cs = 161) (c1 : Nat) (hc1 : c1 ∈ L) (kc1 : K c1 = 162) (c2 : Nat) (hc2 : c2 ∈ L) (kc2 : K c2 = 163) (c3 : Nat) (hc3 : c3 ∈ L) (kc3 : K c3 = 164) (xp : Int) (lxp : 0 ≤ xp) (uxp : xp ≤ 600) (xo : Int) (lxo : 0 ≤ xo) (uxo : xo ≤ 2) (hf0 : q_is (q_z f mo 8) 0) (hf1 : q_is (q_z f mo 4) xp) (hf2 : q_is (q_z f mo 37) xo) (hr0 : q_ir (q_r f mo 13) sr) (hr1 : q_ir (q_r f mo 18) nm) (hr2 : q_ir (q_r f mo 1) bu) (hr3 : q_ir (q_r f mo 29) cs) (hr4 : q_ir (q_r f mo 30) c1) (hr5 : q_ir (q_r f mo 31) c2) (hr6 : q_ir (q_r f mo 32) c3) (hsc : q_sc f mo cs c1 c2) : q_Ct l g K L yX12_command cX12_command 3 none 5 112 [.ref mo] f [(12, 4, 9), (12, 12, 12), (12, 35, 37), (161, 0, 58), (162, 0, 58), (163, 0, 58), (164, 0, 58)] (q_Pv (fun (f1 : Nat → va_E) => (q_is (q_z f1 mo 8) 0 ∧ q_is (q_z f1 mo 37) xo ∧ (xp ≤ q_z f1 mo 4) ∧ (k_po (q_z f1 mo 6) (q_z f1 mo 4) xp) ∧ (q_sc f1 mo cs c1 c2)) ∨ (q_is (q_z f1 mo 8) 0 ∧ q_is (q_z f1 mo 37) (xo + 1) ∧ (xp < q_z f1 mo 4) ∧ (q_sc f1 mo cs c1 c2)) ∨ (1 ≤ q_z f1 mo 8 ∧ q_z f1 mo 8 ≤ 5))) := by
  refine q_ofb (by decide +kernel) hN hT (Nat.le_of_ble_eq_true rfl) ?_
  intro p e s m below meth c ls cx hr hlk hB hl
  have hl : lv_has ls 3 [(0, .ref mo)] := hl
  obtain ⟨H, hH⟩ : ∃ H : Heap, H = s.heap := ⟨_, rfl⟩
  obtain ⟨locs, hlocs⟩ : ∃ z : List Loc, z = [] := ⟨_, rfl⟩
  rw [← hH, ← hlocs] at hB
  rw [← hH, ← hlocs]
  obtain ⟨x1362, ex1362⟩ : ∃ zz, q_is (q_z f mo 35) zz := ⟨_, q_isr _⟩
  obtain ⟨lx1362, ux1362⟩ := q_isb ex1362 (q_fib hB.2.1 hmo kmo (by decide) rfl)
  obtain ⟨x1363, ex1363⟩ : ∃ zz, q_is (q_z f mo 36) zz := ⟨_, q_isr _⟩
  obtain ⟨lx1363, ux1363⟩ := q_isb ex1363 (q_fib hB.2.1 hmo kmo (by decide) rfl)
  have hq0 : x1362 + xo ≤ 2 * x1363 := by have h7 := hsc.2.2.2; have h70 : _ = _ := ex1362; have h71 : _ = _ := ex1363; have h72 : _ = _ := hf2; omega
  have hbx : k_bl f f c1 c2 60 := k_bl_rf _ _ _ _
  have hbs : k_b1 f f cs x1362 := k_b1_rf _ _ _
  refine q_ald_n cx dX12_command_0 rfl (lv_at hl 0 rfl) ?_
  refine q_cVi (As := []) (rest := []) cx hB (fun _ h => h) hN hmo kmo (by decide) rfl (r_commandHere0 l g hN hB.2.1 mo hmo kmo hf0) q_cX12_485 q_dX12_commandHere (by decide) rfl rfl hl.1 rfl (Nat.le_of_ble_eq_true rfl) dX12_command_1 (fun y1365 H locs f1364 ry1365 h1366 hF hB => ?_)
  rcases h1366 with h1367 | h1368 | h1369 | h1370 | h1371 | h1372 | h1373 | h1374
  · obtain ⟨rfl, qy1365⟩ := h1367
    subst qy1365
    refine lv_istore_n (lv' := [(1, .int (q_i 0)), (0, .ref mo)]) cx.1 cx.2.1 dX12_command_4 rfl hl (by decide) rfl (fun ls hl => ?_)
    refine q_ild_n cx dX12_command_5 rfl (lv_at hl 0 rfl) ?_
    refine q_iconst cx dX12_command_6 ?_
    refine q_icne (tgt := 15) cx ⟨by decide, by decide⟩ ⟨by decide, by decide⟩ dX12_command_7 (by decide) (fun c1375 => ?_) (fun c1375 => ?_)
    · refine q_ild_n cx dX12_command_15 rfl (lv_at hl 0 rfl) ?_
      refine q_bipush cx dX12_command_16 rfl ?_
      refine q_icne (tgt := 34) cx ⟨by decide, by decide⟩ ⟨by decide, by decide⟩ dX12_command_18 (by decide) (fun c1376 => ?_) (fun c1376 => ?_)
      · refine q_ald_n cx dX12_command_34 rfl (lv_at hl 1 rfl) ?_
        refine q_gX12_491 cx hB hmo kmo ex1363 dX12_command_35 (fun lb1377 ub1377 => ?_)
        refine q_bipush cx dX12_command_38 rfl ?_
        refine q_icne (tgt := 48) cx ⟨by omega, by omega⟩ ⟨by decide, by decide⟩ dX12_command_40 (by decide) (fun c1378 => ?_) (fun c1378 => ?_)
        · refine q_ald_n cx dX12_command_48 rfl (lv_at hl 1 rfl) ?_
          refine q_cVi (As := []) (rest := []) cx hB (fun _ h => h) hN hmo kmo (by decide) rfl (r_isGood0 l g hN hB.2.1 mo hmo kmo hf0) q_cX12_130 q_dX12_isGood (by decide) rfl rfl hl.1 rfl (Nat.le_of_ble_eq_true rfl) dX12_command_49 (fun y1380 H locs f1379 ry1380 h1381 hF hB => ?_)
          obtain ⟨rfl, qy1380⟩ := h1381
          subst qy1380
          refine q_ifne (tgt := 56) cx ⟨by decide, by decide⟩ dX12_command_52 (by decide) (fun c1382 => ?_) (fun c1382 => ?_)
          · refine q_ald_n cx dX12_command_56 rfl (lv_at hl 1 rfl) ?_
            refine lv_dup cx.1 cx.2.1 dX12_command_57 rfl ?_
            refine q_gX12_491 cx hB hmo kmo ex1363 dX12_command_58 (fun lb1383 ub1383 => ?_)
            refine q_iconst cx dX12_command_61 ?_
            refine q_iadd cx dX12_command_62 ?_
            refine q_pX12_491 cx hB hmo kmo ⟨by omega, by omega⟩ (by omega) (by omega) rfl dX12_command_63 (fun H locs f1384 ef1384 z1385 hB => ?_)
            have z1386 : q_is (q_z f1384 mo 8) 0 := by rw [ef1384, q_setz (Or.inr (by decide))]; exact hf0
            have z1387 : q_is (q_z f1384 mo 4) xp := by rw [ef1384, q_setz (Or.inr (by decide))]; exact hf1
            have z1388 : q_is (q_z f1384 mo 37) xo := by rw [ef1384, q_setz (Or.inr (by decide))]; exact hf2
            have z1389 : q_is (q_z f1384 mo 35) x1362 := by rw [ef1384, q_setz (Or.inr (by decide))]; exact ex1362
            have z1390 : q_ir (q_r f1384 mo 13) sr := by rw [ef1384, q_setr (Or.inr (by decide))]; exact hr0
            have z1391 : q_ir (q_r f1384 mo 18) nm := by rw [ef1384, q_setr (Or.inr (by decide))]; exact hr1
            have z1392 : q_ir (q_r f1384 mo 1) bu := by rw [ef1384, q_setr (Or.inr (by decide))]; exact hr2
            have z1393 : q_ir (q_r f1384 mo 29) cs := by rw [ef1384, q_setr (Or.inr (by decide))]; exact hr3
            have z1394 : q_ir (q_r f1384 mo 30) c1 := by rw [ef1384, q_setr (Or.inr (by decide))]; exact hr4
            have z1395 : q_ir (q_r f1384 mo 31) c2 := by rw [ef1384, q_setr (Or.inr (by decide))]; exact hr5
            have z1396 : q_ir (q_r f1384 mo 32) c3 := by rw [ef1384, q_setr (Or.inr (by decide))]; exact hr6
            have g1397 : k_bl f f1384 c1 c2 60 := k_bl_tr hbx (fun i9 => by rw [ef1384, q_setz (Or.inl (fun q => by rw [q, kmo] at kc1; exact absurd kc1 (by decide)))]) (fun i9 => by rw [ef1384, q_setz (Or.inl (fun q => by rw [q, kmo] at kc2; exact absurd kc2 (by decide)))])
            have g1398 : k_b1 f f1384 cs x1362 := k_b1_tr hbs (fun i9 => by rw [ef1384, q_setz (Or.inl (fun q => by rw [q, kmo] at kcs; exact absurd kcs (by decide)))])
            refine q_ald_n cx dX12_command_66 rfl (lv_at hl 1 rfl) ?_
            obtain ⟨x1399, ex1399⟩ : ∃ zz, q_is (q_z f1384 mo 3) zz := ⟨_, q_isr _⟩
            obtain ⟨lx1399, ux1399⟩ := q_isb ex1399 (q_fib hB.2.1 hmo kmo (by decide) rfl)
            refine q_cVv (As := []) (rest := []) cx hB (fun _ h => h) hN hmo kmo (by decide) rfl (r_goOn l g hN hB.2.1 mo hmo kmo bu hbu kbu xp (by omega) (by omega) x1399 (by omega) (by omega) z1387 ex1399 z1392) q_cX12_140 q_dX12_goOn (by decide) rfl rfl hl.1 rfl (Nat.le_of_ble_eq_true rfl) dX12_command_67 (fun H locs f1400 h1402 hF hB => ?_)
            obtain ⟨t1403, t1404⟩ := h1402
            have z1405 : q_is (q_z f1400 mo 8) 0 := Eq.trans (hF.z hmo (by rw [kmo]; rfl)) z1386
            have z1406 : q_is (q_z f1400 mo 37) xo := Eq.trans (hF.z hmo (by rw [kmo]; rfl)) z1388
            have z1407 : q_is (q_z f1400 mo 35) x1362 := Eq.trans (hF.z hmo (by rw [kmo]; rfl)) z1389
            have z1408 : q_is (q_z f1400 mo 36) (x1363 + 1) := Eq.trans (hF.z hmo (by rw [kmo]; rfl)) z1385
            have z1409 : q_is (q_z f1400 mo 3) x1399 := Eq.trans (hF.z hmo (by rw [kmo]; rfl)) ex1399
            have z1410 : q_ir (q_r f1400 mo 13) sr := Eq.trans (hF.r hmo (by rw [kmo]; rfl)) z1390
            have z1411 : q_ir (q_r f1400 mo 18) nm := Eq.trans (hF.r hmo (by rw [kmo]; rfl)) z1391
            have z1412 : q_ir (q_r f1400 mo 1) bu := Eq.trans (hF.r hmo (by rw [kmo]; rfl)) z1392
            have z1413 : q_ir (q_r f1400 mo 29) cs := Eq.trans (hF.r hmo (by rw [kmo]; rfl)) z1393
            have z1414 : q_ir (q_r f1400 mo 30) c1 := Eq.trans (hF.r hmo (by rw [kmo]; rfl)) z1394
            have z1415 : q_ir (q_r f1400 mo 31) c2 := Eq.trans (hF.r hmo (by rw [kmo]; rfl)) z1395
            have z1416 : q_ir (q_r f1400 mo 32) c3 := Eq.trans (hF.r hmo (by rw [kmo]; rfl)) z1396
            have g1417 : k_bl f f1400 c1 c2 60 := k_bl_tr g1397 (fun i9 => hF.z hc1 (by rw [kc1]; rfl)) (fun i9 => hF.z hc2 (by rw [kc2]; rfl))
            have g1418 : k_b1 f f1400 cs x1362 := k_b1_tr g1398 (fun i9 => hF.z hcs (by rw [kcs]; rfl))
            obtain ⟨x1419, ex1419⟩ : ∃ zz, q_is (q_z f1400 mo 4) zz := ⟨_, q_isr _⟩
            obtain ⟨lx1419, ux1419⟩ := q_isb ex1419 (q_fib hB.2.1 hmo kmo (by decide) rfl)
            obtain ⟨x1420, ex1420⟩ : ∃ zz, q_is (q_z f1400 mo 6) zz := ⟨_, q_isr _⟩
            obtain ⟨lx1420, ux1420⟩ := q_isb ex1420 (q_fib hB.2.1 hmo kmo (by decide) rfl)
            replace t1403 := q_isl9 ex1419 t1403
            replace t1404 := k_po_si ex1420 ex1419 t1404
            refine q_ald_n cx dX12_command_70 rfl (lv_at hl 1 rfl) ?_
            refine q_gX12_494 cx hB hmo kmo z1407 dX12_command_71 (fun lb1421 ub1421 => ?_)
            refine lv_istore_n (lv' := [(2, .int (q_i x1362)), (1, .int (q_i 0)), (0, .ref mo)]) cx.1 cx.2.1 dX12_command_74 rfl hl (by decide) rfl (fun ls hl => ?_)
            refine q_ald_n cx dX12_command_75 rfl (lv_at hl 2 rfl) ?_
            refine q_gX12_51 cx hB hmo kmo z1413 dX12_command_76 (fun hb1422 kb1422 => ?_)
            refine q_ild_n cx dX12_command_79 rfl (lv_at hl 0 rfl) ?_
            refine q_ild_n cx dX12_command_80 rfl (lv_at hl 1 rfl) ?_
            refine q_iast (lo := 0) (hi := 7) (n := 60) cx hB hcs kcs (by decide) rfl rfl (by omega) (by omega) (by decide) rfl ⟨by decide, by decide⟩ (by decide) (by decide) (q_inWi (lo := 0) (hi := 58) (by decide) (by omega) (by omega)) dX12_command_81 (fun H locs f1423 ef1423 z1424 hB => ?_)
            have z1425 : q_is (q_z f1423 mo 8) 0 := by rw [ef1423, q_setz (Or.inl (fun q => by rw [q, kcs] at kmo; exact absurd kmo (by decide)))]; exact z1405
            have z1426 : q_is (q_z f1423 mo 37) xo := by rw [ef1423, q_setz (Or.inl (fun q => by rw [q, kcs] at kmo; exact absurd kmo (by decide)))]; exact z1406
            have z1427 : q_is (q_z f1423 mo 35) x1362 := by rw [ef1423, q_setz (Or.inl (fun q => by rw [q, kcs] at kmo; exact absurd kmo (by decide)))]; exact z1407
            have z1428 : q_is (q_z f1423 mo 36) (x1363 + 1) := by rw [ef1423, q_setz (Or.inl (fun q => by rw [q, kcs] at kmo; exact absurd kmo (by decide)))]; exact z1408
            have z1429 : q_is (q_z f1423 mo 3) x1399 := by rw [ef1423, q_setz (Or.inl (fun q => by rw [q, kcs] at kmo; exact absurd kmo (by decide)))]; exact z1409
            have z1430 : q_is (q_z f1423 mo 4) x1419 := by rw [ef1423, q_setz (Or.inl (fun q => by rw [q, kcs] at kmo; exact absurd kmo (by decide)))]; exact ex1419
            have z1431 : q_is (q_z f1423 mo 6) x1420 := by rw [ef1423, q_setz (Or.inl (fun q => by rw [q, kcs] at kmo; exact absurd kmo (by decide)))]; exact ex1420
            have z1432 : q_ir (q_r f1423 mo 13) sr := by rw [ef1423, q_setr (Or.inl (fun q => by rw [q, kcs] at kmo; exact absurd kmo (by decide)))]; exact z1410
            have z1433 : q_ir (q_r f1423 mo 18) nm := by rw [ef1423, q_setr (Or.inl (fun q => by rw [q, kcs] at kmo; exact absurd kmo (by decide)))]; exact z1411
            have z1434 : q_ir (q_r f1423 mo 1) bu := by rw [ef1423, q_setr (Or.inl (fun q => by rw [q, kcs] at kmo; exact absurd kmo (by decide)))]; exact z1412
            have z1435 : q_ir (q_r f1423 mo 29) cs := by rw [ef1423, q_setr (Or.inl (fun q => by rw [q, kcs] at kmo; exact absurd kmo (by decide)))]; exact z1413
            have z1436 : q_ir (q_r f1423 mo 30) c1 := by rw [ef1423, q_setr (Or.inl (fun q => by rw [q, kcs] at kmo; exact absurd kmo (by decide)))]; exact z1414
            have z1437 : q_ir (q_r f1423 mo 31) c2 := by rw [ef1423, q_setr (Or.inl (fun q => by rw [q, kcs] at kmo; exact absurd kmo (by decide)))]; exact z1415
            have z1438 : q_ir (q_r f1423 mo 32) c3 := by rw [ef1423, q_setr (Or.inl (fun q => by rw [q, kcs] at kmo; exact absurd kmo (by decide)))]; exact z1416
            have g1439 : k_bl f f1423 c1 c2 60 := k_bl_tr g1417 (fun i9 => by rw [ef1423, q_setz (Or.inl (fun q => by rw [q, kcs] at kc1; exact absurd kc1 (by decide)))]) (fun i9 => by rw [ef1423, q_setz (Or.inl (fun q => by rw [q, kcs] at kc2; exact absurd kc2 (by decide)))])
            have g1440 : k_b1 f f1423 cs x1362 := k_b1_s g1418 ef1423 (by omega)
            refine q_ald_n cx dX12_command_82 rfl (lv_at hl 2 rfl) ?_
            refine q_ild_n cx dX12_command_83 rfl (lv_at hl 0 rfl) ?_
            refine q_ild_n cx dX12_command_84 rfl (lv_at hl 1 rfl) ?_
            refine q_cVv (As := [.int (q_i x1362), .int (q_i 0)]) (rest := []) cx hB (fun _ h => h) hN hmo kmo (by decide) rfl (r_readsNumbers0 l g hN hB.2.1 mo hmo kmo x1362 (by omega) (by omega) 0 (by decide) (by decide) sr hsr ksr nm hnm knm bu hbu kbu c1 hc1 kc1 c2 hc2 kc2 c3 hc3 kc3 x1419 (by omega) (by omega) z1425 z1430 z1432 z1433 z1434 z1436 z1437 z1438) q_cX12_497 q_dX12_readsNumbers (by decide) rfl rfl hl.1 rfl (Nat.le_of_ble_eq_true rfl) dX12_command_85 (fun H locs f1441 h1443 hF hB => ?_)
            rcases h1443 with h1444 | h1445
            · obtain ⟨z1446, t1447, t1448, t1449, t1450⟩ := h1444
              have z1451 : q_is (q_z f1441 mo 37) xo := Eq.trans (hF.z hmo (by rw [kmo]; rfl)) z1426
              have z1452 : q_is (q_z f1441 mo 35) x1362 := Eq.trans (hF.z hmo (by rw [kmo]; rfl)) z1427
              have z1453 : q_is (q_z f1441 mo 36) (x1363 + 1) := Eq.trans (hF.z hmo (by rw [kmo]; rfl)) z1428
              have z1454 : q_is (q_z f1441 mo 3) x1399 := Eq.trans (hF.z hmo (by rw [kmo]; rfl)) z1429
              have z1455 : q_is (q_z f1441 cs (Int.toNat x1362)) 0 := Eq.trans (hF.z hcs (by rw [kcs]; rfl)) z1424
              have z1456 : q_ir (q_r f1441 mo 13) sr := Eq.trans (hF.r hmo (by rw [kmo]; rfl)) z1432
              have z1457 : q_ir (q_r f1441 mo 18) nm := Eq.trans (hF.r hmo (by rw [kmo]; rfl)) z1433
              have z1458 : q_ir (q_r f1441 mo 1) bu := Eq.trans (hF.r hmo (by rw [kmo]; rfl)) z1434
              have z1459 : q_ir (q_r f1441 mo 29) cs := Eq.trans (hF.r hmo (by rw [kmo]; rfl)) z1435
              have z1460 : q_ir (q_r f1441 mo 30) c1 := Eq.trans (hF.r hmo (by rw [kmo]; rfl)) z1436
              have z1461 : q_ir (q_r f1441 mo 31) c2 := Eq.trans (hF.r hmo (by rw [kmo]; rfl)) z1437
              have z1462 : q_ir (q_r f1441 mo 32) c3 := Eq.trans (hF.r hmo (by rw [kmo]; rfl)) z1438
              have g1463 : k_b1 f f1441 cs x1362 := k_b1_tr g1440 (fun i9 => hF.z hcs (by rw [kcs]; rfl))
              obtain ⟨x1464, ex1464⟩ : ∃ zz, q_is (q_z f1441 mo 4) zz := ⟨_, q_isr _⟩
              obtain ⟨lx1464, ux1464⟩ := q_isb ex1464 (q_fib hB.2.1 hmo kmo (by decide) rfl)
              obtain ⟨x1465, ex1465⟩ : ∃ zz, q_is (q_z f1441 mo 6) zz := ⟨_, q_isr _⟩
              obtain ⟨lx1465, ux1465⟩ := q_isb ex1465 (q_fib hB.2.1 hmo kmo (by decide) rfl)
              replace t1447 := q_isl9 ex1464 t1447
              replace t1448 := k_po_si ex1465 ex1464 t1448
              have hb9 : k_bl f f1441 c1 c2 x1362 := k_bl_cat g1439 t1450 (by omega)
              refine q_ald_n cx dX12_command_88 rfl (lv_at hl 2 rfl) ?_
              refine q_cVi (As := []) (rest := []) cx hB (fun _ h => h) hN hmo kmo (by decide) rfl (r_isGood0 l g hN hB.2.1 mo hmo kmo z1446) q_cX12_130 q_dX12_isGood (by decide) rfl rfl hl.1 rfl (Nat.le_of_ble_eq_true rfl) dX12_command_89 (fun y1467 H locs f1466 ry1467 h1468 hF hB => ?_)
              obtain ⟨rfl, qy1467⟩ := h1468
              subst qy1467
              refine q_ifne (tgt := 96) cx ⟨by decide, by decide⟩ dX12_command_92 (by decide) (fun c1469 => ?_) (fun c1469 => ?_)
              · refine q_ald_n cx dX12_command_96 rfl (lv_at hl 2 rfl) ?_
                refine lv_dup cx.1 cx.2.1 dX12_command_97 rfl ?_
                refine q_gX12_494 cx hB hmo kmo z1452 dX12_command_98 (fun lb1470 ub1470 => ?_)
                refine q_iconst cx dX12_command_101 ?_
                refine q_iadd cx dX12_command_102 ?_
                refine q_pX12_494 cx hB hmo kmo ⟨by omega, by omega⟩ (by omega) (by omega) rfl dX12_command_103 (fun H locs f1471 ef1471 z1472 hB => ?_)
                have z1473 : q_is (q_z f1471 mo 37) xo := by rw [ef1471, q_setz (Or.inr (by decide))]; exact z1451
                have z1474 : q_is (q_z f1471 mo 36) (x1363 + 1) := by rw [ef1471, q_setz (Or.inr (by decide))]; exact z1453
                have z1475 : q_is (q_z f1471 mo 3) x1399 := by rw [ef1471, q_setz (Or.inr (by decide))]; exact z1454
                have z1476 : q_is (q_z f1471 cs (Int.toNat x1362)) 0 := by rw [ef1471, q_setz (Or.inl (fun q => by rw [q, kmo] at kcs; exact absurd kcs (by decide)))]; exact z1455
                have z1477 : q_is (q_z f1471 mo 8) 0 := by rw [ef1471, q_setz (Or.inr (by decide))]; exact z1446
                have z1478 : q_is (q_z f1471 mo 4) x1464 := by rw [ef1471, q_setz (Or.inr (by decide))]; exact ex1464
                have z1479 : q_is (q_z f1471 mo 6) x1465 := by rw [ef1471, q_setz (Or.inr (by decide))]; exact ex1465
                have z1480 : q_ir (q_r f1471 mo 13) sr := by rw [ef1471, q_setr (Or.inr (by decide))]; exact z1456
                have z1481 : q_ir (q_r f1471 mo 18) nm := by rw [ef1471, q_setr (Or.inr (by decide))]; exact z1457
                have z1482 : q_ir (q_r f1471 mo 1) bu := by rw [ef1471, q_setr (Or.inr (by decide))]; exact z1458
                have z1483 : q_ir (q_r f1471 mo 29) cs := by rw [ef1471, q_setr (Or.inr (by decide))]; exact z1459
                have z1484 : q_ir (q_r f1471 mo 30) c1 := by rw [ef1471, q_setr (Or.inr (by decide))]; exact z1460
                have z1485 : q_ir (q_r f1471 mo 31) c2 := by rw [ef1471, q_setr (Or.inr (by decide))]; exact z1461
                have z1486 : q_ir (q_r f1471 mo 32) c3 := by rw [ef1471, q_setr (Or.inr (by decide))]; exact z1462
                have g1487 : k_b1 f f1471 cs x1362 := k_b1_tr g1463 (fun i9 => by rw [ef1471, q_setz (Or.inl (fun q => by rw [q, kmo] at kcs; exact absurd kcs (by decide)))])
                have g1488 : k_cc 0 f1471 c1 c2 (Int.toNat x1362) := k_cc_tr t1449 (fun i9 => by rw [ef1471, q_setz (Or.inl (fun q => by rw [q, kmo] at kc1; exact absurd kc1 (by decide)))]) (fun i9 => by rw [ef1471, q_setz (Or.inl (fun q => by rw [q, kmo] at kc2; exact absurd kc2 (by decide)))])
                have g1489 : k_bl f f1471 c1 c2 x1362 := k_bl_tr hb9 (fun i9 => by rw [ef1471, q_setz (Or.inl (fun q => by rw [q, kmo] at kc1; exact absurd kc1 (by decide)))]) (fun i9 => by rw [ef1471, q_setz (Or.inl (fun q => by rw [q, kmo] at kc2; exact absurd kc2 (by decide)))])
                refine q_ald_n cx dX12_command_106 rfl (lv_at hl 2 rfl) ?_
                refine lv_dup cx.1 cx.2.1 dX12_command_107 rfl ?_
                refine q_gX12_488 cx hB hmo kmo z1473 dX12_command_108 (fun lb1490 ub1490 => ?_)
                refine q_ild_n cx dX12_command_111 rfl (lv_at hl 1 rfl) ?_
                refine q_bipush cx dX12_command_112 rfl ?_
                refine q_icne (tgt := 121) cx ⟨by decide, by decide⟩ ⟨by decide, by decide⟩ dX12_command_114 (by decide) (fun c1491 => ?_) (fun c1491 => ?_)
                · refine q_iconst cx dX12_command_121 ?_
                  refine q_cSi (As := [.int (q_i 0)]) (rest := [.int (q_i xo), .ref mo]) cx hB (fun _ h => h) hN (r_truth0 l g hN hB.2.1 0 (by decide) (by decide)) q_cX12_78 q_dX12_truth (by decide) rfl rfl hl.1 rfl (Nat.le_of_ble_eq_true rfl) dX12_command_122 (fun y1493 H locs f1492 ry1493 h1494 hF hB => ?_)
                  obtain ⟨rfl, qy1493⟩ := h1494
                  subst qy1493
                  refine q_iadd cx dX12_command_125 ?_
                  refine q_pX12_488 cx hB hmo kmo ⟨by omega, by omega⟩ (by omega) (by omega) rfl dX12_command_126 (fun H locs f1495 ef1495 z1496 hB => ?_)
                  have z1497 : q_is (q_z f1495 mo 36) (x1363 + 1) := by rw [ef1495, q_setz (Or.inr (by decide))]; exact z1474
                  have z1498 : q_is (q_z f1495 mo 3) x1399 := by rw [ef1495, q_setz (Or.inr (by decide))]; exact z1475
                  have z1499 : q_is (q_z f1495 cs (Int.toNat x1362)) 0 := by rw [ef1495, q_setz (Or.inl (fun q => by rw [q, kmo] at kcs; exact absurd kcs (by decide)))]; exact z1476
                  have z1500 : q_is (q_z f1495 mo 8) 0 := by rw [ef1495, q_setz (Or.inr (by decide))]; exact z1477
                  have z1501 : q_is (q_z f1495 mo 4) x1464 := by rw [ef1495, q_setz (Or.inr (by decide))]; exact z1478
                  have z1502 : q_is (q_z f1495 mo 6) x1465 := by rw [ef1495, q_setz (Or.inr (by decide))]; exact z1479
                  have z1503 : q_is (q_z f1495 mo 35) (x1362 + 1) := by rw [ef1495, q_setz (Or.inr (by decide))]; exact z1472
                  have z1504 : q_ir (q_r f1495 mo 13) sr := by rw [ef1495, q_setr (Or.inr (by decide))]; exact z1480
                  have z1505 : q_ir (q_r f1495 mo 18) nm := by rw [ef1495, q_setr (Or.inr (by decide))]; exact z1481
                  have z1506 : q_ir (q_r f1495 mo 1) bu := by rw [ef1495, q_setr (Or.inr (by decide))]; exact z1482
                  have z1507 : q_ir (q_r f1495 mo 29) cs := by rw [ef1495, q_setr (Or.inr (by decide))]; exact z1483
                  have z1508 : q_ir (q_r f1495 mo 30) c1 := by rw [ef1495, q_setr (Or.inr (by decide))]; exact z1484
                  have z1509 : q_ir (q_r f1495 mo 31) c2 := by rw [ef1495, q_setr (Or.inr (by decide))]; exact z1485
                  have z1510 : q_ir (q_r f1495 mo 32) c3 := by rw [ef1495, q_setr (Or.inr (by decide))]; exact z1486
                  have g1511 : k_b1 f f1495 cs x1362 := k_b1_tr g1487 (fun i9 => by rw [ef1495, q_setz (Or.inl (fun q => by rw [q, kmo] at kcs; exact absurd kcs (by decide)))])
                  have g1512 : k_cc 0 f1495 c1 c2 (Int.toNat x1362) := k_cc_tr g1488 (fun i9 => by rw [ef1495, q_setz (Or.inl (fun q => by rw [q, kmo] at kc1; exact absurd kc1 (by decide)))]) (fun i9 => by rw [ef1495, q_setz (Or.inl (fun q => by rw [q, kmo] at kc2; exact absurd kc2 (by decide)))])
                  have g1513 : k_bl f f1495 c1 c2 x1362 := k_bl_tr g1489 (fun i9 => by rw [ef1495, q_setz (Or.inl (fun q => by rw [q, kmo] at kc1; exact absurd kc1 (by decide)))]) (fun i9 => by rw [ef1495, q_setz (Or.inl (fun q => by rw [q, kmo] at kc2; exact absurd kc2 (by decide)))])
                  have hsp : k_stp 0 = 0 := rfl
                  have hsc9 : q_sc f1495 mo cs c1 c2 := k_sc_add (c := 0) hsc ex1362 hf2 ex1363 z1503 z1497 (Eq.trans z1496 (by rw [hsp] <;> omega)) (by omega) z1499 g1512 g1511 g1513 (by rw [hsp] <;> omega) (by rw [hsp] <;> omega)
                  refine q_vret cx hr hlk hB dX12_command_129 ?_
                  exact (Or.inl ⟨z1500, (Eq.trans z1496 (by omega)), (q_isl z1501 (by omega)), (k_po_is z1502 z1501 (k_po_mono t1448 (by omega))), hsc9⟩)
                · exact absurd c1491 (by omega)
              · exact absurd c1469 (by omega)
            · obtain ⟨lz1514, uz1514⟩ := h1445
              have z1515 : q_is (q_z f1441 mo 37) xo := Eq.trans (hF.z hmo (by rw [kmo]; rfl)) z1426
              have z1516 : q_is (q_z f1441 mo 35) x1362 := Eq.trans (hF.z hmo (by rw [kmo]; rfl)) z1427
              have z1517 : q_is (q_z f1441 mo 36) (x1363 + 1) := Eq.trans (hF.z hmo (by rw [kmo]; rfl)) z1428
              have z1518 : q_is (q_z f1441 mo 3) x1399 := Eq.trans (hF.z hmo (by rw [kmo]; rfl)) z1429
              have z1519 : q_is (q_z f1441 cs (Int.toNat x1362)) 0 := Eq.trans (hF.z hcs (by rw [kcs]; rfl)) z1424
              have z1520 : q_ir (q_r f1441 mo 13) sr := Eq.trans (hF.r hmo (by rw [kmo]; rfl)) z1432
              have z1521 : q_ir (q_r f1441 mo 18) nm := Eq.trans (hF.r hmo (by rw [kmo]; rfl)) z1433
              have z1522 : q_ir (q_r f1441 mo 1) bu := Eq.trans (hF.r hmo (by rw [kmo]; rfl)) z1434
              have z1523 : q_ir (q_r f1441 mo 29) cs := Eq.trans (hF.r hmo (by rw [kmo]; rfl)) z1435
              have z1524 : q_ir (q_r f1441 mo 30) c1 := Eq.trans (hF.r hmo (by rw [kmo]; rfl)) z1436
              have z1525 : q_ir (q_r f1441 mo 31) c2 := Eq.trans (hF.r hmo (by rw [kmo]; rfl)) z1437
              have z1526 : q_ir (q_r f1441 mo 32) c3 := Eq.trans (hF.r hmo (by rw [kmo]; rfl)) z1438
              have g1527 : k_b1 f f1441 cs x1362 := k_b1_tr g1440 (fun i9 => hF.z hcs (by rw [kcs]; rfl))
              obtain ⟨x1528, ex1528⟩ : ∃ zz, q_is (q_z f1441 mo 8) zz := ⟨_, q_isr _⟩
              obtain ⟨lx1528, ux1528⟩ := q_isb ex1528 ⟨lz1514, uz1514⟩
              obtain ⟨x1529, ex1529⟩ : ∃ zz, q_is (q_z f1441 mo 4) zz := ⟨_, q_isr _⟩
              obtain ⟨lx1529, ux1529⟩ := q_isb ex1529 (q_fib hB.2.1 hmo kmo (by decide) rfl)
              obtain ⟨x1530, ex1530⟩ : ∃ zz, q_is (q_z f1441 mo 6) zz := ⟨_, q_isr _⟩
              obtain ⟨lx1530, ux1530⟩ := q_isb ex1530 (q_fib hB.2.1 hmo kmo (by decide) rfl)
              refine q_ald_n cx dX12_command_88 rfl (lv_at hl 2 rfl) ?_
              refine q_cVi (As := []) (rest := []) cx hB (fun _ h => h) hN hmo kmo (by decide) rfl (r_isGood1 l g hN hB.2.1 mo hmo kmo x1528 (by omega) (by omega) ex1528) q_cX12_130 q_dX12_isGood (by decide) rfl rfl hl.1 rfl (Nat.le_of_ble_eq_true rfl) dX12_command_89 (fun y1532 H locs f1531 ry1532 h1533 hF hB => ?_)
              obtain ⟨rfl, qy1532⟩ := h1533
              subst qy1532
              refine q_ifne (tgt := 96) cx ⟨by decide, by decide⟩ dX12_command_92 (by decide) (fun c1534 => ?_) (fun c1534 => ?_)
              · exact absurd c1534 (by omega)
              · refine q_vret cx hr hlk hB dX12_command_95 ?_
                exact (Or.inr (Or.inr ⟨(q_isl ex1528 (by omega)), (q_isu ex1528 (by omega))⟩))
          · exact absurd c1382 (by omega)
        · refine q_ald_n cx dX12_command_43 rfl (lv_at hl 1 rfl) ?_
          refine q_iconst cx dX12_command_44 ?_
          refine q_cVv (As := [.int (q_i 5)]) (rest := []) cx hB (fun _ h => h) hN hmo kmo (by decide) rfl (r_wrong0 l g hN hB.2.1 mo hmo kmo 5 (by decide) (by decide) hf0) q_cX12_137 q_dX12_wrong (by decide) rfl rfl hl.1 rfl (Nat.le_of_ble_eq_true rfl) dX12_command_45 (fun H locs f1535 h1537 hF hB => ?_)
          obtain ⟨lz1538, uz1538⟩ := h1537
          have z1539 : q_is (q_z f1535 mo 4) xp := Eq.trans (hF.z hmo (by rw [kmo]; rfl)) hf1
          have z1540 : q_is (q_z f1535 mo 37) xo := Eq.trans (hF.z hmo (by rw [kmo]; rfl)) hf2
          have z1541 : q_is (q_z f1535 mo 35) x1362 := Eq.trans (hF.z hmo (by rw [kmo]; rfl)) ex1362
          have z1542 : q_is (q_z f1535 mo 36) x1363 := Eq.trans (hF.z hmo (by rw [kmo]; rfl)) ex1363
          have z1543 : q_ir (q_r f1535 mo 13) sr := Eq.trans (hF.r hmo (by rw [kmo]; rfl)) hr0
          have z1544 : q_ir (q_r f1535 mo 18) nm := Eq.trans (hF.r hmo (by rw [kmo]; rfl)) hr1
          have z1545 : q_ir (q_r f1535 mo 1) bu := Eq.trans (hF.r hmo (by rw [kmo]; rfl)) hr2
          have z1546 : q_ir (q_r f1535 mo 29) cs := Eq.trans (hF.r hmo (by rw [kmo]; rfl)) hr3
          have z1547 : q_ir (q_r f1535 mo 30) c1 := Eq.trans (hF.r hmo (by rw [kmo]; rfl)) hr4
          have z1548 : q_ir (q_r f1535 mo 31) c2 := Eq.trans (hF.r hmo (by rw [kmo]; rfl)) hr5
          have z1549 : q_ir (q_r f1535 mo 32) c3 := Eq.trans (hF.r hmo (by rw [kmo]; rfl)) hr6
          have g1550 : q_sc f1535 mo cs c1 c2 := q_sc_tr hsc (hF.z hmo (by rw [kmo]; rfl)) (hF.z hmo (by rw [kmo]; rfl)) (hF.z hmo (by rw [kmo]; rfl)) (fun i9 => hF.z hcs (by rw [kcs]; rfl)) (fun i9 => hF.z hc1 (by rw [kc1]; rfl)) (fun i9 => hF.z hc2 (by rw [kc2]; rfl))
          have g1551 : k_bl f f1535 c1 c2 60 := k_bl_tr hbx (fun i9 => hF.z hc1 (by rw [kc1]; rfl)) (fun i9 => hF.z hc2 (by rw [kc2]; rfl))
          have g1552 : k_b1 f f1535 cs x1362 := k_b1_tr hbs (fun i9 => hF.z hcs (by rw [kcs]; rfl))
          obtain ⟨x1553, ex1553⟩ : ∃ zz, q_is (q_z f1535 mo 8) zz := ⟨_, q_isr _⟩
          obtain ⟨lx1553, ux1553⟩ := q_isb ex1553 ⟨lz1538, uz1538⟩
          refine q_ald_n cx dX12_command_48 rfl (lv_at hl 1 rfl) ?_
          refine q_cVi (As := []) (rest := []) cx hB (fun _ h => h) hN hmo kmo (by decide) rfl (r_isGood1 l g hN hB.2.1 mo hmo kmo x1553 (by omega) (by omega) ex1553) q_cX12_130 q_dX12_isGood (by decide) rfl rfl hl.1 rfl (Nat.le_of_ble_eq_true rfl) dX12_command_49 (fun y1555 H locs f1554 ry1555 h1556 hF hB => ?_)
          obtain ⟨rfl, qy1555⟩ := h1556
          subst qy1555
          refine q_ifne (tgt := 56) cx ⟨by decide, by decide⟩ dX12_command_52 (by decide) (fun c1557 => ?_) (fun c1557 => ?_)
          · exact absurd c1557 (by omega)
          · refine q_vret cx hr hlk hB dX12_command_55 ?_
            exact (Or.inr (Or.inr ⟨(q_isl ex1553 (by omega)), (q_isu ex1553 (by omega))⟩))
      · exact absurd c1376 (by omega)
    · exact absurd c1375 (by omega)
  · obtain ⟨rfl, qy1365⟩ := h1368
    subst qy1365
    refine lv_istore_n (lv' := [(1, .int (q_i 1)), (0, .ref mo)]) cx.1 cx.2.1 dX12_command_4 rfl hl (by decide) rfl (fun ls hl => ?_)
    refine q_ild_n cx dX12_command_5 rfl (lv_at hl 0 rfl) ?_
    refine q_iconst cx dX12_command_6 ?_
    refine q_icne (tgt := 15) cx ⟨by decide, by decide⟩ ⟨by decide, by decide⟩ dX12_command_7 (by decide) (fun c1558 => ?_) (fun c1558 => ?_)
    · refine q_ild_n cx dX12_command_15 rfl (lv_at hl 0 rfl) ?_
      refine q_bipush cx dX12_command_16 rfl ?_
      refine q_icne (tgt := 34) cx ⟨by decide, by decide⟩ ⟨by decide, by decide⟩ dX12_command_18 (by decide) (fun c1559 => ?_) (fun c1559 => ?_)
      · refine q_ald_n cx dX12_command_34 rfl (lv_at hl 1 rfl) ?_
        refine q_gX12_491 cx hB hmo kmo ex1363 dX12_command_35 (fun lb1560 ub1560 => ?_)
        refine q_bipush cx dX12_command_38 rfl ?_
        refine q_icne (tgt := 48) cx ⟨by omega, by omega⟩ ⟨by decide, by decide⟩ dX12_command_40 (by decide) (fun c1561 => ?_) (fun c1561 => ?_)
        · refine q_ald_n cx dX12_command_48 rfl (lv_at hl 1 rfl) ?_
          refine q_cVi (As := []) (rest := []) cx hB (fun _ h => h) hN hmo kmo (by decide) rfl (r_isGood0 l g hN hB.2.1 mo hmo kmo hf0) q_cX12_130 q_dX12_isGood (by decide) rfl rfl hl.1 rfl (Nat.le_of_ble_eq_true rfl) dX12_command_49 (fun y1563 H locs f1562 ry1563 h1564 hF hB => ?_)
          obtain ⟨rfl, qy1563⟩ := h1564
          subst qy1563
          refine q_ifne (tgt := 56) cx ⟨by decide, by decide⟩ dX12_command_52 (by decide) (fun c1565 => ?_) (fun c1565 => ?_)
          · refine q_ald_n cx dX12_command_56 rfl (lv_at hl 1 rfl) ?_
            refine lv_dup cx.1 cx.2.1 dX12_command_57 rfl ?_
            refine q_gX12_491 cx hB hmo kmo ex1363 dX12_command_58 (fun lb1566 ub1566 => ?_)
            refine q_iconst cx dX12_command_61 ?_
            refine q_iadd cx dX12_command_62 ?_
            refine q_pX12_491 cx hB hmo kmo ⟨by omega, by omega⟩ (by omega) (by omega) rfl dX12_command_63 (fun H locs f1567 ef1567 z1568 hB => ?_)
            have z1569 : q_is (q_z f1567 mo 8) 0 := by rw [ef1567, q_setz (Or.inr (by decide))]; exact hf0
            have z1570 : q_is (q_z f1567 mo 4) xp := by rw [ef1567, q_setz (Or.inr (by decide))]; exact hf1
            have z1571 : q_is (q_z f1567 mo 37) xo := by rw [ef1567, q_setz (Or.inr (by decide))]; exact hf2
            have z1572 : q_is (q_z f1567 mo 35) x1362 := by rw [ef1567, q_setz (Or.inr (by decide))]; exact ex1362
            have z1573 : q_ir (q_r f1567 mo 13) sr := by rw [ef1567, q_setr (Or.inr (by decide))]; exact hr0
            have z1574 : q_ir (q_r f1567 mo 18) nm := by rw [ef1567, q_setr (Or.inr (by decide))]; exact hr1
            have z1575 : q_ir (q_r f1567 mo 1) bu := by rw [ef1567, q_setr (Or.inr (by decide))]; exact hr2
            have z1576 : q_ir (q_r f1567 mo 29) cs := by rw [ef1567, q_setr (Or.inr (by decide))]; exact hr3
            have z1577 : q_ir (q_r f1567 mo 30) c1 := by rw [ef1567, q_setr (Or.inr (by decide))]; exact hr4
            have z1578 : q_ir (q_r f1567 mo 31) c2 := by rw [ef1567, q_setr (Or.inr (by decide))]; exact hr5
            have z1579 : q_ir (q_r f1567 mo 32) c3 := by rw [ef1567, q_setr (Or.inr (by decide))]; exact hr6
            have g1580 : k_bl f f1567 c1 c2 60 := k_bl_tr hbx (fun i9 => by rw [ef1567, q_setz (Or.inl (fun q => by rw [q, kmo] at kc1; exact absurd kc1 (by decide)))]) (fun i9 => by rw [ef1567, q_setz (Or.inl (fun q => by rw [q, kmo] at kc2; exact absurd kc2 (by decide)))])
            have g1581 : k_b1 f f1567 cs x1362 := k_b1_tr hbs (fun i9 => by rw [ef1567, q_setz (Or.inl (fun q => by rw [q, kmo] at kcs; exact absurd kcs (by decide)))])
            refine q_ald_n cx dX12_command_66 rfl (lv_at hl 1 rfl) ?_
            obtain ⟨x1582, ex1582⟩ : ∃ zz, q_is (q_z f1567 mo 3) zz := ⟨_, q_isr _⟩
            obtain ⟨lx1582, ux1582⟩ := q_isb ex1582 (q_fib hB.2.1 hmo kmo (by decide) rfl)
            refine q_cVv (As := []) (rest := []) cx hB (fun _ h => h) hN hmo kmo (by decide) rfl (r_goOn l g hN hB.2.1 mo hmo kmo bu hbu kbu xp (by omega) (by omega) x1582 (by omega) (by omega) z1570 ex1582 z1575) q_cX12_140 q_dX12_goOn (by decide) rfl rfl hl.1 rfl (Nat.le_of_ble_eq_true rfl) dX12_command_67 (fun H locs f1583 h1585 hF hB => ?_)
            obtain ⟨t1586, t1587⟩ := h1585
            have z1588 : q_is (q_z f1583 mo 8) 0 := Eq.trans (hF.z hmo (by rw [kmo]; rfl)) z1569
            have z1589 : q_is (q_z f1583 mo 37) xo := Eq.trans (hF.z hmo (by rw [kmo]; rfl)) z1571
            have z1590 : q_is (q_z f1583 mo 35) x1362 := Eq.trans (hF.z hmo (by rw [kmo]; rfl)) z1572
            have z1591 : q_is (q_z f1583 mo 36) (x1363 + 1) := Eq.trans (hF.z hmo (by rw [kmo]; rfl)) z1568
            have z1592 : q_is (q_z f1583 mo 3) x1582 := Eq.trans (hF.z hmo (by rw [kmo]; rfl)) ex1582
            have z1593 : q_ir (q_r f1583 mo 13) sr := Eq.trans (hF.r hmo (by rw [kmo]; rfl)) z1573
            have z1594 : q_ir (q_r f1583 mo 18) nm := Eq.trans (hF.r hmo (by rw [kmo]; rfl)) z1574
            have z1595 : q_ir (q_r f1583 mo 1) bu := Eq.trans (hF.r hmo (by rw [kmo]; rfl)) z1575
            have z1596 : q_ir (q_r f1583 mo 29) cs := Eq.trans (hF.r hmo (by rw [kmo]; rfl)) z1576
            have z1597 : q_ir (q_r f1583 mo 30) c1 := Eq.trans (hF.r hmo (by rw [kmo]; rfl)) z1577
            have z1598 : q_ir (q_r f1583 mo 31) c2 := Eq.trans (hF.r hmo (by rw [kmo]; rfl)) z1578
            have z1599 : q_ir (q_r f1583 mo 32) c3 := Eq.trans (hF.r hmo (by rw [kmo]; rfl)) z1579
            have g1600 : k_bl f f1583 c1 c2 60 := k_bl_tr g1580 (fun i9 => hF.z hc1 (by rw [kc1]; rfl)) (fun i9 => hF.z hc2 (by rw [kc2]; rfl))
            have g1601 : k_b1 f f1583 cs x1362 := k_b1_tr g1581 (fun i9 => hF.z hcs (by rw [kcs]; rfl))
            obtain ⟨x1602, ex1602⟩ : ∃ zz, q_is (q_z f1583 mo 4) zz := ⟨_, q_isr _⟩
            obtain ⟨lx1602, ux1602⟩ := q_isb ex1602 (q_fib hB.2.1 hmo kmo (by decide) rfl)
            obtain ⟨x1603, ex1603⟩ : ∃ zz, q_is (q_z f1583 mo 6) zz := ⟨_, q_isr _⟩
            obtain ⟨lx1603, ux1603⟩ := q_isb ex1603 (q_fib hB.2.1 hmo kmo (by decide) rfl)
            replace t1586 := q_isl9 ex1602 t1586
            replace t1587 := k_po_si ex1603 ex1602 t1587
            refine q_ald_n cx dX12_command_70 rfl (lv_at hl 1 rfl) ?_
            refine q_gX12_494 cx hB hmo kmo z1590 dX12_command_71 (fun lb1604 ub1604 => ?_)
            refine lv_istore_n (lv' := [(2, .int (q_i x1362)), (1, .int (q_i 1)), (0, .ref mo)]) cx.1 cx.2.1 dX12_command_74 rfl hl (by decide) rfl (fun ls hl => ?_)
            refine q_ald_n cx dX12_command_75 rfl (lv_at hl 2 rfl) ?_
            refine q_gX12_51 cx hB hmo kmo z1596 dX12_command_76 (fun hb1605 kb1605 => ?_)
            refine q_ild_n cx dX12_command_79 rfl (lv_at hl 0 rfl) ?_
            refine q_ild_n cx dX12_command_80 rfl (lv_at hl 1 rfl) ?_
            refine q_iast (lo := 0) (hi := 7) (n := 60) cx hB hcs kcs (by decide) rfl rfl (by omega) (by omega) (by decide) rfl ⟨by decide, by decide⟩ (by decide) (by decide) (q_inWi (lo := 0) (hi := 58) (by decide) (by omega) (by omega)) dX12_command_81 (fun H locs f1606 ef1606 z1607 hB => ?_)
            have z1608 : q_is (q_z f1606 mo 8) 0 := by rw [ef1606, q_setz (Or.inl (fun q => by rw [q, kcs] at kmo; exact absurd kmo (by decide)))]; exact z1588
            have z1609 : q_is (q_z f1606 mo 37) xo := by rw [ef1606, q_setz (Or.inl (fun q => by rw [q, kcs] at kmo; exact absurd kmo (by decide)))]; exact z1589
            have z1610 : q_is (q_z f1606 mo 35) x1362 := by rw [ef1606, q_setz (Or.inl (fun q => by rw [q, kcs] at kmo; exact absurd kmo (by decide)))]; exact z1590
            have z1611 : q_is (q_z f1606 mo 36) (x1363 + 1) := by rw [ef1606, q_setz (Or.inl (fun q => by rw [q, kcs] at kmo; exact absurd kmo (by decide)))]; exact z1591
            have z1612 : q_is (q_z f1606 mo 3) x1582 := by rw [ef1606, q_setz (Or.inl (fun q => by rw [q, kcs] at kmo; exact absurd kmo (by decide)))]; exact z1592
            have z1613 : q_is (q_z f1606 mo 4) x1602 := by rw [ef1606, q_setz (Or.inl (fun q => by rw [q, kcs] at kmo; exact absurd kmo (by decide)))]; exact ex1602
            have z1614 : q_is (q_z f1606 mo 6) x1603 := by rw [ef1606, q_setz (Or.inl (fun q => by rw [q, kcs] at kmo; exact absurd kmo (by decide)))]; exact ex1603
            have z1615 : q_ir (q_r f1606 mo 13) sr := by rw [ef1606, q_setr (Or.inl (fun q => by rw [q, kcs] at kmo; exact absurd kmo (by decide)))]; exact z1593
            have z1616 : q_ir (q_r f1606 mo 18) nm := by rw [ef1606, q_setr (Or.inl (fun q => by rw [q, kcs] at kmo; exact absurd kmo (by decide)))]; exact z1594
            have z1617 : q_ir (q_r f1606 mo 1) bu := by rw [ef1606, q_setr (Or.inl (fun q => by rw [q, kcs] at kmo; exact absurd kmo (by decide)))]; exact z1595
            have z1618 : q_ir (q_r f1606 mo 29) cs := by rw [ef1606, q_setr (Or.inl (fun q => by rw [q, kcs] at kmo; exact absurd kmo (by decide)))]; exact z1596
            have z1619 : q_ir (q_r f1606 mo 30) c1 := by rw [ef1606, q_setr (Or.inl (fun q => by rw [q, kcs] at kmo; exact absurd kmo (by decide)))]; exact z1597
            have z1620 : q_ir (q_r f1606 mo 31) c2 := by rw [ef1606, q_setr (Or.inl (fun q => by rw [q, kcs] at kmo; exact absurd kmo (by decide)))]; exact z1598
            have z1621 : q_ir (q_r f1606 mo 32) c3 := by rw [ef1606, q_setr (Or.inl (fun q => by rw [q, kcs] at kmo; exact absurd kmo (by decide)))]; exact z1599
            have g1622 : k_bl f f1606 c1 c2 60 := k_bl_tr g1600 (fun i9 => by rw [ef1606, q_setz (Or.inl (fun q => by rw [q, kcs] at kc1; exact absurd kc1 (by decide)))]) (fun i9 => by rw [ef1606, q_setz (Or.inl (fun q => by rw [q, kcs] at kc2; exact absurd kc2 (by decide)))])
            have g1623 : k_b1 f f1606 cs x1362 := k_b1_s g1601 ef1606 (by omega)
            refine q_ald_n cx dX12_command_82 rfl (lv_at hl 2 rfl) ?_
            refine q_ild_n cx dX12_command_83 rfl (lv_at hl 0 rfl) ?_
            refine q_ild_n cx dX12_command_84 rfl (lv_at hl 1 rfl) ?_
            refine q_cVv (As := [.int (q_i x1362), .int (q_i 1)]) (rest := []) cx hB (fun _ h => h) hN hmo kmo (by decide) rfl (r_readsNumbers1 l g hN hB.2.1 mo hmo kmo x1362 (by omega) (by omega) 1 (by decide) (by decide) sr hsr ksr nm hnm knm bu hbu kbu c1 hc1 kc1 c2 hc2 kc2 c3 hc3 kc3 x1602 (by omega) (by omega) z1608 z1613 z1615 z1616 z1617 z1619 z1620 z1621) q_cX12_497 q_dX12_readsNumbers (by decide) rfl rfl hl.1 rfl (Nat.le_of_ble_eq_true rfl) dX12_command_85 (fun H locs f1624 h1626 hF hB => ?_)
            rcases h1626 with h1627 | h1628
            · obtain ⟨z1629, t1630, t1631, t1632, t1633⟩ := h1627
              have z1634 : q_is (q_z f1624 mo 37) xo := Eq.trans (hF.z hmo (by rw [kmo]; rfl)) z1609
              have z1635 : q_is (q_z f1624 mo 35) x1362 := Eq.trans (hF.z hmo (by rw [kmo]; rfl)) z1610
              have z1636 : q_is (q_z f1624 mo 36) (x1363 + 1) := Eq.trans (hF.z hmo (by rw [kmo]; rfl)) z1611
              have z1637 : q_is (q_z f1624 mo 3) x1582 := Eq.trans (hF.z hmo (by rw [kmo]; rfl)) z1612
              have z1638 : q_is (q_z f1624 cs (Int.toNat x1362)) 1 := Eq.trans (hF.z hcs (by rw [kcs]; rfl)) z1607
              have z1639 : q_ir (q_r f1624 mo 13) sr := Eq.trans (hF.r hmo (by rw [kmo]; rfl)) z1615
              have z1640 : q_ir (q_r f1624 mo 18) nm := Eq.trans (hF.r hmo (by rw [kmo]; rfl)) z1616
              have z1641 : q_ir (q_r f1624 mo 1) bu := Eq.trans (hF.r hmo (by rw [kmo]; rfl)) z1617
              have z1642 : q_ir (q_r f1624 mo 29) cs := Eq.trans (hF.r hmo (by rw [kmo]; rfl)) z1618
              have z1643 : q_ir (q_r f1624 mo 30) c1 := Eq.trans (hF.r hmo (by rw [kmo]; rfl)) z1619
              have z1644 : q_ir (q_r f1624 mo 31) c2 := Eq.trans (hF.r hmo (by rw [kmo]; rfl)) z1620
              have z1645 : q_ir (q_r f1624 mo 32) c3 := Eq.trans (hF.r hmo (by rw [kmo]; rfl)) z1621
              have g1646 : k_b1 f f1624 cs x1362 := k_b1_tr g1623 (fun i9 => hF.z hcs (by rw [kcs]; rfl))
              obtain ⟨x1647, ex1647⟩ : ∃ zz, q_is (q_z f1624 mo 4) zz := ⟨_, q_isr _⟩
              obtain ⟨lx1647, ux1647⟩ := q_isb ex1647 (q_fib hB.2.1 hmo kmo (by decide) rfl)
              obtain ⟨x1648, ex1648⟩ : ∃ zz, q_is (q_z f1624 mo 6) zz := ⟨_, q_isr _⟩
              obtain ⟨lx1648, ux1648⟩ := q_isb ex1648 (q_fib hB.2.1 hmo kmo (by decide) rfl)
              replace t1630 := q_isl9 ex1647 t1630
              replace t1631 := k_po_si ex1648 ex1647 t1631
              have hb9 : k_bl f f1624 c1 c2 x1362 := k_bl_cat g1622 t1633 (by omega)
              refine q_ald_n cx dX12_command_88 rfl (lv_at hl 2 rfl) ?_
              refine q_cVi (As := []) (rest := []) cx hB (fun _ h => h) hN hmo kmo (by decide) rfl (r_isGood0 l g hN hB.2.1 mo hmo kmo z1629) q_cX12_130 q_dX12_isGood (by decide) rfl rfl hl.1 rfl (Nat.le_of_ble_eq_true rfl) dX12_command_89 (fun y1650 H locs f1649 ry1650 h1651 hF hB => ?_)
              obtain ⟨rfl, qy1650⟩ := h1651
              subst qy1650
              refine q_ifne (tgt := 96) cx ⟨by decide, by decide⟩ dX12_command_92 (by decide) (fun c1652 => ?_) (fun c1652 => ?_)
              · refine q_ald_n cx dX12_command_96 rfl (lv_at hl 2 rfl) ?_
                refine lv_dup cx.1 cx.2.1 dX12_command_97 rfl ?_
                refine q_gX12_494 cx hB hmo kmo z1635 dX12_command_98 (fun lb1653 ub1653 => ?_)
                refine q_iconst cx dX12_command_101 ?_
                refine q_iadd cx dX12_command_102 ?_
                refine q_pX12_494 cx hB hmo kmo ⟨by omega, by omega⟩ (by omega) (by omega) rfl dX12_command_103 (fun H locs f1654 ef1654 z1655 hB => ?_)
                have z1656 : q_is (q_z f1654 mo 37) xo := by rw [ef1654, q_setz (Or.inr (by decide))]; exact z1634
                have z1657 : q_is (q_z f1654 mo 36) (x1363 + 1) := by rw [ef1654, q_setz (Or.inr (by decide))]; exact z1636
                have z1658 : q_is (q_z f1654 mo 3) x1582 := by rw [ef1654, q_setz (Or.inr (by decide))]; exact z1637
                have z1659 : q_is (q_z f1654 cs (Int.toNat x1362)) 1 := by rw [ef1654, q_setz (Or.inl (fun q => by rw [q, kmo] at kcs; exact absurd kcs (by decide)))]; exact z1638
                have z1660 : q_is (q_z f1654 mo 8) 0 := by rw [ef1654, q_setz (Or.inr (by decide))]; exact z1629
                have z1661 : q_is (q_z f1654 mo 4) x1647 := by rw [ef1654, q_setz (Or.inr (by decide))]; exact ex1647
                have z1662 : q_is (q_z f1654 mo 6) x1648 := by rw [ef1654, q_setz (Or.inr (by decide))]; exact ex1648
                have z1663 : q_ir (q_r f1654 mo 13) sr := by rw [ef1654, q_setr (Or.inr (by decide))]; exact z1639
                have z1664 : q_ir (q_r f1654 mo 18) nm := by rw [ef1654, q_setr (Or.inr (by decide))]; exact z1640
                have z1665 : q_ir (q_r f1654 mo 1) bu := by rw [ef1654, q_setr (Or.inr (by decide))]; exact z1641
                have z1666 : q_ir (q_r f1654 mo 29) cs := by rw [ef1654, q_setr (Or.inr (by decide))]; exact z1642
                have z1667 : q_ir (q_r f1654 mo 30) c1 := by rw [ef1654, q_setr (Or.inr (by decide))]; exact z1643
                have z1668 : q_ir (q_r f1654 mo 31) c2 := by rw [ef1654, q_setr (Or.inr (by decide))]; exact z1644
                have z1669 : q_ir (q_r f1654 mo 32) c3 := by rw [ef1654, q_setr (Or.inr (by decide))]; exact z1645
                have g1670 : k_b1 f f1654 cs x1362 := k_b1_tr g1646 (fun i9 => by rw [ef1654, q_setz (Or.inl (fun q => by rw [q, kmo] at kcs; exact absurd kcs (by decide)))])
                have g1671 : k_cc 1 f1654 c1 c2 (Int.toNat x1362) := k_cc_tr t1632 (fun i9 => by rw [ef1654, q_setz (Or.inl (fun q => by rw [q, kmo] at kc1; exact absurd kc1 (by decide)))]) (fun i9 => by rw [ef1654, q_setz (Or.inl (fun q => by rw [q, kmo] at kc2; exact absurd kc2 (by decide)))])
                have g1672 : k_bl f f1654 c1 c2 x1362 := k_bl_tr hb9 (fun i9 => by rw [ef1654, q_setz (Or.inl (fun q => by rw [q, kmo] at kc1; exact absurd kc1 (by decide)))]) (fun i9 => by rw [ef1654, q_setz (Or.inl (fun q => by rw [q, kmo] at kc2; exact absurd kc2 (by decide)))])
                refine q_ald_n cx dX12_command_106 rfl (lv_at hl 2 rfl) ?_
                refine lv_dup cx.1 cx.2.1 dX12_command_107 rfl ?_
                refine q_gX12_488 cx hB hmo kmo z1656 dX12_command_108 (fun lb1673 ub1673 => ?_)
                refine q_ild_n cx dX12_command_111 rfl (lv_at hl 1 rfl) ?_
                refine q_bipush cx dX12_command_112 rfl ?_
                refine q_icne (tgt := 121) cx ⟨by decide, by decide⟩ ⟨by decide, by decide⟩ dX12_command_114 (by decide) (fun c1674 => ?_) (fun c1674 => ?_)
                · refine q_iconst cx dX12_command_121 ?_
                  refine q_cSi (As := [.int (q_i 0)]) (rest := [.int (q_i xo), .ref mo]) cx hB (fun _ h => h) hN (r_truth0 l g hN hB.2.1 0 (by decide) (by decide)) q_cX12_78 q_dX12_truth (by decide) rfl rfl hl.1 rfl (Nat.le_of_ble_eq_true rfl) dX12_command_122 (fun y1676 H locs f1675 ry1676 h1677 hF hB => ?_)
                  obtain ⟨rfl, qy1676⟩ := h1677
                  subst qy1676
                  refine q_iadd cx dX12_command_125 ?_
                  refine q_pX12_488 cx hB hmo kmo ⟨by omega, by omega⟩ (by omega) (by omega) rfl dX12_command_126 (fun H locs f1678 ef1678 z1679 hB => ?_)
                  have z1680 : q_is (q_z f1678 mo 36) (x1363 + 1) := by rw [ef1678, q_setz (Or.inr (by decide))]; exact z1657
                  have z1681 : q_is (q_z f1678 mo 3) x1582 := by rw [ef1678, q_setz (Or.inr (by decide))]; exact z1658
                  have z1682 : q_is (q_z f1678 cs (Int.toNat x1362)) 1 := by rw [ef1678, q_setz (Or.inl (fun q => by rw [q, kmo] at kcs; exact absurd kcs (by decide)))]; exact z1659
                  have z1683 : q_is (q_z f1678 mo 8) 0 := by rw [ef1678, q_setz (Or.inr (by decide))]; exact z1660
                  have z1684 : q_is (q_z f1678 mo 4) x1647 := by rw [ef1678, q_setz (Or.inr (by decide))]; exact z1661
                  have z1685 : q_is (q_z f1678 mo 6) x1648 := by rw [ef1678, q_setz (Or.inr (by decide))]; exact z1662
                  have z1686 : q_is (q_z f1678 mo 35) (x1362 + 1) := by rw [ef1678, q_setz (Or.inr (by decide))]; exact z1655
                  have z1687 : q_ir (q_r f1678 mo 13) sr := by rw [ef1678, q_setr (Or.inr (by decide))]; exact z1663
                  have z1688 : q_ir (q_r f1678 mo 18) nm := by rw [ef1678, q_setr (Or.inr (by decide))]; exact z1664
                  have z1689 : q_ir (q_r f1678 mo 1) bu := by rw [ef1678, q_setr (Or.inr (by decide))]; exact z1665
                  have z1690 : q_ir (q_r f1678 mo 29) cs := by rw [ef1678, q_setr (Or.inr (by decide))]; exact z1666
                  have z1691 : q_ir (q_r f1678 mo 30) c1 := by rw [ef1678, q_setr (Or.inr (by decide))]; exact z1667
                  have z1692 : q_ir (q_r f1678 mo 31) c2 := by rw [ef1678, q_setr (Or.inr (by decide))]; exact z1668
                  have z1693 : q_ir (q_r f1678 mo 32) c3 := by rw [ef1678, q_setr (Or.inr (by decide))]; exact z1669
                  have g1694 : k_b1 f f1678 cs x1362 := k_b1_tr g1670 (fun i9 => by rw [ef1678, q_setz (Or.inl (fun q => by rw [q, kmo] at kcs; exact absurd kcs (by decide)))])
                  have g1695 : k_cc 1 f1678 c1 c2 (Int.toNat x1362) := k_cc_tr g1671 (fun i9 => by rw [ef1678, q_setz (Or.inl (fun q => by rw [q, kmo] at kc1; exact absurd kc1 (by decide)))]) (fun i9 => by rw [ef1678, q_setz (Or.inl (fun q => by rw [q, kmo] at kc2; exact absurd kc2 (by decide)))])
                  have g1696 : k_bl f f1678 c1 c2 x1362 := k_bl_tr g1672 (fun i9 => by rw [ef1678, q_setz (Or.inl (fun q => by rw [q, kmo] at kc1; exact absurd kc1 (by decide)))]) (fun i9 => by rw [ef1678, q_setz (Or.inl (fun q => by rw [q, kmo] at kc2; exact absurd kc2 (by decide)))])
                  have hsp : k_stp 1 = 0 := rfl
                  have hsc9 : q_sc f1678 mo cs c1 c2 := k_sc_add (c := 1) hsc ex1362 hf2 ex1363 z1686 z1680 (Eq.trans z1679 (by rw [hsp] <;> omega)) (by omega) z1682 g1695 g1694 g1696 (by rw [hsp] <;> omega) (by rw [hsp] <;> omega)
                  refine q_vret cx hr hlk hB dX12_command_129 ?_
                  exact (Or.inl ⟨z1683, (Eq.trans z1679 (by omega)), (q_isl z1684 (by omega)), (k_po_is z1685 z1684 (k_po_mono t1631 (by omega))), hsc9⟩)
                · exact absurd c1674 (by omega)
              · exact absurd c1652 (by omega)
            · obtain ⟨lz1697, uz1697⟩ := h1628
              have z1698 : q_is (q_z f1624 mo 37) xo := Eq.trans (hF.z hmo (by rw [kmo]; rfl)) z1609
              have z1699 : q_is (q_z f1624 mo 35) x1362 := Eq.trans (hF.z hmo (by rw [kmo]; rfl)) z1610
              have z1700 : q_is (q_z f1624 mo 36) (x1363 + 1) := Eq.trans (hF.z hmo (by rw [kmo]; rfl)) z1611
              have z1701 : q_is (q_z f1624 mo 3) x1582 := Eq.trans (hF.z hmo (by rw [kmo]; rfl)) z1612
              have z1702 : q_is (q_z f1624 cs (Int.toNat x1362)) 1 := Eq.trans (hF.z hcs (by rw [kcs]; rfl)) z1607
              have z1703 : q_ir (q_r f1624 mo 13) sr := Eq.trans (hF.r hmo (by rw [kmo]; rfl)) z1615
              have z1704 : q_ir (q_r f1624 mo 18) nm := Eq.trans (hF.r hmo (by rw [kmo]; rfl)) z1616
              have z1705 : q_ir (q_r f1624 mo 1) bu := Eq.trans (hF.r hmo (by rw [kmo]; rfl)) z1617
              have z1706 : q_ir (q_r f1624 mo 29) cs := Eq.trans (hF.r hmo (by rw [kmo]; rfl)) z1618
              have z1707 : q_ir (q_r f1624 mo 30) c1 := Eq.trans (hF.r hmo (by rw [kmo]; rfl)) z1619
              have z1708 : q_ir (q_r f1624 mo 31) c2 := Eq.trans (hF.r hmo (by rw [kmo]; rfl)) z1620
              have z1709 : q_ir (q_r f1624 mo 32) c3 := Eq.trans (hF.r hmo (by rw [kmo]; rfl)) z1621
              have g1710 : k_b1 f f1624 cs x1362 := k_b1_tr g1623 (fun i9 => hF.z hcs (by rw [kcs]; rfl))
              obtain ⟨x1711, ex1711⟩ : ∃ zz, q_is (q_z f1624 mo 8) zz := ⟨_, q_isr _⟩
              obtain ⟨lx1711, ux1711⟩ := q_isb ex1711 ⟨lz1697, uz1697⟩
              obtain ⟨x1712, ex1712⟩ : ∃ zz, q_is (q_z f1624 mo 4) zz := ⟨_, q_isr _⟩
              obtain ⟨lx1712, ux1712⟩ := q_isb ex1712 (q_fib hB.2.1 hmo kmo (by decide) rfl)
              obtain ⟨x1713, ex1713⟩ : ∃ zz, q_is (q_z f1624 mo 6) zz := ⟨_, q_isr _⟩
              obtain ⟨lx1713, ux1713⟩ := q_isb ex1713 (q_fib hB.2.1 hmo kmo (by decide) rfl)
              refine q_ald_n cx dX12_command_88 rfl (lv_at hl 2 rfl) ?_
              refine q_cVi (As := []) (rest := []) cx hB (fun _ h => h) hN hmo kmo (by decide) rfl (r_isGood1 l g hN hB.2.1 mo hmo kmo x1711 (by omega) (by omega) ex1711) q_cX12_130 q_dX12_isGood (by decide) rfl rfl hl.1 rfl (Nat.le_of_ble_eq_true rfl) dX12_command_89 (fun y1715 H locs f1714 ry1715 h1716 hF hB => ?_)
              obtain ⟨rfl, qy1715⟩ := h1716
              subst qy1715
              refine q_ifne (tgt := 96) cx ⟨by decide, by decide⟩ dX12_command_92 (by decide) (fun c1717 => ?_) (fun c1717 => ?_)
              · exact absurd c1717 (by omega)
              · refine q_vret cx hr hlk hB dX12_command_95 ?_
                exact (Or.inr (Or.inr ⟨(q_isl ex1711 (by omega)), (q_isu ex1711 (by omega))⟩))
          · exact absurd c1565 (by omega)
        · refine q_ald_n cx dX12_command_43 rfl (lv_at hl 1 rfl) ?_
          refine q_iconst cx dX12_command_44 ?_
          refine q_cVv (As := [.int (q_i 5)]) (rest := []) cx hB (fun _ h => h) hN hmo kmo (by decide) rfl (r_wrong0 l g hN hB.2.1 mo hmo kmo 5 (by decide) (by decide) hf0) q_cX12_137 q_dX12_wrong (by decide) rfl rfl hl.1 rfl (Nat.le_of_ble_eq_true rfl) dX12_command_45 (fun H locs f1718 h1720 hF hB => ?_)
          obtain ⟨lz1721, uz1721⟩ := h1720
          have z1722 : q_is (q_z f1718 mo 4) xp := Eq.trans (hF.z hmo (by rw [kmo]; rfl)) hf1
          have z1723 : q_is (q_z f1718 mo 37) xo := Eq.trans (hF.z hmo (by rw [kmo]; rfl)) hf2
          have z1724 : q_is (q_z f1718 mo 35) x1362 := Eq.trans (hF.z hmo (by rw [kmo]; rfl)) ex1362
          have z1725 : q_is (q_z f1718 mo 36) x1363 := Eq.trans (hF.z hmo (by rw [kmo]; rfl)) ex1363
          have z1726 : q_ir (q_r f1718 mo 13) sr := Eq.trans (hF.r hmo (by rw [kmo]; rfl)) hr0
          have z1727 : q_ir (q_r f1718 mo 18) nm := Eq.trans (hF.r hmo (by rw [kmo]; rfl)) hr1
          have z1728 : q_ir (q_r f1718 mo 1) bu := Eq.trans (hF.r hmo (by rw [kmo]; rfl)) hr2
          have z1729 : q_ir (q_r f1718 mo 29) cs := Eq.trans (hF.r hmo (by rw [kmo]; rfl)) hr3
          have z1730 : q_ir (q_r f1718 mo 30) c1 := Eq.trans (hF.r hmo (by rw [kmo]; rfl)) hr4
          have z1731 : q_ir (q_r f1718 mo 31) c2 := Eq.trans (hF.r hmo (by rw [kmo]; rfl)) hr5
          have z1732 : q_ir (q_r f1718 mo 32) c3 := Eq.trans (hF.r hmo (by rw [kmo]; rfl)) hr6
          have g1733 : q_sc f1718 mo cs c1 c2 := q_sc_tr hsc (hF.z hmo (by rw [kmo]; rfl)) (hF.z hmo (by rw [kmo]; rfl)) (hF.z hmo (by rw [kmo]; rfl)) (fun i9 => hF.z hcs (by rw [kcs]; rfl)) (fun i9 => hF.z hc1 (by rw [kc1]; rfl)) (fun i9 => hF.z hc2 (by rw [kc2]; rfl))
          have g1734 : k_bl f f1718 c1 c2 60 := k_bl_tr hbx (fun i9 => hF.z hc1 (by rw [kc1]; rfl)) (fun i9 => hF.z hc2 (by rw [kc2]; rfl))
          have g1735 : k_b1 f f1718 cs x1362 := k_b1_tr hbs (fun i9 => hF.z hcs (by rw [kcs]; rfl))
          obtain ⟨x1736, ex1736⟩ : ∃ zz, q_is (q_z f1718 mo 8) zz := ⟨_, q_isr _⟩
          obtain ⟨lx1736, ux1736⟩ := q_isb ex1736 ⟨lz1721, uz1721⟩
          refine q_ald_n cx dX12_command_48 rfl (lv_at hl 1 rfl) ?_
          refine q_cVi (As := []) (rest := []) cx hB (fun _ h => h) hN hmo kmo (by decide) rfl (r_isGood1 l g hN hB.2.1 mo hmo kmo x1736 (by omega) (by omega) ex1736) q_cX12_130 q_dX12_isGood (by decide) rfl rfl hl.1 rfl (Nat.le_of_ble_eq_true rfl) dX12_command_49 (fun y1738 H locs f1737 ry1738 h1739 hF hB => ?_)
          obtain ⟨rfl, qy1738⟩ := h1739
          subst qy1738
          refine q_ifne (tgt := 56) cx ⟨by decide, by decide⟩ dX12_command_52 (by decide) (fun c1740 => ?_) (fun c1740 => ?_)
          · exact absurd c1740 (by omega)
          · refine q_vret cx hr hlk hB dX12_command_55 ?_
            exact (Or.inr (Or.inr ⟨(q_isl ex1736 (by omega)), (q_isu ex1736 (by omega))⟩))
      · exact absurd c1559 (by omega)
    · exact absurd c1558 (by omega)
  · obtain ⟨rfl, qy1365⟩ := h1369
    subst qy1365
    refine lv_istore_n (lv' := [(1, .int (q_i 2)), (0, .ref mo)]) cx.1 cx.2.1 dX12_command_4 rfl hl (by decide) rfl (fun ls hl => ?_)
    refine q_ild_n cx dX12_command_5 rfl (lv_at hl 0 rfl) ?_
    refine q_iconst cx dX12_command_6 ?_
    refine q_icne (tgt := 15) cx ⟨by decide, by decide⟩ ⟨by decide, by decide⟩ dX12_command_7 (by decide) (fun c1741 => ?_) (fun c1741 => ?_)
    · refine q_ild_n cx dX12_command_15 rfl (lv_at hl 0 rfl) ?_
      refine q_bipush cx dX12_command_16 rfl ?_
      refine q_icne (tgt := 34) cx ⟨by decide, by decide⟩ ⟨by decide, by decide⟩ dX12_command_18 (by decide) (fun c1742 => ?_) (fun c1742 => ?_)
      · refine q_ald_n cx dX12_command_34 rfl (lv_at hl 1 rfl) ?_
        refine q_gX12_491 cx hB hmo kmo ex1363 dX12_command_35 (fun lb1743 ub1743 => ?_)
        refine q_bipush cx dX12_command_38 rfl ?_
        refine q_icne (tgt := 48) cx ⟨by omega, by omega⟩ ⟨by decide, by decide⟩ dX12_command_40 (by decide) (fun c1744 => ?_) (fun c1744 => ?_)
        · refine q_ald_n cx dX12_command_48 rfl (lv_at hl 1 rfl) ?_
          refine q_cVi (As := []) (rest := []) cx hB (fun _ h => h) hN hmo kmo (by decide) rfl (r_isGood0 l g hN hB.2.1 mo hmo kmo hf0) q_cX12_130 q_dX12_isGood (by decide) rfl rfl hl.1 rfl (Nat.le_of_ble_eq_true rfl) dX12_command_49 (fun y1746 H locs f1745 ry1746 h1747 hF hB => ?_)
          obtain ⟨rfl, qy1746⟩ := h1747
          subst qy1746
          refine q_ifne (tgt := 56) cx ⟨by decide, by decide⟩ dX12_command_52 (by decide) (fun c1748 => ?_) (fun c1748 => ?_)
          · refine q_ald_n cx dX12_command_56 rfl (lv_at hl 1 rfl) ?_
            refine lv_dup cx.1 cx.2.1 dX12_command_57 rfl ?_
            refine q_gX12_491 cx hB hmo kmo ex1363 dX12_command_58 (fun lb1749 ub1749 => ?_)
            refine q_iconst cx dX12_command_61 ?_
            refine q_iadd cx dX12_command_62 ?_
            refine q_pX12_491 cx hB hmo kmo ⟨by omega, by omega⟩ (by omega) (by omega) rfl dX12_command_63 (fun H locs f1750 ef1750 z1751 hB => ?_)
            have z1752 : q_is (q_z f1750 mo 8) 0 := by rw [ef1750, q_setz (Or.inr (by decide))]; exact hf0
            have z1753 : q_is (q_z f1750 mo 4) xp := by rw [ef1750, q_setz (Or.inr (by decide))]; exact hf1
            have z1754 : q_is (q_z f1750 mo 37) xo := by rw [ef1750, q_setz (Or.inr (by decide))]; exact hf2
            have z1755 : q_is (q_z f1750 mo 35) x1362 := by rw [ef1750, q_setz (Or.inr (by decide))]; exact ex1362
            have z1756 : q_ir (q_r f1750 mo 13) sr := by rw [ef1750, q_setr (Or.inr (by decide))]; exact hr0
            have z1757 : q_ir (q_r f1750 mo 18) nm := by rw [ef1750, q_setr (Or.inr (by decide))]; exact hr1
            have z1758 : q_ir (q_r f1750 mo 1) bu := by rw [ef1750, q_setr (Or.inr (by decide))]; exact hr2
            have z1759 : q_ir (q_r f1750 mo 29) cs := by rw [ef1750, q_setr (Or.inr (by decide))]; exact hr3
            have z1760 : q_ir (q_r f1750 mo 30) c1 := by rw [ef1750, q_setr (Or.inr (by decide))]; exact hr4
            have z1761 : q_ir (q_r f1750 mo 31) c2 := by rw [ef1750, q_setr (Or.inr (by decide))]; exact hr5
            have z1762 : q_ir (q_r f1750 mo 32) c3 := by rw [ef1750, q_setr (Or.inr (by decide))]; exact hr6
            have g1763 : k_bl f f1750 c1 c2 60 := k_bl_tr hbx (fun i9 => by rw [ef1750, q_setz (Or.inl (fun q => by rw [q, kmo] at kc1; exact absurd kc1 (by decide)))]) (fun i9 => by rw [ef1750, q_setz (Or.inl (fun q => by rw [q, kmo] at kc2; exact absurd kc2 (by decide)))])
            have g1764 : k_b1 f f1750 cs x1362 := k_b1_tr hbs (fun i9 => by rw [ef1750, q_setz (Or.inl (fun q => by rw [q, kmo] at kcs; exact absurd kcs (by decide)))])
            refine q_ald_n cx dX12_command_66 rfl (lv_at hl 1 rfl) ?_
            obtain ⟨x1765, ex1765⟩ : ∃ zz, q_is (q_z f1750 mo 3) zz := ⟨_, q_isr _⟩
            obtain ⟨lx1765, ux1765⟩ := q_isb ex1765 (q_fib hB.2.1 hmo kmo (by decide) rfl)
            refine q_cVv (As := []) (rest := []) cx hB (fun _ h => h) hN hmo kmo (by decide) rfl (r_goOn l g hN hB.2.1 mo hmo kmo bu hbu kbu xp (by omega) (by omega) x1765 (by omega) (by omega) z1753 ex1765 z1758) q_cX12_140 q_dX12_goOn (by decide) rfl rfl hl.1 rfl (Nat.le_of_ble_eq_true rfl) dX12_command_67 (fun H locs f1766 h1768 hF hB => ?_)
            obtain ⟨t1769, t1770⟩ := h1768
            have z1771 : q_is (q_z f1766 mo 8) 0 := Eq.trans (hF.z hmo (by rw [kmo]; rfl)) z1752
            have z1772 : q_is (q_z f1766 mo 37) xo := Eq.trans (hF.z hmo (by rw [kmo]; rfl)) z1754
            have z1773 : q_is (q_z f1766 mo 35) x1362 := Eq.trans (hF.z hmo (by rw [kmo]; rfl)) z1755
            have z1774 : q_is (q_z f1766 mo 36) (x1363 + 1) := Eq.trans (hF.z hmo (by rw [kmo]; rfl)) z1751
            have z1775 : q_is (q_z f1766 mo 3) x1765 := Eq.trans (hF.z hmo (by rw [kmo]; rfl)) ex1765
            have z1776 : q_ir (q_r f1766 mo 13) sr := Eq.trans (hF.r hmo (by rw [kmo]; rfl)) z1756
            have z1777 : q_ir (q_r f1766 mo 18) nm := Eq.trans (hF.r hmo (by rw [kmo]; rfl)) z1757
            have z1778 : q_ir (q_r f1766 mo 1) bu := Eq.trans (hF.r hmo (by rw [kmo]; rfl)) z1758
            have z1779 : q_ir (q_r f1766 mo 29) cs := Eq.trans (hF.r hmo (by rw [kmo]; rfl)) z1759
            have z1780 : q_ir (q_r f1766 mo 30) c1 := Eq.trans (hF.r hmo (by rw [kmo]; rfl)) z1760
            have z1781 : q_ir (q_r f1766 mo 31) c2 := Eq.trans (hF.r hmo (by rw [kmo]; rfl)) z1761
            have z1782 : q_ir (q_r f1766 mo 32) c3 := Eq.trans (hF.r hmo (by rw [kmo]; rfl)) z1762
            have g1783 : k_bl f f1766 c1 c2 60 := k_bl_tr g1763 (fun i9 => hF.z hc1 (by rw [kc1]; rfl)) (fun i9 => hF.z hc2 (by rw [kc2]; rfl))
            have g1784 : k_b1 f f1766 cs x1362 := k_b1_tr g1764 (fun i9 => hF.z hcs (by rw [kcs]; rfl))
            obtain ⟨x1785, ex1785⟩ : ∃ zz, q_is (q_z f1766 mo 4) zz := ⟨_, q_isr _⟩
            obtain ⟨lx1785, ux1785⟩ := q_isb ex1785 (q_fib hB.2.1 hmo kmo (by decide) rfl)
            obtain ⟨x1786, ex1786⟩ : ∃ zz, q_is (q_z f1766 mo 6) zz := ⟨_, q_isr _⟩
            obtain ⟨lx1786, ux1786⟩ := q_isb ex1786 (q_fib hB.2.1 hmo kmo (by decide) rfl)
            replace t1769 := q_isl9 ex1785 t1769
            replace t1770 := k_po_si ex1786 ex1785 t1770
            refine q_ald_n cx dX12_command_70 rfl (lv_at hl 1 rfl) ?_
            refine q_gX12_494 cx hB hmo kmo z1773 dX12_command_71 (fun lb1787 ub1787 => ?_)
            refine lv_istore_n (lv' := [(2, .int (q_i x1362)), (1, .int (q_i 2)), (0, .ref mo)]) cx.1 cx.2.1 dX12_command_74 rfl hl (by decide) rfl (fun ls hl => ?_)
            refine q_ald_n cx dX12_command_75 rfl (lv_at hl 2 rfl) ?_
            refine q_gX12_51 cx hB hmo kmo z1779 dX12_command_76 (fun hb1788 kb1788 => ?_)
            refine q_ild_n cx dX12_command_79 rfl (lv_at hl 0 rfl) ?_
            refine q_ild_n cx dX12_command_80 rfl (lv_at hl 1 rfl) ?_
            refine q_iast (lo := 0) (hi := 7) (n := 60) cx hB hcs kcs (by decide) rfl rfl (by omega) (by omega) (by decide) rfl ⟨by decide, by decide⟩ (by decide) (by decide) (q_inWi (lo := 0) (hi := 58) (by decide) (by omega) (by omega)) dX12_command_81 (fun H locs f1789 ef1789 z1790 hB => ?_)
            have z1791 : q_is (q_z f1789 mo 8) 0 := by rw [ef1789, q_setz (Or.inl (fun q => by rw [q, kcs] at kmo; exact absurd kmo (by decide)))]; exact z1771
            have z1792 : q_is (q_z f1789 mo 37) xo := by rw [ef1789, q_setz (Or.inl (fun q => by rw [q, kcs] at kmo; exact absurd kmo (by decide)))]; exact z1772
            have z1793 : q_is (q_z f1789 mo 35) x1362 := by rw [ef1789, q_setz (Or.inl (fun q => by rw [q, kcs] at kmo; exact absurd kmo (by decide)))]; exact z1773
            have z1794 : q_is (q_z f1789 mo 36) (x1363 + 1) := by rw [ef1789, q_setz (Or.inl (fun q => by rw [q, kcs] at kmo; exact absurd kmo (by decide)))]; exact z1774
            have z1795 : q_is (q_z f1789 mo 3) x1765 := by rw [ef1789, q_setz (Or.inl (fun q => by rw [q, kcs] at kmo; exact absurd kmo (by decide)))]; exact z1775
            have z1796 : q_is (q_z f1789 mo 4) x1785 := by rw [ef1789, q_setz (Or.inl (fun q => by rw [q, kcs] at kmo; exact absurd kmo (by decide)))]; exact ex1785
            have z1797 : q_is (q_z f1789 mo 6) x1786 := by rw [ef1789, q_setz (Or.inl (fun q => by rw [q, kcs] at kmo; exact absurd kmo (by decide)))]; exact ex1786
            have z1798 : q_ir (q_r f1789 mo 13) sr := by rw [ef1789, q_setr (Or.inl (fun q => by rw [q, kcs] at kmo; exact absurd kmo (by decide)))]; exact z1776
            have z1799 : q_ir (q_r f1789 mo 18) nm := by rw [ef1789, q_setr (Or.inl (fun q => by rw [q, kcs] at kmo; exact absurd kmo (by decide)))]; exact z1777
            have z1800 : q_ir (q_r f1789 mo 1) bu := by rw [ef1789, q_setr (Or.inl (fun q => by rw [q, kcs] at kmo; exact absurd kmo (by decide)))]; exact z1778
            have z1801 : q_ir (q_r f1789 mo 29) cs := by rw [ef1789, q_setr (Or.inl (fun q => by rw [q, kcs] at kmo; exact absurd kmo (by decide)))]; exact z1779
            have z1802 : q_ir (q_r f1789 mo 30) c1 := by rw [ef1789, q_setr (Or.inl (fun q => by rw [q, kcs] at kmo; exact absurd kmo (by decide)))]; exact z1780
            have z1803 : q_ir (q_r f1789 mo 31) c2 := by rw [ef1789, q_setr (Or.inl (fun q => by rw [q, kcs] at kmo; exact absurd kmo (by decide)))]; exact z1781
            have z1804 : q_ir (q_r f1789 mo 32) c3 := by rw [ef1789, q_setr (Or.inl (fun q => by rw [q, kcs] at kmo; exact absurd kmo (by decide)))]; exact z1782
            have g1805 : k_bl f f1789 c1 c2 60 := k_bl_tr g1783 (fun i9 => by rw [ef1789, q_setz (Or.inl (fun q => by rw [q, kcs] at kc1; exact absurd kc1 (by decide)))]) (fun i9 => by rw [ef1789, q_setz (Or.inl (fun q => by rw [q, kcs] at kc2; exact absurd kc2 (by decide)))])
            have g1806 : k_b1 f f1789 cs x1362 := k_b1_s g1784 ef1789 (by omega)
            refine q_ald_n cx dX12_command_82 rfl (lv_at hl 2 rfl) ?_
            refine q_ild_n cx dX12_command_83 rfl (lv_at hl 0 rfl) ?_
            refine q_ild_n cx dX12_command_84 rfl (lv_at hl 1 rfl) ?_
            refine q_cVv (As := [.int (q_i x1362), .int (q_i 2)]) (rest := []) cx hB (fun _ h => h) hN hmo kmo (by decide) rfl (r_readsNumbers2 l g hN hB.2.1 mo hmo kmo x1362 (by omega) (by omega) 2 (by decide) (by decide) sr hsr ksr nm hnm knm bu hbu kbu c1 hc1 kc1 c2 hc2 kc2 c3 hc3 kc3 x1785 (by omega) (by omega) z1791 z1796 z1798 z1799 z1800 z1802 z1803 z1804) q_cX12_497 q_dX12_readsNumbers (by decide) rfl rfl hl.1 rfl (Nat.le_of_ble_eq_true rfl) dX12_command_85 (fun H locs f1807 h1809 hF hB => ?_)
            rcases h1809 with h1810 | h1811
            · obtain ⟨z1812, t1813, t1814, t1815, t1816⟩ := h1810
              have z1817 : q_is (q_z f1807 mo 37) xo := Eq.trans (hF.z hmo (by rw [kmo]; rfl)) z1792
              have z1818 : q_is (q_z f1807 mo 35) x1362 := Eq.trans (hF.z hmo (by rw [kmo]; rfl)) z1793
              have z1819 : q_is (q_z f1807 mo 36) (x1363 + 1) := Eq.trans (hF.z hmo (by rw [kmo]; rfl)) z1794
              have z1820 : q_is (q_z f1807 mo 3) x1765 := Eq.trans (hF.z hmo (by rw [kmo]; rfl)) z1795
              have z1821 : q_is (q_z f1807 cs (Int.toNat x1362)) 2 := Eq.trans (hF.z hcs (by rw [kcs]; rfl)) z1790
              have z1822 : q_ir (q_r f1807 mo 13) sr := Eq.trans (hF.r hmo (by rw [kmo]; rfl)) z1798
              have z1823 : q_ir (q_r f1807 mo 18) nm := Eq.trans (hF.r hmo (by rw [kmo]; rfl)) z1799
              have z1824 : q_ir (q_r f1807 mo 1) bu := Eq.trans (hF.r hmo (by rw [kmo]; rfl)) z1800
              have z1825 : q_ir (q_r f1807 mo 29) cs := Eq.trans (hF.r hmo (by rw [kmo]; rfl)) z1801
              have z1826 : q_ir (q_r f1807 mo 30) c1 := Eq.trans (hF.r hmo (by rw [kmo]; rfl)) z1802
              have z1827 : q_ir (q_r f1807 mo 31) c2 := Eq.trans (hF.r hmo (by rw [kmo]; rfl)) z1803
              have z1828 : q_ir (q_r f1807 mo 32) c3 := Eq.trans (hF.r hmo (by rw [kmo]; rfl)) z1804
              have g1829 : k_b1 f f1807 cs x1362 := k_b1_tr g1806 (fun i9 => hF.z hcs (by rw [kcs]; rfl))
              obtain ⟨x1830, ex1830⟩ : ∃ zz, q_is (q_z f1807 mo 4) zz := ⟨_, q_isr _⟩
              obtain ⟨lx1830, ux1830⟩ := q_isb ex1830 (q_fib hB.2.1 hmo kmo (by decide) rfl)
              obtain ⟨x1831, ex1831⟩ : ∃ zz, q_is (q_z f1807 mo 6) zz := ⟨_, q_isr _⟩
              obtain ⟨lx1831, ux1831⟩ := q_isb ex1831 (q_fib hB.2.1 hmo kmo (by decide) rfl)
              replace t1813 := q_isl9 ex1830 t1813
              replace t1814 := k_po_si ex1831 ex1830 t1814
              have hb9 : k_bl f f1807 c1 c2 x1362 := k_bl_cat g1805 t1816 (by omega)
              refine q_ald_n cx dX12_command_88 rfl (lv_at hl 2 rfl) ?_
              refine q_cVi (As := []) (rest := []) cx hB (fun _ h => h) hN hmo kmo (by decide) rfl (r_isGood0 l g hN hB.2.1 mo hmo kmo z1812) q_cX12_130 q_dX12_isGood (by decide) rfl rfl hl.1 rfl (Nat.le_of_ble_eq_true rfl) dX12_command_89 (fun y1833 H locs f1832 ry1833 h1834 hF hB => ?_)
              obtain ⟨rfl, qy1833⟩ := h1834
              subst qy1833
              refine q_ifne (tgt := 96) cx ⟨by decide, by decide⟩ dX12_command_92 (by decide) (fun c1835 => ?_) (fun c1835 => ?_)
              · refine q_ald_n cx dX12_command_96 rfl (lv_at hl 2 rfl) ?_
                refine lv_dup cx.1 cx.2.1 dX12_command_97 rfl ?_
                refine q_gX12_494 cx hB hmo kmo z1818 dX12_command_98 (fun lb1836 ub1836 => ?_)
                refine q_iconst cx dX12_command_101 ?_
                refine q_iadd cx dX12_command_102 ?_
                refine q_pX12_494 cx hB hmo kmo ⟨by omega, by omega⟩ (by omega) (by omega) rfl dX12_command_103 (fun H locs f1837 ef1837 z1838 hB => ?_)
                have z1839 : q_is (q_z f1837 mo 37) xo := by rw [ef1837, q_setz (Or.inr (by decide))]; exact z1817
                have z1840 : q_is (q_z f1837 mo 36) (x1363 + 1) := by rw [ef1837, q_setz (Or.inr (by decide))]; exact z1819
                have z1841 : q_is (q_z f1837 mo 3) x1765 := by rw [ef1837, q_setz (Or.inr (by decide))]; exact z1820
                have z1842 : q_is (q_z f1837 cs (Int.toNat x1362)) 2 := by rw [ef1837, q_setz (Or.inl (fun q => by rw [q, kmo] at kcs; exact absurd kcs (by decide)))]; exact z1821
                have z1843 : q_is (q_z f1837 mo 8) 0 := by rw [ef1837, q_setz (Or.inr (by decide))]; exact z1812
                have z1844 : q_is (q_z f1837 mo 4) x1830 := by rw [ef1837, q_setz (Or.inr (by decide))]; exact ex1830
                have z1845 : q_is (q_z f1837 mo 6) x1831 := by rw [ef1837, q_setz (Or.inr (by decide))]; exact ex1831
                have z1846 : q_ir (q_r f1837 mo 13) sr := by rw [ef1837, q_setr (Or.inr (by decide))]; exact z1822
                have z1847 : q_ir (q_r f1837 mo 18) nm := by rw [ef1837, q_setr (Or.inr (by decide))]; exact z1823
                have z1848 : q_ir (q_r f1837 mo 1) bu := by rw [ef1837, q_setr (Or.inr (by decide))]; exact z1824
                have z1849 : q_ir (q_r f1837 mo 29) cs := by rw [ef1837, q_setr (Or.inr (by decide))]; exact z1825
                have z1850 : q_ir (q_r f1837 mo 30) c1 := by rw [ef1837, q_setr (Or.inr (by decide))]; exact z1826
                have z1851 : q_ir (q_r f1837 mo 31) c2 := by rw [ef1837, q_setr (Or.inr (by decide))]; exact z1827
                have z1852 : q_ir (q_r f1837 mo 32) c3 := by rw [ef1837, q_setr (Or.inr (by decide))]; exact z1828
                have g1853 : k_b1 f f1837 cs x1362 := k_b1_tr g1829 (fun i9 => by rw [ef1837, q_setz (Or.inl (fun q => by rw [q, kmo] at kcs; exact absurd kcs (by decide)))])
                have g1854 : k_cc 2 f1837 c1 c2 (Int.toNat x1362) := k_cc_tr t1815 (fun i9 => by rw [ef1837, q_setz (Or.inl (fun q => by rw [q, kmo] at kc1; exact absurd kc1 (by decide)))]) (fun i9 => by rw [ef1837, q_setz (Or.inl (fun q => by rw [q, kmo] at kc2; exact absurd kc2 (by decide)))])
                have g1855 : k_bl f f1837 c1 c2 x1362 := k_bl_tr hb9 (fun i9 => by rw [ef1837, q_setz (Or.inl (fun q => by rw [q, kmo] at kc1; exact absurd kc1 (by decide)))]) (fun i9 => by rw [ef1837, q_setz (Or.inl (fun q => by rw [q, kmo] at kc2; exact absurd kc2 (by decide)))])
                refine q_ald_n cx dX12_command_106 rfl (lv_at hl 2 rfl) ?_
                refine lv_dup cx.1 cx.2.1 dX12_command_107 rfl ?_
                refine q_gX12_488 cx hB hmo kmo z1839 dX12_command_108 (fun lb1856 ub1856 => ?_)
                refine q_ild_n cx dX12_command_111 rfl (lv_at hl 1 rfl) ?_
                refine q_bipush cx dX12_command_112 rfl ?_
                refine q_icne (tgt := 121) cx ⟨by decide, by decide⟩ ⟨by decide, by decide⟩ dX12_command_114 (by decide) (fun c1857 => ?_) (fun c1857 => ?_)
                · refine q_iconst cx dX12_command_121 ?_
                  refine q_cSi (As := [.int (q_i 0)]) (rest := [.int (q_i xo), .ref mo]) cx hB (fun _ h => h) hN (r_truth0 l g hN hB.2.1 0 (by decide) (by decide)) q_cX12_78 q_dX12_truth (by decide) rfl rfl hl.1 rfl (Nat.le_of_ble_eq_true rfl) dX12_command_122 (fun y1859 H locs f1858 ry1859 h1860 hF hB => ?_)
                  obtain ⟨rfl, qy1859⟩ := h1860
                  subst qy1859
                  refine q_iadd cx dX12_command_125 ?_
                  refine q_pX12_488 cx hB hmo kmo ⟨by omega, by omega⟩ (by omega) (by omega) rfl dX12_command_126 (fun H locs f1861 ef1861 z1862 hB => ?_)
                  have z1863 : q_is (q_z f1861 mo 36) (x1363 + 1) := by rw [ef1861, q_setz (Or.inr (by decide))]; exact z1840
                  have z1864 : q_is (q_z f1861 mo 3) x1765 := by rw [ef1861, q_setz (Or.inr (by decide))]; exact z1841
                  have z1865 : q_is (q_z f1861 cs (Int.toNat x1362)) 2 := by rw [ef1861, q_setz (Or.inl (fun q => by rw [q, kmo] at kcs; exact absurd kcs (by decide)))]; exact z1842
                  have z1866 : q_is (q_z f1861 mo 8) 0 := by rw [ef1861, q_setz (Or.inr (by decide))]; exact z1843
                  have z1867 : q_is (q_z f1861 mo 4) x1830 := by rw [ef1861, q_setz (Or.inr (by decide))]; exact z1844
                  have z1868 : q_is (q_z f1861 mo 6) x1831 := by rw [ef1861, q_setz (Or.inr (by decide))]; exact z1845
                  have z1869 : q_is (q_z f1861 mo 35) (x1362 + 1) := by rw [ef1861, q_setz (Or.inr (by decide))]; exact z1838
                  have z1870 : q_ir (q_r f1861 mo 13) sr := by rw [ef1861, q_setr (Or.inr (by decide))]; exact z1846
                  have z1871 : q_ir (q_r f1861 mo 18) nm := by rw [ef1861, q_setr (Or.inr (by decide))]; exact z1847
                  have z1872 : q_ir (q_r f1861 mo 1) bu := by rw [ef1861, q_setr (Or.inr (by decide))]; exact z1848
                  have z1873 : q_ir (q_r f1861 mo 29) cs := by rw [ef1861, q_setr (Or.inr (by decide))]; exact z1849
                  have z1874 : q_ir (q_r f1861 mo 30) c1 := by rw [ef1861, q_setr (Or.inr (by decide))]; exact z1850
                  have z1875 : q_ir (q_r f1861 mo 31) c2 := by rw [ef1861, q_setr (Or.inr (by decide))]; exact z1851
                  have z1876 : q_ir (q_r f1861 mo 32) c3 := by rw [ef1861, q_setr (Or.inr (by decide))]; exact z1852
                  have g1877 : k_b1 f f1861 cs x1362 := k_b1_tr g1853 (fun i9 => by rw [ef1861, q_setz (Or.inl (fun q => by rw [q, kmo] at kcs; exact absurd kcs (by decide)))])
                  have g1878 : k_cc 2 f1861 c1 c2 (Int.toNat x1362) := k_cc_tr g1854 (fun i9 => by rw [ef1861, q_setz (Or.inl (fun q => by rw [q, kmo] at kc1; exact absurd kc1 (by decide)))]) (fun i9 => by rw [ef1861, q_setz (Or.inl (fun q => by rw [q, kmo] at kc2; exact absurd kc2 (by decide)))])
                  have g1879 : k_bl f f1861 c1 c2 x1362 := k_bl_tr g1855 (fun i9 => by rw [ef1861, q_setz (Or.inl (fun q => by rw [q, kmo] at kc1; exact absurd kc1 (by decide)))]) (fun i9 => by rw [ef1861, q_setz (Or.inl (fun q => by rw [q, kmo] at kc2; exact absurd kc2 (by decide)))])
                  have hsp : k_stp 2 = 0 := rfl
                  have hsc9 : q_sc f1861 mo cs c1 c2 := k_sc_add (c := 2) hsc ex1362 hf2 ex1363 z1869 z1863 (Eq.trans z1862 (by rw [hsp] <;> omega)) (by omega) z1865 g1878 g1877 g1879 (by rw [hsp] <;> omega) (by rw [hsp] <;> omega)
                  refine q_vret cx hr hlk hB dX12_command_129 ?_
                  exact (Or.inl ⟨z1866, (Eq.trans z1862 (by omega)), (q_isl z1867 (by omega)), (k_po_is z1868 z1867 (k_po_mono t1814 (by omega))), hsc9⟩)
                · exact absurd c1857 (by omega)
              · exact absurd c1835 (by omega)
            · obtain ⟨lz1880, uz1880⟩ := h1811
              have z1881 : q_is (q_z f1807 mo 37) xo := Eq.trans (hF.z hmo (by rw [kmo]; rfl)) z1792
              have z1882 : q_is (q_z f1807 mo 35) x1362 := Eq.trans (hF.z hmo (by rw [kmo]; rfl)) z1793
              have z1883 : q_is (q_z f1807 mo 36) (x1363 + 1) := Eq.trans (hF.z hmo (by rw [kmo]; rfl)) z1794
              have z1884 : q_is (q_z f1807 mo 3) x1765 := Eq.trans (hF.z hmo (by rw [kmo]; rfl)) z1795
              have z1885 : q_is (q_z f1807 cs (Int.toNat x1362)) 2 := Eq.trans (hF.z hcs (by rw [kcs]; rfl)) z1790
              have z1886 : q_ir (q_r f1807 mo 13) sr := Eq.trans (hF.r hmo (by rw [kmo]; rfl)) z1798
              have z1887 : q_ir (q_r f1807 mo 18) nm := Eq.trans (hF.r hmo (by rw [kmo]; rfl)) z1799
              have z1888 : q_ir (q_r f1807 mo 1) bu := Eq.trans (hF.r hmo (by rw [kmo]; rfl)) z1800
              have z1889 : q_ir (q_r f1807 mo 29) cs := Eq.trans (hF.r hmo (by rw [kmo]; rfl)) z1801
              have z1890 : q_ir (q_r f1807 mo 30) c1 := Eq.trans (hF.r hmo (by rw [kmo]; rfl)) z1802
              have z1891 : q_ir (q_r f1807 mo 31) c2 := Eq.trans (hF.r hmo (by rw [kmo]; rfl)) z1803
              have z1892 : q_ir (q_r f1807 mo 32) c3 := Eq.trans (hF.r hmo (by rw [kmo]; rfl)) z1804
              have g1893 : k_b1 f f1807 cs x1362 := k_b1_tr g1806 (fun i9 => hF.z hcs (by rw [kcs]; rfl))
              obtain ⟨x1894, ex1894⟩ : ∃ zz, q_is (q_z f1807 mo 8) zz := ⟨_, q_isr _⟩
              obtain ⟨lx1894, ux1894⟩ := q_isb ex1894 ⟨lz1880, uz1880⟩
              obtain ⟨x1895, ex1895⟩ : ∃ zz, q_is (q_z f1807 mo 4) zz := ⟨_, q_isr _⟩
              obtain ⟨lx1895, ux1895⟩ := q_isb ex1895 (q_fib hB.2.1 hmo kmo (by decide) rfl)
              obtain ⟨x1896, ex1896⟩ : ∃ zz, q_is (q_z f1807 mo 6) zz := ⟨_, q_isr _⟩
              obtain ⟨lx1896, ux1896⟩ := q_isb ex1896 (q_fib hB.2.1 hmo kmo (by decide) rfl)
              refine q_ald_n cx dX12_command_88 rfl (lv_at hl 2 rfl) ?_
              refine q_cVi (As := []) (rest := []) cx hB (fun _ h => h) hN hmo kmo (by decide) rfl (r_isGood1 l g hN hB.2.1 mo hmo kmo x1894 (by omega) (by omega) ex1894) q_cX12_130 q_dX12_isGood (by decide) rfl rfl hl.1 rfl (Nat.le_of_ble_eq_true rfl) dX12_command_89 (fun y1898 H locs f1897 ry1898 h1899 hF hB => ?_)
              obtain ⟨rfl, qy1898⟩ := h1899
              subst qy1898
              refine q_ifne (tgt := 96) cx ⟨by decide, by decide⟩ dX12_command_92 (by decide) (fun c1900 => ?_) (fun c1900 => ?_)
              · exact absurd c1900 (by omega)
              · refine q_vret cx hr hlk hB dX12_command_95 ?_
                exact (Or.inr (Or.inr ⟨(q_isl ex1894 (by omega)), (q_isu ex1894 (by omega))⟩))
          · exact absurd c1748 (by omega)
        · refine q_ald_n cx dX12_command_43 rfl (lv_at hl 1 rfl) ?_
          refine q_iconst cx dX12_command_44 ?_
          refine q_cVv (As := [.int (q_i 5)]) (rest := []) cx hB (fun _ h => h) hN hmo kmo (by decide) rfl (r_wrong0 l g hN hB.2.1 mo hmo kmo 5 (by decide) (by decide) hf0) q_cX12_137 q_dX12_wrong (by decide) rfl rfl hl.1 rfl (Nat.le_of_ble_eq_true rfl) dX12_command_45 (fun H locs f1901 h1903 hF hB => ?_)
          obtain ⟨lz1904, uz1904⟩ := h1903
          have z1905 : q_is (q_z f1901 mo 4) xp := Eq.trans (hF.z hmo (by rw [kmo]; rfl)) hf1
          have z1906 : q_is (q_z f1901 mo 37) xo := Eq.trans (hF.z hmo (by rw [kmo]; rfl)) hf2
          have z1907 : q_is (q_z f1901 mo 35) x1362 := Eq.trans (hF.z hmo (by rw [kmo]; rfl)) ex1362
          have z1908 : q_is (q_z f1901 mo 36) x1363 := Eq.trans (hF.z hmo (by rw [kmo]; rfl)) ex1363
          have z1909 : q_ir (q_r f1901 mo 13) sr := Eq.trans (hF.r hmo (by rw [kmo]; rfl)) hr0
          have z1910 : q_ir (q_r f1901 mo 18) nm := Eq.trans (hF.r hmo (by rw [kmo]; rfl)) hr1
          have z1911 : q_ir (q_r f1901 mo 1) bu := Eq.trans (hF.r hmo (by rw [kmo]; rfl)) hr2
          have z1912 : q_ir (q_r f1901 mo 29) cs := Eq.trans (hF.r hmo (by rw [kmo]; rfl)) hr3
          have z1913 : q_ir (q_r f1901 mo 30) c1 := Eq.trans (hF.r hmo (by rw [kmo]; rfl)) hr4
          have z1914 : q_ir (q_r f1901 mo 31) c2 := Eq.trans (hF.r hmo (by rw [kmo]; rfl)) hr5
          have z1915 : q_ir (q_r f1901 mo 32) c3 := Eq.trans (hF.r hmo (by rw [kmo]; rfl)) hr6
          have g1916 : q_sc f1901 mo cs c1 c2 := q_sc_tr hsc (hF.z hmo (by rw [kmo]; rfl)) (hF.z hmo (by rw [kmo]; rfl)) (hF.z hmo (by rw [kmo]; rfl)) (fun i9 => hF.z hcs (by rw [kcs]; rfl)) (fun i9 => hF.z hc1 (by rw [kc1]; rfl)) (fun i9 => hF.z hc2 (by rw [kc2]; rfl))
          have g1917 : k_bl f f1901 c1 c2 60 := k_bl_tr hbx (fun i9 => hF.z hc1 (by rw [kc1]; rfl)) (fun i9 => hF.z hc2 (by rw [kc2]; rfl))
          have g1918 : k_b1 f f1901 cs x1362 := k_b1_tr hbs (fun i9 => hF.z hcs (by rw [kcs]; rfl))
          obtain ⟨x1919, ex1919⟩ : ∃ zz, q_is (q_z f1901 mo 8) zz := ⟨_, q_isr _⟩
          obtain ⟨lx1919, ux1919⟩ := q_isb ex1919 ⟨lz1904, uz1904⟩
          refine q_ald_n cx dX12_command_48 rfl (lv_at hl 1 rfl) ?_
          refine q_cVi (As := []) (rest := []) cx hB (fun _ h => h) hN hmo kmo (by decide) rfl (r_isGood1 l g hN hB.2.1 mo hmo kmo x1919 (by omega) (by omega) ex1919) q_cX12_130 q_dX12_isGood (by decide) rfl rfl hl.1 rfl (Nat.le_of_ble_eq_true rfl) dX12_command_49 (fun y1921 H locs f1920 ry1921 h1922 hF hB => ?_)
          obtain ⟨rfl, qy1921⟩ := h1922
          subst qy1921
          refine q_ifne (tgt := 56) cx ⟨by decide, by decide⟩ dX12_command_52 (by decide) (fun c1923 => ?_) (fun c1923 => ?_)
          · exact absurd c1923 (by omega)
          · refine q_vret cx hr hlk hB dX12_command_55 ?_
            exact (Or.inr (Or.inr ⟨(q_isl ex1919 (by omega)), (q_isu ex1919 (by omega))⟩))
      · exact absurd c1742 (by omega)
    · exact absurd c1741 (by omega)
  · obtain ⟨rfl, qy1365⟩ := h1370
    subst qy1365
    refine lv_istore_n (lv' := [(1, .int (q_i 3)), (0, .ref mo)]) cx.1 cx.2.1 dX12_command_4 rfl hl (by decide) rfl (fun ls hl => ?_)
    refine q_ild_n cx dX12_command_5 rfl (lv_at hl 0 rfl) ?_
    refine q_iconst cx dX12_command_6 ?_
    refine q_icne (tgt := 15) cx ⟨by decide, by decide⟩ ⟨by decide, by decide⟩ dX12_command_7 (by decide) (fun c1924 => ?_) (fun c1924 => ?_)
    · refine q_ild_n cx dX12_command_15 rfl (lv_at hl 0 rfl) ?_
      refine q_bipush cx dX12_command_16 rfl ?_
      refine q_icne (tgt := 34) cx ⟨by decide, by decide⟩ ⟨by decide, by decide⟩ dX12_command_18 (by decide) (fun c1925 => ?_) (fun c1925 => ?_)
      · refine q_ald_n cx dX12_command_34 rfl (lv_at hl 1 rfl) ?_
        refine q_gX12_491 cx hB hmo kmo ex1363 dX12_command_35 (fun lb1926 ub1926 => ?_)
        refine q_bipush cx dX12_command_38 rfl ?_
        refine q_icne (tgt := 48) cx ⟨by omega, by omega⟩ ⟨by decide, by decide⟩ dX12_command_40 (by decide) (fun c1927 => ?_) (fun c1927 => ?_)
        · refine q_ald_n cx dX12_command_48 rfl (lv_at hl 1 rfl) ?_
          refine q_cVi (As := []) (rest := []) cx hB (fun _ h => h) hN hmo kmo (by decide) rfl (r_isGood0 l g hN hB.2.1 mo hmo kmo hf0) q_cX12_130 q_dX12_isGood (by decide) rfl rfl hl.1 rfl (Nat.le_of_ble_eq_true rfl) dX12_command_49 (fun y1929 H locs f1928 ry1929 h1930 hF hB => ?_)
          obtain ⟨rfl, qy1929⟩ := h1930
          subst qy1929
          refine q_ifne (tgt := 56) cx ⟨by decide, by decide⟩ dX12_command_52 (by decide) (fun c1931 => ?_) (fun c1931 => ?_)
          · refine q_ald_n cx dX12_command_56 rfl (lv_at hl 1 rfl) ?_
            refine lv_dup cx.1 cx.2.1 dX12_command_57 rfl ?_
            refine q_gX12_491 cx hB hmo kmo ex1363 dX12_command_58 (fun lb1932 ub1932 => ?_)
            refine q_iconst cx dX12_command_61 ?_
            refine q_iadd cx dX12_command_62 ?_
            refine q_pX12_491 cx hB hmo kmo ⟨by omega, by omega⟩ (by omega) (by omega) rfl dX12_command_63 (fun H locs f1933 ef1933 z1934 hB => ?_)
            have z1935 : q_is (q_z f1933 mo 8) 0 := by rw [ef1933, q_setz (Or.inr (by decide))]; exact hf0
            have z1936 : q_is (q_z f1933 mo 4) xp := by rw [ef1933, q_setz (Or.inr (by decide))]; exact hf1
            have z1937 : q_is (q_z f1933 mo 37) xo := by rw [ef1933, q_setz (Or.inr (by decide))]; exact hf2
            have z1938 : q_is (q_z f1933 mo 35) x1362 := by rw [ef1933, q_setz (Or.inr (by decide))]; exact ex1362
            have z1939 : q_ir (q_r f1933 mo 13) sr := by rw [ef1933, q_setr (Or.inr (by decide))]; exact hr0
            have z1940 : q_ir (q_r f1933 mo 18) nm := by rw [ef1933, q_setr (Or.inr (by decide))]; exact hr1
            have z1941 : q_ir (q_r f1933 mo 1) bu := by rw [ef1933, q_setr (Or.inr (by decide))]; exact hr2
            have z1942 : q_ir (q_r f1933 mo 29) cs := by rw [ef1933, q_setr (Or.inr (by decide))]; exact hr3
            have z1943 : q_ir (q_r f1933 mo 30) c1 := by rw [ef1933, q_setr (Or.inr (by decide))]; exact hr4
            have z1944 : q_ir (q_r f1933 mo 31) c2 := by rw [ef1933, q_setr (Or.inr (by decide))]; exact hr5
            have z1945 : q_ir (q_r f1933 mo 32) c3 := by rw [ef1933, q_setr (Or.inr (by decide))]; exact hr6
            have g1946 : k_bl f f1933 c1 c2 60 := k_bl_tr hbx (fun i9 => by rw [ef1933, q_setz (Or.inl (fun q => by rw [q, kmo] at kc1; exact absurd kc1 (by decide)))]) (fun i9 => by rw [ef1933, q_setz (Or.inl (fun q => by rw [q, kmo] at kc2; exact absurd kc2 (by decide)))])
            have g1947 : k_b1 f f1933 cs x1362 := k_b1_tr hbs (fun i9 => by rw [ef1933, q_setz (Or.inl (fun q => by rw [q, kmo] at kcs; exact absurd kcs (by decide)))])
            refine q_ald_n cx dX12_command_66 rfl (lv_at hl 1 rfl) ?_
            obtain ⟨x1948, ex1948⟩ : ∃ zz, q_is (q_z f1933 mo 3) zz := ⟨_, q_isr _⟩
            obtain ⟨lx1948, ux1948⟩ := q_isb ex1948 (q_fib hB.2.1 hmo kmo (by decide) rfl)
            refine q_cVv (As := []) (rest := []) cx hB (fun _ h => h) hN hmo kmo (by decide) rfl (r_goOn l g hN hB.2.1 mo hmo kmo bu hbu kbu xp (by omega) (by omega) x1948 (by omega) (by omega) z1936 ex1948 z1941) q_cX12_140 q_dX12_goOn (by decide) rfl rfl hl.1 rfl (Nat.le_of_ble_eq_true rfl) dX12_command_67 (fun H locs f1949 h1951 hF hB => ?_)
            obtain ⟨t1952, t1953⟩ := h1951
            have z1954 : q_is (q_z f1949 mo 8) 0 := Eq.trans (hF.z hmo (by rw [kmo]; rfl)) z1935
            have z1955 : q_is (q_z f1949 mo 37) xo := Eq.trans (hF.z hmo (by rw [kmo]; rfl)) z1937
            have z1956 : q_is (q_z f1949 mo 35) x1362 := Eq.trans (hF.z hmo (by rw [kmo]; rfl)) z1938
            have z1957 : q_is (q_z f1949 mo 36) (x1363 + 1) := Eq.trans (hF.z hmo (by rw [kmo]; rfl)) z1934
            have z1958 : q_is (q_z f1949 mo 3) x1948 := Eq.trans (hF.z hmo (by rw [kmo]; rfl)) ex1948
            have z1959 : q_ir (q_r f1949 mo 13) sr := Eq.trans (hF.r hmo (by rw [kmo]; rfl)) z1939
            have z1960 : q_ir (q_r f1949 mo 18) nm := Eq.trans (hF.r hmo (by rw [kmo]; rfl)) z1940
            have z1961 : q_ir (q_r f1949 mo 1) bu := Eq.trans (hF.r hmo (by rw [kmo]; rfl)) z1941
            have z1962 : q_ir (q_r f1949 mo 29) cs := Eq.trans (hF.r hmo (by rw [kmo]; rfl)) z1942
            have z1963 : q_ir (q_r f1949 mo 30) c1 := Eq.trans (hF.r hmo (by rw [kmo]; rfl)) z1943
            have z1964 : q_ir (q_r f1949 mo 31) c2 := Eq.trans (hF.r hmo (by rw [kmo]; rfl)) z1944
            have z1965 : q_ir (q_r f1949 mo 32) c3 := Eq.trans (hF.r hmo (by rw [kmo]; rfl)) z1945
            have g1966 : k_bl f f1949 c1 c2 60 := k_bl_tr g1946 (fun i9 => hF.z hc1 (by rw [kc1]; rfl)) (fun i9 => hF.z hc2 (by rw [kc2]; rfl))
            have g1967 : k_b1 f f1949 cs x1362 := k_b1_tr g1947 (fun i9 => hF.z hcs (by rw [kcs]; rfl))
            obtain ⟨x1968, ex1968⟩ : ∃ zz, q_is (q_z f1949 mo 4) zz := ⟨_, q_isr _⟩
            obtain ⟨lx1968, ux1968⟩ := q_isb ex1968 (q_fib hB.2.1 hmo kmo (by decide) rfl)
            obtain ⟨x1969, ex1969⟩ : ∃ zz, q_is (q_z f1949 mo 6) zz := ⟨_, q_isr _⟩
            obtain ⟨lx1969, ux1969⟩ := q_isb ex1969 (q_fib hB.2.1 hmo kmo (by decide) rfl)
            replace t1952 := q_isl9 ex1968 t1952
            replace t1953 := k_po_si ex1969 ex1968 t1953
            refine q_ald_n cx dX12_command_70 rfl (lv_at hl 1 rfl) ?_
            refine q_gX12_494 cx hB hmo kmo z1956 dX12_command_71 (fun lb1970 ub1970 => ?_)
            refine lv_istore_n (lv' := [(2, .int (q_i x1362)), (1, .int (q_i 3)), (0, .ref mo)]) cx.1 cx.2.1 dX12_command_74 rfl hl (by decide) rfl (fun ls hl => ?_)
            refine q_ald_n cx dX12_command_75 rfl (lv_at hl 2 rfl) ?_
            refine q_gX12_51 cx hB hmo kmo z1962 dX12_command_76 (fun hb1971 kb1971 => ?_)
            refine q_ild_n cx dX12_command_79 rfl (lv_at hl 0 rfl) ?_
            refine q_ild_n cx dX12_command_80 rfl (lv_at hl 1 rfl) ?_
            refine q_iast (lo := 0) (hi := 7) (n := 60) cx hB hcs kcs (by decide) rfl rfl (by omega) (by omega) (by decide) rfl ⟨by decide, by decide⟩ (by decide) (by decide) (q_inWi (lo := 0) (hi := 58) (by decide) (by omega) (by omega)) dX12_command_81 (fun H locs f1972 ef1972 z1973 hB => ?_)
            have z1974 : q_is (q_z f1972 mo 8) 0 := by rw [ef1972, q_setz (Or.inl (fun q => by rw [q, kcs] at kmo; exact absurd kmo (by decide)))]; exact z1954
            have z1975 : q_is (q_z f1972 mo 37) xo := by rw [ef1972, q_setz (Or.inl (fun q => by rw [q, kcs] at kmo; exact absurd kmo (by decide)))]; exact z1955
            have z1976 : q_is (q_z f1972 mo 35) x1362 := by rw [ef1972, q_setz (Or.inl (fun q => by rw [q, kcs] at kmo; exact absurd kmo (by decide)))]; exact z1956
            have z1977 : q_is (q_z f1972 mo 36) (x1363 + 1) := by rw [ef1972, q_setz (Or.inl (fun q => by rw [q, kcs] at kmo; exact absurd kmo (by decide)))]; exact z1957
            have z1978 : q_is (q_z f1972 mo 3) x1948 := by rw [ef1972, q_setz (Or.inl (fun q => by rw [q, kcs] at kmo; exact absurd kmo (by decide)))]; exact z1958
            have z1979 : q_is (q_z f1972 mo 4) x1968 := by rw [ef1972, q_setz (Or.inl (fun q => by rw [q, kcs] at kmo; exact absurd kmo (by decide)))]; exact ex1968
            have z1980 : q_is (q_z f1972 mo 6) x1969 := by rw [ef1972, q_setz (Or.inl (fun q => by rw [q, kcs] at kmo; exact absurd kmo (by decide)))]; exact ex1969
            have z1981 : q_ir (q_r f1972 mo 13) sr := by rw [ef1972, q_setr (Or.inl (fun q => by rw [q, kcs] at kmo; exact absurd kmo (by decide)))]; exact z1959
            have z1982 : q_ir (q_r f1972 mo 18) nm := by rw [ef1972, q_setr (Or.inl (fun q => by rw [q, kcs] at kmo; exact absurd kmo (by decide)))]; exact z1960
            have z1983 : q_ir (q_r f1972 mo 1) bu := by rw [ef1972, q_setr (Or.inl (fun q => by rw [q, kcs] at kmo; exact absurd kmo (by decide)))]; exact z1961
            have z1984 : q_ir (q_r f1972 mo 29) cs := by rw [ef1972, q_setr (Or.inl (fun q => by rw [q, kcs] at kmo; exact absurd kmo (by decide)))]; exact z1962
            have z1985 : q_ir (q_r f1972 mo 30) c1 := by rw [ef1972, q_setr (Or.inl (fun q => by rw [q, kcs] at kmo; exact absurd kmo (by decide)))]; exact z1963
            have z1986 : q_ir (q_r f1972 mo 31) c2 := by rw [ef1972, q_setr (Or.inl (fun q => by rw [q, kcs] at kmo; exact absurd kmo (by decide)))]; exact z1964
            have z1987 : q_ir (q_r f1972 mo 32) c3 := by rw [ef1972, q_setr (Or.inl (fun q => by rw [q, kcs] at kmo; exact absurd kmo (by decide)))]; exact z1965
            have g1988 : k_bl f f1972 c1 c2 60 := k_bl_tr g1966 (fun i9 => by rw [ef1972, q_setz (Or.inl (fun q => by rw [q, kcs] at kc1; exact absurd kc1 (by decide)))]) (fun i9 => by rw [ef1972, q_setz (Or.inl (fun q => by rw [q, kcs] at kc2; exact absurd kc2 (by decide)))])
            have g1989 : k_b1 f f1972 cs x1362 := k_b1_s g1967 ef1972 (by omega)
            refine q_ald_n cx dX12_command_82 rfl (lv_at hl 2 rfl) ?_
            refine q_ild_n cx dX12_command_83 rfl (lv_at hl 0 rfl) ?_
            refine q_ild_n cx dX12_command_84 rfl (lv_at hl 1 rfl) ?_
            refine q_cVv (As := [.int (q_i x1362), .int (q_i 3)]) (rest := []) cx hB (fun _ h => h) hN hmo kmo (by decide) rfl (r_readsNumbers3 l g hN hB.2.1 mo hmo kmo x1362 (by omega) (by omega) 3 (by decide) (by decide) sr hsr ksr nm hnm knm bu hbu kbu c1 hc1 kc1 c2 hc2 kc2 c3 hc3 kc3 x1968 (by omega) (by omega) z1974 z1979 z1981 z1982 z1983 z1985 z1986 z1987) q_cX12_497 q_dX12_readsNumbers (by decide) rfl rfl hl.1 rfl (Nat.le_of_ble_eq_true rfl) dX12_command_85 (fun H locs f1990 h1992 hF hB => ?_)
            rcases h1992 with h1993 | h1994
            · obtain ⟨z1995, t1996, t1997, t1998, t1999⟩ := h1993
              have z2000 : q_is (q_z f1990 mo 37) xo := Eq.trans (hF.z hmo (by rw [kmo]; rfl)) z1975
              have z2001 : q_is (q_z f1990 mo 35) x1362 := Eq.trans (hF.z hmo (by rw [kmo]; rfl)) z1976
              have z2002 : q_is (q_z f1990 mo 36) (x1363 + 1) := Eq.trans (hF.z hmo (by rw [kmo]; rfl)) z1977
              have z2003 : q_is (q_z f1990 mo 3) x1948 := Eq.trans (hF.z hmo (by rw [kmo]; rfl)) z1978
              have z2004 : q_is (q_z f1990 cs (Int.toNat x1362)) 3 := Eq.trans (hF.z hcs (by rw [kcs]; rfl)) z1973
              have z2005 : q_ir (q_r f1990 mo 13) sr := Eq.trans (hF.r hmo (by rw [kmo]; rfl)) z1981
              have z2006 : q_ir (q_r f1990 mo 18) nm := Eq.trans (hF.r hmo (by rw [kmo]; rfl)) z1982
              have z2007 : q_ir (q_r f1990 mo 1) bu := Eq.trans (hF.r hmo (by rw [kmo]; rfl)) z1983
              have z2008 : q_ir (q_r f1990 mo 29) cs := Eq.trans (hF.r hmo (by rw [kmo]; rfl)) z1984
              have z2009 : q_ir (q_r f1990 mo 30) c1 := Eq.trans (hF.r hmo (by rw [kmo]; rfl)) z1985
              have z2010 : q_ir (q_r f1990 mo 31) c2 := Eq.trans (hF.r hmo (by rw [kmo]; rfl)) z1986
              have z2011 : q_ir (q_r f1990 mo 32) c3 := Eq.trans (hF.r hmo (by rw [kmo]; rfl)) z1987
              have g2012 : k_b1 f f1990 cs x1362 := k_b1_tr g1989 (fun i9 => hF.z hcs (by rw [kcs]; rfl))
              obtain ⟨x2013, ex2013⟩ : ∃ zz, q_is (q_z f1990 mo 4) zz := ⟨_, q_isr _⟩
              obtain ⟨lx2013, ux2013⟩ := q_isb ex2013 (q_fib hB.2.1 hmo kmo (by decide) rfl)
              obtain ⟨x2014, ex2014⟩ : ∃ zz, q_is (q_z f1990 mo 6) zz := ⟨_, q_isr _⟩
              obtain ⟨lx2014, ux2014⟩ := q_isb ex2014 (q_fib hB.2.1 hmo kmo (by decide) rfl)
              replace t1996 := q_isl9 ex2013 t1996
              replace t1997 := k_po_si ex2014 ex2013 t1997
              have hb9 : k_bl f f1990 c1 c2 x1362 := k_bl_cat g1988 t1999 (by omega)
              refine q_ald_n cx dX12_command_88 rfl (lv_at hl 2 rfl) ?_
              refine q_cVi (As := []) (rest := []) cx hB (fun _ h => h) hN hmo kmo (by decide) rfl (r_isGood0 l g hN hB.2.1 mo hmo kmo z1995) q_cX12_130 q_dX12_isGood (by decide) rfl rfl hl.1 rfl (Nat.le_of_ble_eq_true rfl) dX12_command_89 (fun y2016 H locs f2015 ry2016 h2017 hF hB => ?_)
              obtain ⟨rfl, qy2016⟩ := h2017
              subst qy2016
              refine q_ifne (tgt := 96) cx ⟨by decide, by decide⟩ dX12_command_92 (by decide) (fun c2018 => ?_) (fun c2018 => ?_)
              · refine q_ald_n cx dX12_command_96 rfl (lv_at hl 2 rfl) ?_
                refine lv_dup cx.1 cx.2.1 dX12_command_97 rfl ?_
                refine q_gX12_494 cx hB hmo kmo z2001 dX12_command_98 (fun lb2019 ub2019 => ?_)
                refine q_iconst cx dX12_command_101 ?_
                refine q_iadd cx dX12_command_102 ?_
                refine q_pX12_494 cx hB hmo kmo ⟨by omega, by omega⟩ (by omega) (by omega) rfl dX12_command_103 (fun H locs f2020 ef2020 z2021 hB => ?_)
                have z2022 : q_is (q_z f2020 mo 37) xo := by rw [ef2020, q_setz (Or.inr (by decide))]; exact z2000
                have z2023 : q_is (q_z f2020 mo 36) (x1363 + 1) := by rw [ef2020, q_setz (Or.inr (by decide))]; exact z2002
                have z2024 : q_is (q_z f2020 mo 3) x1948 := by rw [ef2020, q_setz (Or.inr (by decide))]; exact z2003
                have z2025 : q_is (q_z f2020 cs (Int.toNat x1362)) 3 := by rw [ef2020, q_setz (Or.inl (fun q => by rw [q, kmo] at kcs; exact absurd kcs (by decide)))]; exact z2004
                have z2026 : q_is (q_z f2020 mo 8) 0 := by rw [ef2020, q_setz (Or.inr (by decide))]; exact z1995
                have z2027 : q_is (q_z f2020 mo 4) x2013 := by rw [ef2020, q_setz (Or.inr (by decide))]; exact ex2013
                have z2028 : q_is (q_z f2020 mo 6) x2014 := by rw [ef2020, q_setz (Or.inr (by decide))]; exact ex2014
                have z2029 : q_ir (q_r f2020 mo 13) sr := by rw [ef2020, q_setr (Or.inr (by decide))]; exact z2005
                have z2030 : q_ir (q_r f2020 mo 18) nm := by rw [ef2020, q_setr (Or.inr (by decide))]; exact z2006
                have z2031 : q_ir (q_r f2020 mo 1) bu := by rw [ef2020, q_setr (Or.inr (by decide))]; exact z2007
                have z2032 : q_ir (q_r f2020 mo 29) cs := by rw [ef2020, q_setr (Or.inr (by decide))]; exact z2008
                have z2033 : q_ir (q_r f2020 mo 30) c1 := by rw [ef2020, q_setr (Or.inr (by decide))]; exact z2009
                have z2034 : q_ir (q_r f2020 mo 31) c2 := by rw [ef2020, q_setr (Or.inr (by decide))]; exact z2010
                have z2035 : q_ir (q_r f2020 mo 32) c3 := by rw [ef2020, q_setr (Or.inr (by decide))]; exact z2011
                have g2036 : k_b1 f f2020 cs x1362 := k_b1_tr g2012 (fun i9 => by rw [ef2020, q_setz (Or.inl (fun q => by rw [q, kmo] at kcs; exact absurd kcs (by decide)))])
                have g2037 : k_cc 3 f2020 c1 c2 (Int.toNat x1362) := k_cc_tr t1998 (fun i9 => by rw [ef2020, q_setz (Or.inl (fun q => by rw [q, kmo] at kc1; exact absurd kc1 (by decide)))]) (fun i9 => by rw [ef2020, q_setz (Or.inl (fun q => by rw [q, kmo] at kc2; exact absurd kc2 (by decide)))])
                have g2038 : k_bl f f2020 c1 c2 x1362 := k_bl_tr hb9 (fun i9 => by rw [ef2020, q_setz (Or.inl (fun q => by rw [q, kmo] at kc1; exact absurd kc1 (by decide)))]) (fun i9 => by rw [ef2020, q_setz (Or.inl (fun q => by rw [q, kmo] at kc2; exact absurd kc2 (by decide)))])
                refine q_ald_n cx dX12_command_106 rfl (lv_at hl 2 rfl) ?_
                refine lv_dup cx.1 cx.2.1 dX12_command_107 rfl ?_
                refine q_gX12_488 cx hB hmo kmo z2022 dX12_command_108 (fun lb2039 ub2039 => ?_)
                refine q_ild_n cx dX12_command_111 rfl (lv_at hl 1 rfl) ?_
                refine q_bipush cx dX12_command_112 rfl ?_
                refine q_icne (tgt := 121) cx ⟨by decide, by decide⟩ ⟨by decide, by decide⟩ dX12_command_114 (by decide) (fun c2040 => ?_) (fun c2040 => ?_)
                · refine q_iconst cx dX12_command_121 ?_
                  refine q_cSi (As := [.int (q_i 0)]) (rest := [.int (q_i xo), .ref mo]) cx hB (fun _ h => h) hN (r_truth0 l g hN hB.2.1 0 (by decide) (by decide)) q_cX12_78 q_dX12_truth (by decide) rfl rfl hl.1 rfl (Nat.le_of_ble_eq_true rfl) dX12_command_122 (fun y2042 H locs f2041 ry2042 h2043 hF hB => ?_)
                  obtain ⟨rfl, qy2042⟩ := h2043
                  subst qy2042
                  refine q_iadd cx dX12_command_125 ?_
                  refine q_pX12_488 cx hB hmo kmo ⟨by omega, by omega⟩ (by omega) (by omega) rfl dX12_command_126 (fun H locs f2044 ef2044 z2045 hB => ?_)
                  have z2046 : q_is (q_z f2044 mo 36) (x1363 + 1) := by rw [ef2044, q_setz (Or.inr (by decide))]; exact z2023
                  have z2047 : q_is (q_z f2044 mo 3) x1948 := by rw [ef2044, q_setz (Or.inr (by decide))]; exact z2024
                  have z2048 : q_is (q_z f2044 cs (Int.toNat x1362)) 3 := by rw [ef2044, q_setz (Or.inl (fun q => by rw [q, kmo] at kcs; exact absurd kcs (by decide)))]; exact z2025
                  have z2049 : q_is (q_z f2044 mo 8) 0 := by rw [ef2044, q_setz (Or.inr (by decide))]; exact z2026
                  have z2050 : q_is (q_z f2044 mo 4) x2013 := by rw [ef2044, q_setz (Or.inr (by decide))]; exact z2027
                  have z2051 : q_is (q_z f2044 mo 6) x2014 := by rw [ef2044, q_setz (Or.inr (by decide))]; exact z2028
                  have z2052 : q_is (q_z f2044 mo 35) (x1362 + 1) := by rw [ef2044, q_setz (Or.inr (by decide))]; exact z2021
                  have z2053 : q_ir (q_r f2044 mo 13) sr := by rw [ef2044, q_setr (Or.inr (by decide))]; exact z2029
                  have z2054 : q_ir (q_r f2044 mo 18) nm := by rw [ef2044, q_setr (Or.inr (by decide))]; exact z2030
                  have z2055 : q_ir (q_r f2044 mo 1) bu := by rw [ef2044, q_setr (Or.inr (by decide))]; exact z2031
                  have z2056 : q_ir (q_r f2044 mo 29) cs := by rw [ef2044, q_setr (Or.inr (by decide))]; exact z2032
                  have z2057 : q_ir (q_r f2044 mo 30) c1 := by rw [ef2044, q_setr (Or.inr (by decide))]; exact z2033
                  have z2058 : q_ir (q_r f2044 mo 31) c2 := by rw [ef2044, q_setr (Or.inr (by decide))]; exact z2034
                  have z2059 : q_ir (q_r f2044 mo 32) c3 := by rw [ef2044, q_setr (Or.inr (by decide))]; exact z2035
                  have g2060 : k_b1 f f2044 cs x1362 := k_b1_tr g2036 (fun i9 => by rw [ef2044, q_setz (Or.inl (fun q => by rw [q, kmo] at kcs; exact absurd kcs (by decide)))])
                  have g2061 : k_cc 3 f2044 c1 c2 (Int.toNat x1362) := k_cc_tr g2037 (fun i9 => by rw [ef2044, q_setz (Or.inl (fun q => by rw [q, kmo] at kc1; exact absurd kc1 (by decide)))]) (fun i9 => by rw [ef2044, q_setz (Or.inl (fun q => by rw [q, kmo] at kc2; exact absurd kc2 (by decide)))])
                  have g2062 : k_bl f f2044 c1 c2 x1362 := k_bl_tr g2038 (fun i9 => by rw [ef2044, q_setz (Or.inl (fun q => by rw [q, kmo] at kc1; exact absurd kc1 (by decide)))]) (fun i9 => by rw [ef2044, q_setz (Or.inl (fun q => by rw [q, kmo] at kc2; exact absurd kc2 (by decide)))])
                  have hsp : k_stp 3 = 0 := rfl
                  have hsc9 : q_sc f2044 mo cs c1 c2 := k_sc_add (c := 3) hsc ex1362 hf2 ex1363 z2052 z2046 (Eq.trans z2045 (by rw [hsp] <;> omega)) (by omega) z2048 g2061 g2060 g2062 (by rw [hsp] <;> omega) (by rw [hsp] <;> omega)
                  refine q_vret cx hr hlk hB dX12_command_129 ?_
                  exact (Or.inl ⟨z2049, (Eq.trans z2045 (by omega)), (q_isl z2050 (by omega)), (k_po_is z2051 z2050 (k_po_mono t1997 (by omega))), hsc9⟩)
                · exact absurd c2040 (by omega)
              · exact absurd c2018 (by omega)
            · obtain ⟨lz2063, uz2063⟩ := h1994
              have z2064 : q_is (q_z f1990 mo 37) xo := Eq.trans (hF.z hmo (by rw [kmo]; rfl)) z1975
              have z2065 : q_is (q_z f1990 mo 35) x1362 := Eq.trans (hF.z hmo (by rw [kmo]; rfl)) z1976
              have z2066 : q_is (q_z f1990 mo 36) (x1363 + 1) := Eq.trans (hF.z hmo (by rw [kmo]; rfl)) z1977
              have z2067 : q_is (q_z f1990 mo 3) x1948 := Eq.trans (hF.z hmo (by rw [kmo]; rfl)) z1978
              have z2068 : q_is (q_z f1990 cs (Int.toNat x1362)) 3 := Eq.trans (hF.z hcs (by rw [kcs]; rfl)) z1973
              have z2069 : q_ir (q_r f1990 mo 13) sr := Eq.trans (hF.r hmo (by rw [kmo]; rfl)) z1981
              have z2070 : q_ir (q_r f1990 mo 18) nm := Eq.trans (hF.r hmo (by rw [kmo]; rfl)) z1982
              have z2071 : q_ir (q_r f1990 mo 1) bu := Eq.trans (hF.r hmo (by rw [kmo]; rfl)) z1983
              have z2072 : q_ir (q_r f1990 mo 29) cs := Eq.trans (hF.r hmo (by rw [kmo]; rfl)) z1984
              have z2073 : q_ir (q_r f1990 mo 30) c1 := Eq.trans (hF.r hmo (by rw [kmo]; rfl)) z1985
              have z2074 : q_ir (q_r f1990 mo 31) c2 := Eq.trans (hF.r hmo (by rw [kmo]; rfl)) z1986
              have z2075 : q_ir (q_r f1990 mo 32) c3 := Eq.trans (hF.r hmo (by rw [kmo]; rfl)) z1987
              have g2076 : k_b1 f f1990 cs x1362 := k_b1_tr g1989 (fun i9 => hF.z hcs (by rw [kcs]; rfl))
              obtain ⟨x2077, ex2077⟩ : ∃ zz, q_is (q_z f1990 mo 8) zz := ⟨_, q_isr _⟩
              obtain ⟨lx2077, ux2077⟩ := q_isb ex2077 ⟨lz2063, uz2063⟩
              obtain ⟨x2078, ex2078⟩ : ∃ zz, q_is (q_z f1990 mo 4) zz := ⟨_, q_isr _⟩
              obtain ⟨lx2078, ux2078⟩ := q_isb ex2078 (q_fib hB.2.1 hmo kmo (by decide) rfl)
              obtain ⟨x2079, ex2079⟩ : ∃ zz, q_is (q_z f1990 mo 6) zz := ⟨_, q_isr _⟩
              obtain ⟨lx2079, ux2079⟩ := q_isb ex2079 (q_fib hB.2.1 hmo kmo (by decide) rfl)
              refine q_ald_n cx dX12_command_88 rfl (lv_at hl 2 rfl) ?_
              refine q_cVi (As := []) (rest := []) cx hB (fun _ h => h) hN hmo kmo (by decide) rfl (r_isGood1 l g hN hB.2.1 mo hmo kmo x2077 (by omega) (by omega) ex2077) q_cX12_130 q_dX12_isGood (by decide) rfl rfl hl.1 rfl (Nat.le_of_ble_eq_true rfl) dX12_command_89 (fun y2081 H locs f2080 ry2081 h2082 hF hB => ?_)
              obtain ⟨rfl, qy2081⟩ := h2082
              subst qy2081
              refine q_ifne (tgt := 96) cx ⟨by decide, by decide⟩ dX12_command_92 (by decide) (fun c2083 => ?_) (fun c2083 => ?_)
              · exact absurd c2083 (by omega)
              · refine q_vret cx hr hlk hB dX12_command_95 ?_
                exact (Or.inr (Or.inr ⟨(q_isl ex2077 (by omega)), (q_isu ex2077 (by omega))⟩))
          · exact absurd c1931 (by omega)
        · refine q_ald_n cx dX12_command_43 rfl (lv_at hl 1 rfl) ?_
          refine q_iconst cx dX12_command_44 ?_
          refine q_cVv (As := [.int (q_i 5)]) (rest := []) cx hB (fun _ h => h) hN hmo kmo (by decide) rfl (r_wrong0 l g hN hB.2.1 mo hmo kmo 5 (by decide) (by decide) hf0) q_cX12_137 q_dX12_wrong (by decide) rfl rfl hl.1 rfl (Nat.le_of_ble_eq_true rfl) dX12_command_45 (fun H locs f2084 h2086 hF hB => ?_)
          obtain ⟨lz2087, uz2087⟩ := h2086
          have z2088 : q_is (q_z f2084 mo 4) xp := Eq.trans (hF.z hmo (by rw [kmo]; rfl)) hf1
          have z2089 : q_is (q_z f2084 mo 37) xo := Eq.trans (hF.z hmo (by rw [kmo]; rfl)) hf2
          have z2090 : q_is (q_z f2084 mo 35) x1362 := Eq.trans (hF.z hmo (by rw [kmo]; rfl)) ex1362
          have z2091 : q_is (q_z f2084 mo 36) x1363 := Eq.trans (hF.z hmo (by rw [kmo]; rfl)) ex1363
          have z2092 : q_ir (q_r f2084 mo 13) sr := Eq.trans (hF.r hmo (by rw [kmo]; rfl)) hr0
          have z2093 : q_ir (q_r f2084 mo 18) nm := Eq.trans (hF.r hmo (by rw [kmo]; rfl)) hr1
          have z2094 : q_ir (q_r f2084 mo 1) bu := Eq.trans (hF.r hmo (by rw [kmo]; rfl)) hr2
          have z2095 : q_ir (q_r f2084 mo 29) cs := Eq.trans (hF.r hmo (by rw [kmo]; rfl)) hr3
          have z2096 : q_ir (q_r f2084 mo 30) c1 := Eq.trans (hF.r hmo (by rw [kmo]; rfl)) hr4
          have z2097 : q_ir (q_r f2084 mo 31) c2 := Eq.trans (hF.r hmo (by rw [kmo]; rfl)) hr5
          have z2098 : q_ir (q_r f2084 mo 32) c3 := Eq.trans (hF.r hmo (by rw [kmo]; rfl)) hr6
          have g2099 : q_sc f2084 mo cs c1 c2 := q_sc_tr hsc (hF.z hmo (by rw [kmo]; rfl)) (hF.z hmo (by rw [kmo]; rfl)) (hF.z hmo (by rw [kmo]; rfl)) (fun i9 => hF.z hcs (by rw [kcs]; rfl)) (fun i9 => hF.z hc1 (by rw [kc1]; rfl)) (fun i9 => hF.z hc2 (by rw [kc2]; rfl))
          have g2100 : k_bl f f2084 c1 c2 60 := k_bl_tr hbx (fun i9 => hF.z hc1 (by rw [kc1]; rfl)) (fun i9 => hF.z hc2 (by rw [kc2]; rfl))
          have g2101 : k_b1 f f2084 cs x1362 := k_b1_tr hbs (fun i9 => hF.z hcs (by rw [kcs]; rfl))
          obtain ⟨x2102, ex2102⟩ : ∃ zz, q_is (q_z f2084 mo 8) zz := ⟨_, q_isr _⟩
          obtain ⟨lx2102, ux2102⟩ := q_isb ex2102 ⟨lz2087, uz2087⟩
          refine q_ald_n cx dX12_command_48 rfl (lv_at hl 1 rfl) ?_
          refine q_cVi (As := []) (rest := []) cx hB (fun _ h => h) hN hmo kmo (by decide) rfl (r_isGood1 l g hN hB.2.1 mo hmo kmo x2102 (by omega) (by omega) ex2102) q_cX12_130 q_dX12_isGood (by decide) rfl rfl hl.1 rfl (Nat.le_of_ble_eq_true rfl) dX12_command_49 (fun y2104 H locs f2103 ry2104 h2105 hF hB => ?_)
          obtain ⟨rfl, qy2104⟩ := h2105
          subst qy2104
          refine q_ifne (tgt := 56) cx ⟨by decide, by decide⟩ dX12_command_52 (by decide) (fun c2106 => ?_) (fun c2106 => ?_)
          · exact absurd c2106 (by omega)
          · refine q_vret cx hr hlk hB dX12_command_55 ?_
            exact (Or.inr (Or.inr ⟨(q_isl ex2102 (by omega)), (q_isu ex2102 (by omega))⟩))
      · exact absurd c1925 (by omega)
    · exact absurd c1924 (by omega)
  · obtain ⟨rfl, qy1365⟩ := h1371
    subst qy1365
    refine lv_istore_n (lv' := [(1, .int (q_i 4)), (0, .ref mo)]) cx.1 cx.2.1 dX12_command_4 rfl hl (by decide) rfl (fun ls hl => ?_)
    refine q_ild_n cx dX12_command_5 rfl (lv_at hl 0 rfl) ?_
    refine q_iconst cx dX12_command_6 ?_
    refine q_icne (tgt := 15) cx ⟨by decide, by decide⟩ ⟨by decide, by decide⟩ dX12_command_7 (by decide) (fun c2107 => ?_) (fun c2107 => ?_)
    · refine q_ild_n cx dX12_command_15 rfl (lv_at hl 0 rfl) ?_
      refine q_bipush cx dX12_command_16 rfl ?_
      refine q_icne (tgt := 34) cx ⟨by decide, by decide⟩ ⟨by decide, by decide⟩ dX12_command_18 (by decide) (fun c2108 => ?_) (fun c2108 => ?_)
      · refine q_ald_n cx dX12_command_34 rfl (lv_at hl 1 rfl) ?_
        refine q_gX12_491 cx hB hmo kmo ex1363 dX12_command_35 (fun lb2109 ub2109 => ?_)
        refine q_bipush cx dX12_command_38 rfl ?_
        refine q_icne (tgt := 48) cx ⟨by omega, by omega⟩ ⟨by decide, by decide⟩ dX12_command_40 (by decide) (fun c2110 => ?_) (fun c2110 => ?_)
        · refine q_ald_n cx dX12_command_48 rfl (lv_at hl 1 rfl) ?_
          refine q_cVi (As := []) (rest := []) cx hB (fun _ h => h) hN hmo kmo (by decide) rfl (r_isGood0 l g hN hB.2.1 mo hmo kmo hf0) q_cX12_130 q_dX12_isGood (by decide) rfl rfl hl.1 rfl (Nat.le_of_ble_eq_true rfl) dX12_command_49 (fun y2112 H locs f2111 ry2112 h2113 hF hB => ?_)
          obtain ⟨rfl, qy2112⟩ := h2113
          subst qy2112
          refine q_ifne (tgt := 56) cx ⟨by decide, by decide⟩ dX12_command_52 (by decide) (fun c2114 => ?_) (fun c2114 => ?_)
          · refine q_ald_n cx dX12_command_56 rfl (lv_at hl 1 rfl) ?_
            refine lv_dup cx.1 cx.2.1 dX12_command_57 rfl ?_
            refine q_gX12_491 cx hB hmo kmo ex1363 dX12_command_58 (fun lb2115 ub2115 => ?_)
            refine q_iconst cx dX12_command_61 ?_
            refine q_iadd cx dX12_command_62 ?_
            refine q_pX12_491 cx hB hmo kmo ⟨by omega, by omega⟩ (by omega) (by omega) rfl dX12_command_63 (fun H locs f2116 ef2116 z2117 hB => ?_)
            have z2118 : q_is (q_z f2116 mo 8) 0 := by rw [ef2116, q_setz (Or.inr (by decide))]; exact hf0
            have z2119 : q_is (q_z f2116 mo 4) xp := by rw [ef2116, q_setz (Or.inr (by decide))]; exact hf1
            have z2120 : q_is (q_z f2116 mo 37) xo := by rw [ef2116, q_setz (Or.inr (by decide))]; exact hf2
            have z2121 : q_is (q_z f2116 mo 35) x1362 := by rw [ef2116, q_setz (Or.inr (by decide))]; exact ex1362
            have z2122 : q_ir (q_r f2116 mo 13) sr := by rw [ef2116, q_setr (Or.inr (by decide))]; exact hr0
            have z2123 : q_ir (q_r f2116 mo 18) nm := by rw [ef2116, q_setr (Or.inr (by decide))]; exact hr1
            have z2124 : q_ir (q_r f2116 mo 1) bu := by rw [ef2116, q_setr (Or.inr (by decide))]; exact hr2
            have z2125 : q_ir (q_r f2116 mo 29) cs := by rw [ef2116, q_setr (Or.inr (by decide))]; exact hr3
            have z2126 : q_ir (q_r f2116 mo 30) c1 := by rw [ef2116, q_setr (Or.inr (by decide))]; exact hr4
            have z2127 : q_ir (q_r f2116 mo 31) c2 := by rw [ef2116, q_setr (Or.inr (by decide))]; exact hr5
            have z2128 : q_ir (q_r f2116 mo 32) c3 := by rw [ef2116, q_setr (Or.inr (by decide))]; exact hr6
            have g2129 : k_bl f f2116 c1 c2 60 := k_bl_tr hbx (fun i9 => by rw [ef2116, q_setz (Or.inl (fun q => by rw [q, kmo] at kc1; exact absurd kc1 (by decide)))]) (fun i9 => by rw [ef2116, q_setz (Or.inl (fun q => by rw [q, kmo] at kc2; exact absurd kc2 (by decide)))])
            have g2130 : k_b1 f f2116 cs x1362 := k_b1_tr hbs (fun i9 => by rw [ef2116, q_setz (Or.inl (fun q => by rw [q, kmo] at kcs; exact absurd kcs (by decide)))])
            refine q_ald_n cx dX12_command_66 rfl (lv_at hl 1 rfl) ?_
            obtain ⟨x2131, ex2131⟩ : ∃ zz, q_is (q_z f2116 mo 3) zz := ⟨_, q_isr _⟩
            obtain ⟨lx2131, ux2131⟩ := q_isb ex2131 (q_fib hB.2.1 hmo kmo (by decide) rfl)
            refine q_cVv (As := []) (rest := []) cx hB (fun _ h => h) hN hmo kmo (by decide) rfl (r_goOn l g hN hB.2.1 mo hmo kmo bu hbu kbu xp (by omega) (by omega) x2131 (by omega) (by omega) z2119 ex2131 z2124) q_cX12_140 q_dX12_goOn (by decide) rfl rfl hl.1 rfl (Nat.le_of_ble_eq_true rfl) dX12_command_67 (fun H locs f2132 h2134 hF hB => ?_)
            obtain ⟨t2135, t2136⟩ := h2134
            have z2137 : q_is (q_z f2132 mo 8) 0 := Eq.trans (hF.z hmo (by rw [kmo]; rfl)) z2118
            have z2138 : q_is (q_z f2132 mo 37) xo := Eq.trans (hF.z hmo (by rw [kmo]; rfl)) z2120
            have z2139 : q_is (q_z f2132 mo 35) x1362 := Eq.trans (hF.z hmo (by rw [kmo]; rfl)) z2121
            have z2140 : q_is (q_z f2132 mo 36) (x1363 + 1) := Eq.trans (hF.z hmo (by rw [kmo]; rfl)) z2117
            have z2141 : q_is (q_z f2132 mo 3) x2131 := Eq.trans (hF.z hmo (by rw [kmo]; rfl)) ex2131
            have z2142 : q_ir (q_r f2132 mo 13) sr := Eq.trans (hF.r hmo (by rw [kmo]; rfl)) z2122
            have z2143 : q_ir (q_r f2132 mo 18) nm := Eq.trans (hF.r hmo (by rw [kmo]; rfl)) z2123
            have z2144 : q_ir (q_r f2132 mo 1) bu := Eq.trans (hF.r hmo (by rw [kmo]; rfl)) z2124
            have z2145 : q_ir (q_r f2132 mo 29) cs := Eq.trans (hF.r hmo (by rw [kmo]; rfl)) z2125
            have z2146 : q_ir (q_r f2132 mo 30) c1 := Eq.trans (hF.r hmo (by rw [kmo]; rfl)) z2126
            have z2147 : q_ir (q_r f2132 mo 31) c2 := Eq.trans (hF.r hmo (by rw [kmo]; rfl)) z2127
            have z2148 : q_ir (q_r f2132 mo 32) c3 := Eq.trans (hF.r hmo (by rw [kmo]; rfl)) z2128
            have g2149 : k_bl f f2132 c1 c2 60 := k_bl_tr g2129 (fun i9 => hF.z hc1 (by rw [kc1]; rfl)) (fun i9 => hF.z hc2 (by rw [kc2]; rfl))
            have g2150 : k_b1 f f2132 cs x1362 := k_b1_tr g2130 (fun i9 => hF.z hcs (by rw [kcs]; rfl))
            obtain ⟨x2151, ex2151⟩ : ∃ zz, q_is (q_z f2132 mo 4) zz := ⟨_, q_isr _⟩
            obtain ⟨lx2151, ux2151⟩ := q_isb ex2151 (q_fib hB.2.1 hmo kmo (by decide) rfl)
            obtain ⟨x2152, ex2152⟩ : ∃ zz, q_is (q_z f2132 mo 6) zz := ⟨_, q_isr _⟩
            obtain ⟨lx2152, ux2152⟩ := q_isb ex2152 (q_fib hB.2.1 hmo kmo (by decide) rfl)
            replace t2135 := q_isl9 ex2151 t2135
            replace t2136 := k_po_si ex2152 ex2151 t2136
            refine q_ald_n cx dX12_command_70 rfl (lv_at hl 1 rfl) ?_
            refine q_gX12_494 cx hB hmo kmo z2139 dX12_command_71 (fun lb2153 ub2153 => ?_)
            refine lv_istore_n (lv' := [(2, .int (q_i x1362)), (1, .int (q_i 4)), (0, .ref mo)]) cx.1 cx.2.1 dX12_command_74 rfl hl (by decide) rfl (fun ls hl => ?_)
            refine q_ald_n cx dX12_command_75 rfl (lv_at hl 2 rfl) ?_
            refine q_gX12_51 cx hB hmo kmo z2145 dX12_command_76 (fun hb2154 kb2154 => ?_)
            refine q_ild_n cx dX12_command_79 rfl (lv_at hl 0 rfl) ?_
            refine q_ild_n cx dX12_command_80 rfl (lv_at hl 1 rfl) ?_
            refine q_iast (lo := 0) (hi := 7) (n := 60) cx hB hcs kcs (by decide) rfl rfl (by omega) (by omega) (by decide) rfl ⟨by decide, by decide⟩ (by decide) (by decide) (q_inWi (lo := 0) (hi := 58) (by decide) (by omega) (by omega)) dX12_command_81 (fun H locs f2155 ef2155 z2156 hB => ?_)
            have z2157 : q_is (q_z f2155 mo 8) 0 := by rw [ef2155, q_setz (Or.inl (fun q => by rw [q, kcs] at kmo; exact absurd kmo (by decide)))]; exact z2137
            have z2158 : q_is (q_z f2155 mo 37) xo := by rw [ef2155, q_setz (Or.inl (fun q => by rw [q, kcs] at kmo; exact absurd kmo (by decide)))]; exact z2138
            have z2159 : q_is (q_z f2155 mo 35) x1362 := by rw [ef2155, q_setz (Or.inl (fun q => by rw [q, kcs] at kmo; exact absurd kmo (by decide)))]; exact z2139
            have z2160 : q_is (q_z f2155 mo 36) (x1363 + 1) := by rw [ef2155, q_setz (Or.inl (fun q => by rw [q, kcs] at kmo; exact absurd kmo (by decide)))]; exact z2140
            have z2161 : q_is (q_z f2155 mo 3) x2131 := by rw [ef2155, q_setz (Or.inl (fun q => by rw [q, kcs] at kmo; exact absurd kmo (by decide)))]; exact z2141
            have z2162 : q_is (q_z f2155 mo 4) x2151 := by rw [ef2155, q_setz (Or.inl (fun q => by rw [q, kcs] at kmo; exact absurd kmo (by decide)))]; exact ex2151
            have z2163 : q_is (q_z f2155 mo 6) x2152 := by rw [ef2155, q_setz (Or.inl (fun q => by rw [q, kcs] at kmo; exact absurd kmo (by decide)))]; exact ex2152
            have z2164 : q_ir (q_r f2155 mo 13) sr := by rw [ef2155, q_setr (Or.inl (fun q => by rw [q, kcs] at kmo; exact absurd kmo (by decide)))]; exact z2142
            have z2165 : q_ir (q_r f2155 mo 18) nm := by rw [ef2155, q_setr (Or.inl (fun q => by rw [q, kcs] at kmo; exact absurd kmo (by decide)))]; exact z2143
            have z2166 : q_ir (q_r f2155 mo 1) bu := by rw [ef2155, q_setr (Or.inl (fun q => by rw [q, kcs] at kmo; exact absurd kmo (by decide)))]; exact z2144
            have z2167 : q_ir (q_r f2155 mo 29) cs := by rw [ef2155, q_setr (Or.inl (fun q => by rw [q, kcs] at kmo; exact absurd kmo (by decide)))]; exact z2145
            have z2168 : q_ir (q_r f2155 mo 30) c1 := by rw [ef2155, q_setr (Or.inl (fun q => by rw [q, kcs] at kmo; exact absurd kmo (by decide)))]; exact z2146
            have z2169 : q_ir (q_r f2155 mo 31) c2 := by rw [ef2155, q_setr (Or.inl (fun q => by rw [q, kcs] at kmo; exact absurd kmo (by decide)))]; exact z2147
            have z2170 : q_ir (q_r f2155 mo 32) c3 := by rw [ef2155, q_setr (Or.inl (fun q => by rw [q, kcs] at kmo; exact absurd kmo (by decide)))]; exact z2148
            have g2171 : k_bl f f2155 c1 c2 60 := k_bl_tr g2149 (fun i9 => by rw [ef2155, q_setz (Or.inl (fun q => by rw [q, kcs] at kc1; exact absurd kc1 (by decide)))]) (fun i9 => by rw [ef2155, q_setz (Or.inl (fun q => by rw [q, kcs] at kc2; exact absurd kc2 (by decide)))])
            have g2172 : k_b1 f f2155 cs x1362 := k_b1_s g2150 ef2155 (by omega)
            refine q_ald_n cx dX12_command_82 rfl (lv_at hl 2 rfl) ?_
            refine q_ild_n cx dX12_command_83 rfl (lv_at hl 0 rfl) ?_
            refine q_ild_n cx dX12_command_84 rfl (lv_at hl 1 rfl) ?_
            refine q_cVv (As := [.int (q_i x1362), .int (q_i 4)]) (rest := []) cx hB (fun _ h => h) hN hmo kmo (by decide) rfl (r_readsNumbers4 l g hN hB.2.1 mo hmo kmo x1362 (by omega) (by omega) 4 (by decide) (by decide) sr hsr ksr nm hnm knm bu hbu kbu c1 hc1 kc1 c2 hc2 kc2 c3 hc3 kc3 x2151 (by omega) (by omega) z2157 z2162 z2164 z2165 z2166 z2168 z2169 z2170) q_cX12_497 q_dX12_readsNumbers (by decide) rfl rfl hl.1 rfl (Nat.le_of_ble_eq_true rfl) dX12_command_85 (fun H locs f2173 h2175 hF hB => ?_)
            rcases h2175 with h2176 | h2177
            · obtain ⟨z2178, t2179, t2180, t2181, t2182⟩ := h2176
              have z2183 : q_is (q_z f2173 mo 37) xo := Eq.trans (hF.z hmo (by rw [kmo]; rfl)) z2158
              have z2184 : q_is (q_z f2173 mo 35) x1362 := Eq.trans (hF.z hmo (by rw [kmo]; rfl)) z2159
              have z2185 : q_is (q_z f2173 mo 36) (x1363 + 1) := Eq.trans (hF.z hmo (by rw [kmo]; rfl)) z2160
              have z2186 : q_is (q_z f2173 mo 3) x2131 := Eq.trans (hF.z hmo (by rw [kmo]; rfl)) z2161
              have z2187 : q_is (q_z f2173 cs (Int.toNat x1362)) 4 := Eq.trans (hF.z hcs (by rw [kcs]; rfl)) z2156
              have z2188 : q_ir (q_r f2173 mo 13) sr := Eq.trans (hF.r hmo (by rw [kmo]; rfl)) z2164
              have z2189 : q_ir (q_r f2173 mo 18) nm := Eq.trans (hF.r hmo (by rw [kmo]; rfl)) z2165
              have z2190 : q_ir (q_r f2173 mo 1) bu := Eq.trans (hF.r hmo (by rw [kmo]; rfl)) z2166
              have z2191 : q_ir (q_r f2173 mo 29) cs := Eq.trans (hF.r hmo (by rw [kmo]; rfl)) z2167
              have z2192 : q_ir (q_r f2173 mo 30) c1 := Eq.trans (hF.r hmo (by rw [kmo]; rfl)) z2168
              have z2193 : q_ir (q_r f2173 mo 31) c2 := Eq.trans (hF.r hmo (by rw [kmo]; rfl)) z2169
              have z2194 : q_ir (q_r f2173 mo 32) c3 := Eq.trans (hF.r hmo (by rw [kmo]; rfl)) z2170
              have g2195 : k_b1 f f2173 cs x1362 := k_b1_tr g2172 (fun i9 => hF.z hcs (by rw [kcs]; rfl))
              obtain ⟨x2196, ex2196⟩ : ∃ zz, q_is (q_z f2173 mo 4) zz := ⟨_, q_isr _⟩
              obtain ⟨lx2196, ux2196⟩ := q_isb ex2196 (q_fib hB.2.1 hmo kmo (by decide) rfl)
              obtain ⟨x2197, ex2197⟩ : ∃ zz, q_is (q_z f2173 mo 6) zz := ⟨_, q_isr _⟩
              obtain ⟨lx2197, ux2197⟩ := q_isb ex2197 (q_fib hB.2.1 hmo kmo (by decide) rfl)
              replace t2179 := q_isl9 ex2196 t2179
              replace t2180 := k_po_si ex2197 ex2196 t2180
              have hb9 : k_bl f f2173 c1 c2 x1362 := k_bl_cat g2171 t2182 (by omega)
              refine q_ald_n cx dX12_command_88 rfl (lv_at hl 2 rfl) ?_
              refine q_cVi (As := []) (rest := []) cx hB (fun _ h => h) hN hmo kmo (by decide) rfl (r_isGood0 l g hN hB.2.1 mo hmo kmo z2178) q_cX12_130 q_dX12_isGood (by decide) rfl rfl hl.1 rfl (Nat.le_of_ble_eq_true rfl) dX12_command_89 (fun y2199 H locs f2198 ry2199 h2200 hF hB => ?_)
              obtain ⟨rfl, qy2199⟩ := h2200
              subst qy2199
              refine q_ifne (tgt := 96) cx ⟨by decide, by decide⟩ dX12_command_92 (by decide) (fun c2201 => ?_) (fun c2201 => ?_)
              · refine q_ald_n cx dX12_command_96 rfl (lv_at hl 2 rfl) ?_
                refine lv_dup cx.1 cx.2.1 dX12_command_97 rfl ?_
                refine q_gX12_494 cx hB hmo kmo z2184 dX12_command_98 (fun lb2202 ub2202 => ?_)
                refine q_iconst cx dX12_command_101 ?_
                refine q_iadd cx dX12_command_102 ?_
                refine q_pX12_494 cx hB hmo kmo ⟨by omega, by omega⟩ (by omega) (by omega) rfl dX12_command_103 (fun H locs f2203 ef2203 z2204 hB => ?_)
                have z2205 : q_is (q_z f2203 mo 37) xo := by rw [ef2203, q_setz (Or.inr (by decide))]; exact z2183
                have z2206 : q_is (q_z f2203 mo 36) (x1363 + 1) := by rw [ef2203, q_setz (Or.inr (by decide))]; exact z2185
                have z2207 : q_is (q_z f2203 mo 3) x2131 := by rw [ef2203, q_setz (Or.inr (by decide))]; exact z2186
                have z2208 : q_is (q_z f2203 cs (Int.toNat x1362)) 4 := by rw [ef2203, q_setz (Or.inl (fun q => by rw [q, kmo] at kcs; exact absurd kcs (by decide)))]; exact z2187
                have z2209 : q_is (q_z f2203 mo 8) 0 := by rw [ef2203, q_setz (Or.inr (by decide))]; exact z2178
                have z2210 : q_is (q_z f2203 mo 4) x2196 := by rw [ef2203, q_setz (Or.inr (by decide))]; exact ex2196
                have z2211 : q_is (q_z f2203 mo 6) x2197 := by rw [ef2203, q_setz (Or.inr (by decide))]; exact ex2197
                have z2212 : q_ir (q_r f2203 mo 13) sr := by rw [ef2203, q_setr (Or.inr (by decide))]; exact z2188
                have z2213 : q_ir (q_r f2203 mo 18) nm := by rw [ef2203, q_setr (Or.inr (by decide))]; exact z2189
                have z2214 : q_ir (q_r f2203 mo 1) bu := by rw [ef2203, q_setr (Or.inr (by decide))]; exact z2190
                have z2215 : q_ir (q_r f2203 mo 29) cs := by rw [ef2203, q_setr (Or.inr (by decide))]; exact z2191
                have z2216 : q_ir (q_r f2203 mo 30) c1 := by rw [ef2203, q_setr (Or.inr (by decide))]; exact z2192
                have z2217 : q_ir (q_r f2203 mo 31) c2 := by rw [ef2203, q_setr (Or.inr (by decide))]; exact z2193
                have z2218 : q_ir (q_r f2203 mo 32) c3 := by rw [ef2203, q_setr (Or.inr (by decide))]; exact z2194
                have g2219 : k_b1 f f2203 cs x1362 := k_b1_tr g2195 (fun i9 => by rw [ef2203, q_setz (Or.inl (fun q => by rw [q, kmo] at kcs; exact absurd kcs (by decide)))])
                have g2220 : k_cc 4 f2203 c1 c2 (Int.toNat x1362) := k_cc_tr t2181 (fun i9 => by rw [ef2203, q_setz (Or.inl (fun q => by rw [q, kmo] at kc1; exact absurd kc1 (by decide)))]) (fun i9 => by rw [ef2203, q_setz (Or.inl (fun q => by rw [q, kmo] at kc2; exact absurd kc2 (by decide)))])
                have g2221 : k_bl f f2203 c1 c2 x1362 := k_bl_tr hb9 (fun i9 => by rw [ef2203, q_setz (Or.inl (fun q => by rw [q, kmo] at kc1; exact absurd kc1 (by decide)))]) (fun i9 => by rw [ef2203, q_setz (Or.inl (fun q => by rw [q, kmo] at kc2; exact absurd kc2 (by decide)))])
                refine q_ald_n cx dX12_command_106 rfl (lv_at hl 2 rfl) ?_
                refine lv_dup cx.1 cx.2.1 dX12_command_107 rfl ?_
                refine q_gX12_488 cx hB hmo kmo z2205 dX12_command_108 (fun lb2222 ub2222 => ?_)
                refine q_ild_n cx dX12_command_111 rfl (lv_at hl 1 rfl) ?_
                refine q_bipush cx dX12_command_112 rfl ?_
                refine q_icne (tgt := 121) cx ⟨by decide, by decide⟩ ⟨by decide, by decide⟩ dX12_command_114 (by decide) (fun c2223 => ?_) (fun c2223 => ?_)
                · refine q_iconst cx dX12_command_121 ?_
                  refine q_cSi (As := [.int (q_i 0)]) (rest := [.int (q_i xo), .ref mo]) cx hB (fun _ h => h) hN (r_truth0 l g hN hB.2.1 0 (by decide) (by decide)) q_cX12_78 q_dX12_truth (by decide) rfl rfl hl.1 rfl (Nat.le_of_ble_eq_true rfl) dX12_command_122 (fun y2225 H locs f2224 ry2225 h2226 hF hB => ?_)
                  obtain ⟨rfl, qy2225⟩ := h2226
                  subst qy2225
                  refine q_iadd cx dX12_command_125 ?_
                  refine q_pX12_488 cx hB hmo kmo ⟨by omega, by omega⟩ (by omega) (by omega) rfl dX12_command_126 (fun H locs f2227 ef2227 z2228 hB => ?_)
                  have z2229 : q_is (q_z f2227 mo 36) (x1363 + 1) := by rw [ef2227, q_setz (Or.inr (by decide))]; exact z2206
                  have z2230 : q_is (q_z f2227 mo 3) x2131 := by rw [ef2227, q_setz (Or.inr (by decide))]; exact z2207
                  have z2231 : q_is (q_z f2227 cs (Int.toNat x1362)) 4 := by rw [ef2227, q_setz (Or.inl (fun q => by rw [q, kmo] at kcs; exact absurd kcs (by decide)))]; exact z2208
                  have z2232 : q_is (q_z f2227 mo 8) 0 := by rw [ef2227, q_setz (Or.inr (by decide))]; exact z2209
                  have z2233 : q_is (q_z f2227 mo 4) x2196 := by rw [ef2227, q_setz (Or.inr (by decide))]; exact z2210
                  have z2234 : q_is (q_z f2227 mo 6) x2197 := by rw [ef2227, q_setz (Or.inr (by decide))]; exact z2211
                  have z2235 : q_is (q_z f2227 mo 35) (x1362 + 1) := by rw [ef2227, q_setz (Or.inr (by decide))]; exact z2204
                  have z2236 : q_ir (q_r f2227 mo 13) sr := by rw [ef2227, q_setr (Or.inr (by decide))]; exact z2212
                  have z2237 : q_ir (q_r f2227 mo 18) nm := by rw [ef2227, q_setr (Or.inr (by decide))]; exact z2213
                  have z2238 : q_ir (q_r f2227 mo 1) bu := by rw [ef2227, q_setr (Or.inr (by decide))]; exact z2214
                  have z2239 : q_ir (q_r f2227 mo 29) cs := by rw [ef2227, q_setr (Or.inr (by decide))]; exact z2215
                  have z2240 : q_ir (q_r f2227 mo 30) c1 := by rw [ef2227, q_setr (Or.inr (by decide))]; exact z2216
                  have z2241 : q_ir (q_r f2227 mo 31) c2 := by rw [ef2227, q_setr (Or.inr (by decide))]; exact z2217
                  have z2242 : q_ir (q_r f2227 mo 32) c3 := by rw [ef2227, q_setr (Or.inr (by decide))]; exact z2218
                  have g2243 : k_b1 f f2227 cs x1362 := k_b1_tr g2219 (fun i9 => by rw [ef2227, q_setz (Or.inl (fun q => by rw [q, kmo] at kcs; exact absurd kcs (by decide)))])
                  have g2244 : k_cc 4 f2227 c1 c2 (Int.toNat x1362) := k_cc_tr g2220 (fun i9 => by rw [ef2227, q_setz (Or.inl (fun q => by rw [q, kmo] at kc1; exact absurd kc1 (by decide)))]) (fun i9 => by rw [ef2227, q_setz (Or.inl (fun q => by rw [q, kmo] at kc2; exact absurd kc2 (by decide)))])
                  have g2245 : k_bl f f2227 c1 c2 x1362 := k_bl_tr g2221 (fun i9 => by rw [ef2227, q_setz (Or.inl (fun q => by rw [q, kmo] at kc1; exact absurd kc1 (by decide)))]) (fun i9 => by rw [ef2227, q_setz (Or.inl (fun q => by rw [q, kmo] at kc2; exact absurd kc2 (by decide)))])
                  have hsp : k_stp 4 = 0 := rfl
                  have hsc9 : q_sc f2227 mo cs c1 c2 := k_sc_add (c := 4) hsc ex1362 hf2 ex1363 z2235 z2229 (Eq.trans z2228 (by rw [hsp] <;> omega)) (by omega) z2231 g2244 g2243 g2245 (by rw [hsp] <;> omega) (by rw [hsp] <;> omega)
                  refine q_vret cx hr hlk hB dX12_command_129 ?_
                  exact (Or.inl ⟨z2232, (Eq.trans z2228 (by omega)), (q_isl z2233 (by omega)), (k_po_is z2234 z2233 (k_po_mono t2180 (by omega))), hsc9⟩)
                · exact absurd c2223 (by omega)
              · exact absurd c2201 (by omega)
            · obtain ⟨lz2246, uz2246⟩ := h2177
              have z2247 : q_is (q_z f2173 mo 37) xo := Eq.trans (hF.z hmo (by rw [kmo]; rfl)) z2158
              have z2248 : q_is (q_z f2173 mo 35) x1362 := Eq.trans (hF.z hmo (by rw [kmo]; rfl)) z2159
              have z2249 : q_is (q_z f2173 mo 36) (x1363 + 1) := Eq.trans (hF.z hmo (by rw [kmo]; rfl)) z2160
              have z2250 : q_is (q_z f2173 mo 3) x2131 := Eq.trans (hF.z hmo (by rw [kmo]; rfl)) z2161
              have z2251 : q_is (q_z f2173 cs (Int.toNat x1362)) 4 := Eq.trans (hF.z hcs (by rw [kcs]; rfl)) z2156
              have z2252 : q_ir (q_r f2173 mo 13) sr := Eq.trans (hF.r hmo (by rw [kmo]; rfl)) z2164
              have z2253 : q_ir (q_r f2173 mo 18) nm := Eq.trans (hF.r hmo (by rw [kmo]; rfl)) z2165
              have z2254 : q_ir (q_r f2173 mo 1) bu := Eq.trans (hF.r hmo (by rw [kmo]; rfl)) z2166
              have z2255 : q_ir (q_r f2173 mo 29) cs := Eq.trans (hF.r hmo (by rw [kmo]; rfl)) z2167
              have z2256 : q_ir (q_r f2173 mo 30) c1 := Eq.trans (hF.r hmo (by rw [kmo]; rfl)) z2168
              have z2257 : q_ir (q_r f2173 mo 31) c2 := Eq.trans (hF.r hmo (by rw [kmo]; rfl)) z2169
              have z2258 : q_ir (q_r f2173 mo 32) c3 := Eq.trans (hF.r hmo (by rw [kmo]; rfl)) z2170
              have g2259 : k_b1 f f2173 cs x1362 := k_b1_tr g2172 (fun i9 => hF.z hcs (by rw [kcs]; rfl))
              obtain ⟨x2260, ex2260⟩ : ∃ zz, q_is (q_z f2173 mo 8) zz := ⟨_, q_isr _⟩
              obtain ⟨lx2260, ux2260⟩ := q_isb ex2260 ⟨lz2246, uz2246⟩
              obtain ⟨x2261, ex2261⟩ : ∃ zz, q_is (q_z f2173 mo 4) zz := ⟨_, q_isr _⟩
              obtain ⟨lx2261, ux2261⟩ := q_isb ex2261 (q_fib hB.2.1 hmo kmo (by decide) rfl)
              obtain ⟨x2262, ex2262⟩ : ∃ zz, q_is (q_z f2173 mo 6) zz := ⟨_, q_isr _⟩
              obtain ⟨lx2262, ux2262⟩ := q_isb ex2262 (q_fib hB.2.1 hmo kmo (by decide) rfl)
              refine q_ald_n cx dX12_command_88 rfl (lv_at hl 2 rfl) ?_
              refine q_cVi (As := []) (rest := []) cx hB (fun _ h => h) hN hmo kmo (by decide) rfl (r_isGood1 l g hN hB.2.1 mo hmo kmo x2260 (by omega) (by omega) ex2260) q_cX12_130 q_dX12_isGood (by decide) rfl rfl hl.1 rfl (Nat.le_of_ble_eq_true rfl) dX12_command_89 (fun y2264 H locs f2263 ry2264 h2265 hF hB => ?_)
              obtain ⟨rfl, qy2264⟩ := h2265
              subst qy2264
              refine q_ifne (tgt := 96) cx ⟨by decide, by decide⟩ dX12_command_92 (by decide) (fun c2266 => ?_) (fun c2266 => ?_)
              · exact absurd c2266 (by omega)
              · refine q_vret cx hr hlk hB dX12_command_95 ?_
                exact (Or.inr (Or.inr ⟨(q_isl ex2260 (by omega)), (q_isu ex2260 (by omega))⟩))
          · exact absurd c2114 (by omega)
        · refine q_ald_n cx dX12_command_43 rfl (lv_at hl 1 rfl) ?_
          refine q_iconst cx dX12_command_44 ?_
          refine q_cVv (As := [.int (q_i 5)]) (rest := []) cx hB (fun _ h => h) hN hmo kmo (by decide) rfl (r_wrong0 l g hN hB.2.1 mo hmo kmo 5 (by decide) (by decide) hf0) q_cX12_137 q_dX12_wrong (by decide) rfl rfl hl.1 rfl (Nat.le_of_ble_eq_true rfl) dX12_command_45 (fun H locs f2267 h2269 hF hB => ?_)
          obtain ⟨lz2270, uz2270⟩ := h2269
          have z2271 : q_is (q_z f2267 mo 4) xp := Eq.trans (hF.z hmo (by rw [kmo]; rfl)) hf1
          have z2272 : q_is (q_z f2267 mo 37) xo := Eq.trans (hF.z hmo (by rw [kmo]; rfl)) hf2
          have z2273 : q_is (q_z f2267 mo 35) x1362 := Eq.trans (hF.z hmo (by rw [kmo]; rfl)) ex1362
          have z2274 : q_is (q_z f2267 mo 36) x1363 := Eq.trans (hF.z hmo (by rw [kmo]; rfl)) ex1363
          have z2275 : q_ir (q_r f2267 mo 13) sr := Eq.trans (hF.r hmo (by rw [kmo]; rfl)) hr0
          have z2276 : q_ir (q_r f2267 mo 18) nm := Eq.trans (hF.r hmo (by rw [kmo]; rfl)) hr1
          have z2277 : q_ir (q_r f2267 mo 1) bu := Eq.trans (hF.r hmo (by rw [kmo]; rfl)) hr2
          have z2278 : q_ir (q_r f2267 mo 29) cs := Eq.trans (hF.r hmo (by rw [kmo]; rfl)) hr3
          have z2279 : q_ir (q_r f2267 mo 30) c1 := Eq.trans (hF.r hmo (by rw [kmo]; rfl)) hr4
          have z2280 : q_ir (q_r f2267 mo 31) c2 := Eq.trans (hF.r hmo (by rw [kmo]; rfl)) hr5
          have z2281 : q_ir (q_r f2267 mo 32) c3 := Eq.trans (hF.r hmo (by rw [kmo]; rfl)) hr6
          have g2282 : q_sc f2267 mo cs c1 c2 := q_sc_tr hsc (hF.z hmo (by rw [kmo]; rfl)) (hF.z hmo (by rw [kmo]; rfl)) (hF.z hmo (by rw [kmo]; rfl)) (fun i9 => hF.z hcs (by rw [kcs]; rfl)) (fun i9 => hF.z hc1 (by rw [kc1]; rfl)) (fun i9 => hF.z hc2 (by rw [kc2]; rfl))
          have g2283 : k_bl f f2267 c1 c2 60 := k_bl_tr hbx (fun i9 => hF.z hc1 (by rw [kc1]; rfl)) (fun i9 => hF.z hc2 (by rw [kc2]; rfl))
          have g2284 : k_b1 f f2267 cs x1362 := k_b1_tr hbs (fun i9 => hF.z hcs (by rw [kcs]; rfl))
          obtain ⟨x2285, ex2285⟩ : ∃ zz, q_is (q_z f2267 mo 8) zz := ⟨_, q_isr _⟩
          obtain ⟨lx2285, ux2285⟩ := q_isb ex2285 ⟨lz2270, uz2270⟩
          refine q_ald_n cx dX12_command_48 rfl (lv_at hl 1 rfl) ?_
          refine q_cVi (As := []) (rest := []) cx hB (fun _ h => h) hN hmo kmo (by decide) rfl (r_isGood1 l g hN hB.2.1 mo hmo kmo x2285 (by omega) (by omega) ex2285) q_cX12_130 q_dX12_isGood (by decide) rfl rfl hl.1 rfl (Nat.le_of_ble_eq_true rfl) dX12_command_49 (fun y2287 H locs f2286 ry2287 h2288 hF hB => ?_)
          obtain ⟨rfl, qy2287⟩ := h2288
          subst qy2287
          refine q_ifne (tgt := 56) cx ⟨by decide, by decide⟩ dX12_command_52 (by decide) (fun c2289 => ?_) (fun c2289 => ?_)
          · exact absurd c2289 (by omega)
          · refine q_vret cx hr hlk hB dX12_command_55 ?_
            exact (Or.inr (Or.inr ⟨(q_isl ex2285 (by omega)), (q_isu ex2285 (by omega))⟩))
      · exact absurd c2108 (by omega)
    · exact absurd c2107 (by omega)
  · obtain ⟨rfl, qy1365⟩ := h1372
    subst qy1365
    refine lv_istore_n (lv' := [(1, .int (q_i 5)), (0, .ref mo)]) cx.1 cx.2.1 dX12_command_4 rfl hl (by decide) rfl (fun ls hl => ?_)
    refine q_ild_n cx dX12_command_5 rfl (lv_at hl 0 rfl) ?_
    refine q_iconst cx dX12_command_6 ?_
    refine q_icne (tgt := 15) cx ⟨by decide, by decide⟩ ⟨by decide, by decide⟩ dX12_command_7 (by decide) (fun c2290 => ?_) (fun c2290 => ?_)
    · refine q_ild_n cx dX12_command_15 rfl (lv_at hl 0 rfl) ?_
      refine q_bipush cx dX12_command_16 rfl ?_
      refine q_icne (tgt := 34) cx ⟨by decide, by decide⟩ ⟨by decide, by decide⟩ dX12_command_18 (by decide) (fun c2291 => ?_) (fun c2291 => ?_)
      · refine q_ald_n cx dX12_command_34 rfl (lv_at hl 1 rfl) ?_
        refine q_gX12_491 cx hB hmo kmo ex1363 dX12_command_35 (fun lb2292 ub2292 => ?_)
        refine q_bipush cx dX12_command_38 rfl ?_
        refine q_icne (tgt := 48) cx ⟨by omega, by omega⟩ ⟨by decide, by decide⟩ dX12_command_40 (by decide) (fun c2293 => ?_) (fun c2293 => ?_)
        · refine q_ald_n cx dX12_command_48 rfl (lv_at hl 1 rfl) ?_
          refine q_cVi (As := []) (rest := []) cx hB (fun _ h => h) hN hmo kmo (by decide) rfl (r_isGood0 l g hN hB.2.1 mo hmo kmo hf0) q_cX12_130 q_dX12_isGood (by decide) rfl rfl hl.1 rfl (Nat.le_of_ble_eq_true rfl) dX12_command_49 (fun y2295 H locs f2294 ry2295 h2296 hF hB => ?_)
          obtain ⟨rfl, qy2295⟩ := h2296
          subst qy2295
          refine q_ifne (tgt := 56) cx ⟨by decide, by decide⟩ dX12_command_52 (by decide) (fun c2297 => ?_) (fun c2297 => ?_)
          · refine q_ald_n cx dX12_command_56 rfl (lv_at hl 1 rfl) ?_
            refine lv_dup cx.1 cx.2.1 dX12_command_57 rfl ?_
            refine q_gX12_491 cx hB hmo kmo ex1363 dX12_command_58 (fun lb2298 ub2298 => ?_)
            refine q_iconst cx dX12_command_61 ?_
            refine q_iadd cx dX12_command_62 ?_
            refine q_pX12_491 cx hB hmo kmo ⟨by omega, by omega⟩ (by omega) (by omega) rfl dX12_command_63 (fun H locs f2299 ef2299 z2300 hB => ?_)
            have z2301 : q_is (q_z f2299 mo 8) 0 := by rw [ef2299, q_setz (Or.inr (by decide))]; exact hf0
            have z2302 : q_is (q_z f2299 mo 4) xp := by rw [ef2299, q_setz (Or.inr (by decide))]; exact hf1
            have z2303 : q_is (q_z f2299 mo 37) xo := by rw [ef2299, q_setz (Or.inr (by decide))]; exact hf2
            have z2304 : q_is (q_z f2299 mo 35) x1362 := by rw [ef2299, q_setz (Or.inr (by decide))]; exact ex1362
            have z2305 : q_ir (q_r f2299 mo 13) sr := by rw [ef2299, q_setr (Or.inr (by decide))]; exact hr0
            have z2306 : q_ir (q_r f2299 mo 18) nm := by rw [ef2299, q_setr (Or.inr (by decide))]; exact hr1
            have z2307 : q_ir (q_r f2299 mo 1) bu := by rw [ef2299, q_setr (Or.inr (by decide))]; exact hr2
            have z2308 : q_ir (q_r f2299 mo 29) cs := by rw [ef2299, q_setr (Or.inr (by decide))]; exact hr3
            have z2309 : q_ir (q_r f2299 mo 30) c1 := by rw [ef2299, q_setr (Or.inr (by decide))]; exact hr4
            have z2310 : q_ir (q_r f2299 mo 31) c2 := by rw [ef2299, q_setr (Or.inr (by decide))]; exact hr5
            have z2311 : q_ir (q_r f2299 mo 32) c3 := by rw [ef2299, q_setr (Or.inr (by decide))]; exact hr6
            have g2312 : k_bl f f2299 c1 c2 60 := k_bl_tr hbx (fun i9 => by rw [ef2299, q_setz (Or.inl (fun q => by rw [q, kmo] at kc1; exact absurd kc1 (by decide)))]) (fun i9 => by rw [ef2299, q_setz (Or.inl (fun q => by rw [q, kmo] at kc2; exact absurd kc2 (by decide)))])
            have g2313 : k_b1 f f2299 cs x1362 := k_b1_tr hbs (fun i9 => by rw [ef2299, q_setz (Or.inl (fun q => by rw [q, kmo] at kcs; exact absurd kcs (by decide)))])
            refine q_ald_n cx dX12_command_66 rfl (lv_at hl 1 rfl) ?_
            obtain ⟨x2314, ex2314⟩ : ∃ zz, q_is (q_z f2299 mo 3) zz := ⟨_, q_isr _⟩
            obtain ⟨lx2314, ux2314⟩ := q_isb ex2314 (q_fib hB.2.1 hmo kmo (by decide) rfl)
            refine q_cVv (As := []) (rest := []) cx hB (fun _ h => h) hN hmo kmo (by decide) rfl (r_goOn l g hN hB.2.1 mo hmo kmo bu hbu kbu xp (by omega) (by omega) x2314 (by omega) (by omega) z2302 ex2314 z2307) q_cX12_140 q_dX12_goOn (by decide) rfl rfl hl.1 rfl (Nat.le_of_ble_eq_true rfl) dX12_command_67 (fun H locs f2315 h2317 hF hB => ?_)
            obtain ⟨t2318, t2319⟩ := h2317
            have z2320 : q_is (q_z f2315 mo 8) 0 := Eq.trans (hF.z hmo (by rw [kmo]; rfl)) z2301
            have z2321 : q_is (q_z f2315 mo 37) xo := Eq.trans (hF.z hmo (by rw [kmo]; rfl)) z2303
            have z2322 : q_is (q_z f2315 mo 35) x1362 := Eq.trans (hF.z hmo (by rw [kmo]; rfl)) z2304
            have z2323 : q_is (q_z f2315 mo 36) (x1363 + 1) := Eq.trans (hF.z hmo (by rw [kmo]; rfl)) z2300
            have z2324 : q_is (q_z f2315 mo 3) x2314 := Eq.trans (hF.z hmo (by rw [kmo]; rfl)) ex2314
            have z2325 : q_ir (q_r f2315 mo 13) sr := Eq.trans (hF.r hmo (by rw [kmo]; rfl)) z2305
            have z2326 : q_ir (q_r f2315 mo 18) nm := Eq.trans (hF.r hmo (by rw [kmo]; rfl)) z2306
            have z2327 : q_ir (q_r f2315 mo 1) bu := Eq.trans (hF.r hmo (by rw [kmo]; rfl)) z2307
            have z2328 : q_ir (q_r f2315 mo 29) cs := Eq.trans (hF.r hmo (by rw [kmo]; rfl)) z2308
            have z2329 : q_ir (q_r f2315 mo 30) c1 := Eq.trans (hF.r hmo (by rw [kmo]; rfl)) z2309
            have z2330 : q_ir (q_r f2315 mo 31) c2 := Eq.trans (hF.r hmo (by rw [kmo]; rfl)) z2310
            have z2331 : q_ir (q_r f2315 mo 32) c3 := Eq.trans (hF.r hmo (by rw [kmo]; rfl)) z2311
            have g2332 : k_bl f f2315 c1 c2 60 := k_bl_tr g2312 (fun i9 => hF.z hc1 (by rw [kc1]; rfl)) (fun i9 => hF.z hc2 (by rw [kc2]; rfl))
            have g2333 : k_b1 f f2315 cs x1362 := k_b1_tr g2313 (fun i9 => hF.z hcs (by rw [kcs]; rfl))
            obtain ⟨x2334, ex2334⟩ : ∃ zz, q_is (q_z f2315 mo 4) zz := ⟨_, q_isr _⟩
            obtain ⟨lx2334, ux2334⟩ := q_isb ex2334 (q_fib hB.2.1 hmo kmo (by decide) rfl)
            obtain ⟨x2335, ex2335⟩ : ∃ zz, q_is (q_z f2315 mo 6) zz := ⟨_, q_isr _⟩
            obtain ⟨lx2335, ux2335⟩ := q_isb ex2335 (q_fib hB.2.1 hmo kmo (by decide) rfl)
            replace t2318 := q_isl9 ex2334 t2318
            replace t2319 := k_po_si ex2335 ex2334 t2319
            refine q_ald_n cx dX12_command_70 rfl (lv_at hl 1 rfl) ?_
            refine q_gX12_494 cx hB hmo kmo z2322 dX12_command_71 (fun lb2336 ub2336 => ?_)
            refine lv_istore_n (lv' := [(2, .int (q_i x1362)), (1, .int (q_i 5)), (0, .ref mo)]) cx.1 cx.2.1 dX12_command_74 rfl hl (by decide) rfl (fun ls hl => ?_)
            refine q_ald_n cx dX12_command_75 rfl (lv_at hl 2 rfl) ?_
            refine q_gX12_51 cx hB hmo kmo z2328 dX12_command_76 (fun hb2337 kb2337 => ?_)
            refine q_ild_n cx dX12_command_79 rfl (lv_at hl 0 rfl) ?_
            refine q_ild_n cx dX12_command_80 rfl (lv_at hl 1 rfl) ?_
            refine q_iast (lo := 0) (hi := 7) (n := 60) cx hB hcs kcs (by decide) rfl rfl (by omega) (by omega) (by decide) rfl ⟨by decide, by decide⟩ (by decide) (by decide) (q_inWi (lo := 0) (hi := 58) (by decide) (by omega) (by omega)) dX12_command_81 (fun H locs f2338 ef2338 z2339 hB => ?_)
            have z2340 : q_is (q_z f2338 mo 8) 0 := by rw [ef2338, q_setz (Or.inl (fun q => by rw [q, kcs] at kmo; exact absurd kmo (by decide)))]; exact z2320
            have z2341 : q_is (q_z f2338 mo 37) xo := by rw [ef2338, q_setz (Or.inl (fun q => by rw [q, kcs] at kmo; exact absurd kmo (by decide)))]; exact z2321
            have z2342 : q_is (q_z f2338 mo 35) x1362 := by rw [ef2338, q_setz (Or.inl (fun q => by rw [q, kcs] at kmo; exact absurd kmo (by decide)))]; exact z2322
            have z2343 : q_is (q_z f2338 mo 36) (x1363 + 1) := by rw [ef2338, q_setz (Or.inl (fun q => by rw [q, kcs] at kmo; exact absurd kmo (by decide)))]; exact z2323
            have z2344 : q_is (q_z f2338 mo 3) x2314 := by rw [ef2338, q_setz (Or.inl (fun q => by rw [q, kcs] at kmo; exact absurd kmo (by decide)))]; exact z2324
            have z2345 : q_is (q_z f2338 mo 4) x2334 := by rw [ef2338, q_setz (Or.inl (fun q => by rw [q, kcs] at kmo; exact absurd kmo (by decide)))]; exact ex2334
            have z2346 : q_is (q_z f2338 mo 6) x2335 := by rw [ef2338, q_setz (Or.inl (fun q => by rw [q, kcs] at kmo; exact absurd kmo (by decide)))]; exact ex2335
            have z2347 : q_ir (q_r f2338 mo 13) sr := by rw [ef2338, q_setr (Or.inl (fun q => by rw [q, kcs] at kmo; exact absurd kmo (by decide)))]; exact z2325
            have z2348 : q_ir (q_r f2338 mo 18) nm := by rw [ef2338, q_setr (Or.inl (fun q => by rw [q, kcs] at kmo; exact absurd kmo (by decide)))]; exact z2326
            have z2349 : q_ir (q_r f2338 mo 1) bu := by rw [ef2338, q_setr (Or.inl (fun q => by rw [q, kcs] at kmo; exact absurd kmo (by decide)))]; exact z2327
            have z2350 : q_ir (q_r f2338 mo 29) cs := by rw [ef2338, q_setr (Or.inl (fun q => by rw [q, kcs] at kmo; exact absurd kmo (by decide)))]; exact z2328
            have z2351 : q_ir (q_r f2338 mo 30) c1 := by rw [ef2338, q_setr (Or.inl (fun q => by rw [q, kcs] at kmo; exact absurd kmo (by decide)))]; exact z2329
            have z2352 : q_ir (q_r f2338 mo 31) c2 := by rw [ef2338, q_setr (Or.inl (fun q => by rw [q, kcs] at kmo; exact absurd kmo (by decide)))]; exact z2330
            have z2353 : q_ir (q_r f2338 mo 32) c3 := by rw [ef2338, q_setr (Or.inl (fun q => by rw [q, kcs] at kmo; exact absurd kmo (by decide)))]; exact z2331
            have g2354 : k_bl f f2338 c1 c2 60 := k_bl_tr g2332 (fun i9 => by rw [ef2338, q_setz (Or.inl (fun q => by rw [q, kcs] at kc1; exact absurd kc1 (by decide)))]) (fun i9 => by rw [ef2338, q_setz (Or.inl (fun q => by rw [q, kcs] at kc2; exact absurd kc2 (by decide)))])
            have g2355 : k_b1 f f2338 cs x1362 := k_b1_s g2333 ef2338 (by omega)
            refine q_ald_n cx dX12_command_82 rfl (lv_at hl 2 rfl) ?_
            refine q_ild_n cx dX12_command_83 rfl (lv_at hl 0 rfl) ?_
            refine q_ild_n cx dX12_command_84 rfl (lv_at hl 1 rfl) ?_
            refine q_cVv (As := [.int (q_i x1362), .int (q_i 5)]) (rest := []) cx hB (fun _ h => h) hN hmo kmo (by decide) rfl (r_readsNumbers5 l g hN hB.2.1 mo hmo kmo x1362 (by omega) (by omega) 5 (by decide) (by decide) sr hsr ksr nm hnm knm bu hbu kbu c1 hc1 kc1 c2 hc2 kc2 c3 hc3 kc3 x2334 (by omega) (by omega) z2340 z2345 z2347 z2348 z2349 z2351 z2352 z2353) q_cX12_497 q_dX12_readsNumbers (by decide) rfl rfl hl.1 rfl (Nat.le_of_ble_eq_true rfl) dX12_command_85 (fun H locs f2356 h2358 hF hB => ?_)
            rcases h2358 with h2359 | h2360
            · obtain ⟨z2361, t2362, t2363, t2364, t2365⟩ := h2359
              have z2366 : q_is (q_z f2356 mo 37) xo := Eq.trans (hF.z hmo (by rw [kmo]; rfl)) z2341
              have z2367 : q_is (q_z f2356 mo 35) x1362 := Eq.trans (hF.z hmo (by rw [kmo]; rfl)) z2342
              have z2368 : q_is (q_z f2356 mo 36) (x1363 + 1) := Eq.trans (hF.z hmo (by rw [kmo]; rfl)) z2343
              have z2369 : q_is (q_z f2356 mo 3) x2314 := Eq.trans (hF.z hmo (by rw [kmo]; rfl)) z2344
              have z2370 : q_is (q_z f2356 cs (Int.toNat x1362)) 5 := Eq.trans (hF.z hcs (by rw [kcs]; rfl)) z2339
              have z2371 : q_ir (q_r f2356 mo 13) sr := Eq.trans (hF.r hmo (by rw [kmo]; rfl)) z2347
              have z2372 : q_ir (q_r f2356 mo 18) nm := Eq.trans (hF.r hmo (by rw [kmo]; rfl)) z2348
              have z2373 : q_ir (q_r f2356 mo 1) bu := Eq.trans (hF.r hmo (by rw [kmo]; rfl)) z2349
              have z2374 : q_ir (q_r f2356 mo 29) cs := Eq.trans (hF.r hmo (by rw [kmo]; rfl)) z2350
              have z2375 : q_ir (q_r f2356 mo 30) c1 := Eq.trans (hF.r hmo (by rw [kmo]; rfl)) z2351
              have z2376 : q_ir (q_r f2356 mo 31) c2 := Eq.trans (hF.r hmo (by rw [kmo]; rfl)) z2352
              have z2377 : q_ir (q_r f2356 mo 32) c3 := Eq.trans (hF.r hmo (by rw [kmo]; rfl)) z2353
              have g2378 : k_b1 f f2356 cs x1362 := k_b1_tr g2355 (fun i9 => hF.z hcs (by rw [kcs]; rfl))
              obtain ⟨x2379, ex2379⟩ : ∃ zz, q_is (q_z f2356 mo 4) zz := ⟨_, q_isr _⟩
              obtain ⟨lx2379, ux2379⟩ := q_isb ex2379 (q_fib hB.2.1 hmo kmo (by decide) rfl)
              obtain ⟨x2380, ex2380⟩ : ∃ zz, q_is (q_z f2356 mo 6) zz := ⟨_, q_isr _⟩
              obtain ⟨lx2380, ux2380⟩ := q_isb ex2380 (q_fib hB.2.1 hmo kmo (by decide) rfl)
              replace t2362 := q_isl9 ex2379 t2362
              replace t2363 := k_po_si ex2380 ex2379 t2363
              have hb9 : k_bl f f2356 c1 c2 x1362 := k_bl_cat g2354 t2365 (by omega)
              refine q_ald_n cx dX12_command_88 rfl (lv_at hl 2 rfl) ?_
              refine q_cVi (As := []) (rest := []) cx hB (fun _ h => h) hN hmo kmo (by decide) rfl (r_isGood0 l g hN hB.2.1 mo hmo kmo z2361) q_cX12_130 q_dX12_isGood (by decide) rfl rfl hl.1 rfl (Nat.le_of_ble_eq_true rfl) dX12_command_89 (fun y2382 H locs f2381 ry2382 h2383 hF hB => ?_)
              obtain ⟨rfl, qy2382⟩ := h2383
              subst qy2382
              refine q_ifne (tgt := 96) cx ⟨by decide, by decide⟩ dX12_command_92 (by decide) (fun c2384 => ?_) (fun c2384 => ?_)
              · refine q_ald_n cx dX12_command_96 rfl (lv_at hl 2 rfl) ?_
                refine lv_dup cx.1 cx.2.1 dX12_command_97 rfl ?_
                refine q_gX12_494 cx hB hmo kmo z2367 dX12_command_98 (fun lb2385 ub2385 => ?_)
                refine q_iconst cx dX12_command_101 ?_
                refine q_iadd cx dX12_command_102 ?_
                refine q_pX12_494 cx hB hmo kmo ⟨by omega, by omega⟩ (by omega) (by omega) rfl dX12_command_103 (fun H locs f2386 ef2386 z2387 hB => ?_)
                have z2388 : q_is (q_z f2386 mo 37) xo := by rw [ef2386, q_setz (Or.inr (by decide))]; exact z2366
                have z2389 : q_is (q_z f2386 mo 36) (x1363 + 1) := by rw [ef2386, q_setz (Or.inr (by decide))]; exact z2368
                have z2390 : q_is (q_z f2386 mo 3) x2314 := by rw [ef2386, q_setz (Or.inr (by decide))]; exact z2369
                have z2391 : q_is (q_z f2386 cs (Int.toNat x1362)) 5 := by rw [ef2386, q_setz (Or.inl (fun q => by rw [q, kmo] at kcs; exact absurd kcs (by decide)))]; exact z2370
                have z2392 : q_is (q_z f2386 mo 8) 0 := by rw [ef2386, q_setz (Or.inr (by decide))]; exact z2361
                have z2393 : q_is (q_z f2386 mo 4) x2379 := by rw [ef2386, q_setz (Or.inr (by decide))]; exact ex2379
                have z2394 : q_is (q_z f2386 mo 6) x2380 := by rw [ef2386, q_setz (Or.inr (by decide))]; exact ex2380
                have z2395 : q_ir (q_r f2386 mo 13) sr := by rw [ef2386, q_setr (Or.inr (by decide))]; exact z2371
                have z2396 : q_ir (q_r f2386 mo 18) nm := by rw [ef2386, q_setr (Or.inr (by decide))]; exact z2372
                have z2397 : q_ir (q_r f2386 mo 1) bu := by rw [ef2386, q_setr (Or.inr (by decide))]; exact z2373
                have z2398 : q_ir (q_r f2386 mo 29) cs := by rw [ef2386, q_setr (Or.inr (by decide))]; exact z2374
                have z2399 : q_ir (q_r f2386 mo 30) c1 := by rw [ef2386, q_setr (Or.inr (by decide))]; exact z2375
                have z2400 : q_ir (q_r f2386 mo 31) c2 := by rw [ef2386, q_setr (Or.inr (by decide))]; exact z2376
                have z2401 : q_ir (q_r f2386 mo 32) c3 := by rw [ef2386, q_setr (Or.inr (by decide))]; exact z2377
                have g2402 : k_b1 f f2386 cs x1362 := k_b1_tr g2378 (fun i9 => by rw [ef2386, q_setz (Or.inl (fun q => by rw [q, kmo] at kcs; exact absurd kcs (by decide)))])
                have g2403 : k_cc 5 f2386 c1 c2 (Int.toNat x1362) := k_cc_tr t2364 (fun i9 => by rw [ef2386, q_setz (Or.inl (fun q => by rw [q, kmo] at kc1; exact absurd kc1 (by decide)))]) (fun i9 => by rw [ef2386, q_setz (Or.inl (fun q => by rw [q, kmo] at kc2; exact absurd kc2 (by decide)))])
                have g2404 : k_bl f f2386 c1 c2 x1362 := k_bl_tr hb9 (fun i9 => by rw [ef2386, q_setz (Or.inl (fun q => by rw [q, kmo] at kc1; exact absurd kc1 (by decide)))]) (fun i9 => by rw [ef2386, q_setz (Or.inl (fun q => by rw [q, kmo] at kc2; exact absurd kc2 (by decide)))])
                refine q_ald_n cx dX12_command_106 rfl (lv_at hl 2 rfl) ?_
                refine lv_dup cx.1 cx.2.1 dX12_command_107 rfl ?_
                refine q_gX12_488 cx hB hmo kmo z2388 dX12_command_108 (fun lb2405 ub2405 => ?_)
                refine q_ild_n cx dX12_command_111 rfl (lv_at hl 1 rfl) ?_
                refine q_bipush cx dX12_command_112 rfl ?_
                refine q_icne (tgt := 121) cx ⟨by decide, by decide⟩ ⟨by decide, by decide⟩ dX12_command_114 (by decide) (fun c2406 => ?_) (fun c2406 => ?_)
                · refine q_iconst cx dX12_command_121 ?_
                  refine q_cSi (As := [.int (q_i 0)]) (rest := [.int (q_i xo), .ref mo]) cx hB (fun _ h => h) hN (r_truth0 l g hN hB.2.1 0 (by decide) (by decide)) q_cX12_78 q_dX12_truth (by decide) rfl rfl hl.1 rfl (Nat.le_of_ble_eq_true rfl) dX12_command_122 (fun y2408 H locs f2407 ry2408 h2409 hF hB => ?_)
                  obtain ⟨rfl, qy2408⟩ := h2409
                  subst qy2408
                  refine q_iadd cx dX12_command_125 ?_
                  refine q_pX12_488 cx hB hmo kmo ⟨by omega, by omega⟩ (by omega) (by omega) rfl dX12_command_126 (fun H locs f2410 ef2410 z2411 hB => ?_)
                  have z2412 : q_is (q_z f2410 mo 36) (x1363 + 1) := by rw [ef2410, q_setz (Or.inr (by decide))]; exact z2389
                  have z2413 : q_is (q_z f2410 mo 3) x2314 := by rw [ef2410, q_setz (Or.inr (by decide))]; exact z2390
                  have z2414 : q_is (q_z f2410 cs (Int.toNat x1362)) 5 := by rw [ef2410, q_setz (Or.inl (fun q => by rw [q, kmo] at kcs; exact absurd kcs (by decide)))]; exact z2391
                  have z2415 : q_is (q_z f2410 mo 8) 0 := by rw [ef2410, q_setz (Or.inr (by decide))]; exact z2392
                  have z2416 : q_is (q_z f2410 mo 4) x2379 := by rw [ef2410, q_setz (Or.inr (by decide))]; exact z2393
                  have z2417 : q_is (q_z f2410 mo 6) x2380 := by rw [ef2410, q_setz (Or.inr (by decide))]; exact z2394
                  have z2418 : q_is (q_z f2410 mo 35) (x1362 + 1) := by rw [ef2410, q_setz (Or.inr (by decide))]; exact z2387
                  have z2419 : q_ir (q_r f2410 mo 13) sr := by rw [ef2410, q_setr (Or.inr (by decide))]; exact z2395
                  have z2420 : q_ir (q_r f2410 mo 18) nm := by rw [ef2410, q_setr (Or.inr (by decide))]; exact z2396
                  have z2421 : q_ir (q_r f2410 mo 1) bu := by rw [ef2410, q_setr (Or.inr (by decide))]; exact z2397
                  have z2422 : q_ir (q_r f2410 mo 29) cs := by rw [ef2410, q_setr (Or.inr (by decide))]; exact z2398
                  have z2423 : q_ir (q_r f2410 mo 30) c1 := by rw [ef2410, q_setr (Or.inr (by decide))]; exact z2399
                  have z2424 : q_ir (q_r f2410 mo 31) c2 := by rw [ef2410, q_setr (Or.inr (by decide))]; exact z2400
                  have z2425 : q_ir (q_r f2410 mo 32) c3 := by rw [ef2410, q_setr (Or.inr (by decide))]; exact z2401
                  have g2426 : k_b1 f f2410 cs x1362 := k_b1_tr g2402 (fun i9 => by rw [ef2410, q_setz (Or.inl (fun q => by rw [q, kmo] at kcs; exact absurd kcs (by decide)))])
                  have g2427 : k_cc 5 f2410 c1 c2 (Int.toNat x1362) := k_cc_tr g2403 (fun i9 => by rw [ef2410, q_setz (Or.inl (fun q => by rw [q, kmo] at kc1; exact absurd kc1 (by decide)))]) (fun i9 => by rw [ef2410, q_setz (Or.inl (fun q => by rw [q, kmo] at kc2; exact absurd kc2 (by decide)))])
                  have g2428 : k_bl f f2410 c1 c2 x1362 := k_bl_tr g2404 (fun i9 => by rw [ef2410, q_setz (Or.inl (fun q => by rw [q, kmo] at kc1; exact absurd kc1 (by decide)))]) (fun i9 => by rw [ef2410, q_setz (Or.inl (fun q => by rw [q, kmo] at kc2; exact absurd kc2 (by decide)))])
                  have hsp : k_stp 5 = 0 := rfl
                  have hsc9 : q_sc f2410 mo cs c1 c2 := k_sc_add (c := 5) hsc ex1362 hf2 ex1363 z2418 z2412 (Eq.trans z2411 (by rw [hsp] <;> omega)) (by omega) z2414 g2427 g2426 g2428 (by rw [hsp] <;> omega) (by rw [hsp] <;> omega)
                  refine q_vret cx hr hlk hB dX12_command_129 ?_
                  exact (Or.inl ⟨z2415, (Eq.trans z2411 (by omega)), (q_isl z2416 (by omega)), (k_po_is z2417 z2416 (k_po_mono t2363 (by omega))), hsc9⟩)
                · exact absurd c2406 (by omega)
              · exact absurd c2384 (by omega)
            · obtain ⟨lz2429, uz2429⟩ := h2360
              have z2430 : q_is (q_z f2356 mo 37) xo := Eq.trans (hF.z hmo (by rw [kmo]; rfl)) z2341
              have z2431 : q_is (q_z f2356 mo 35) x1362 := Eq.trans (hF.z hmo (by rw [kmo]; rfl)) z2342
              have z2432 : q_is (q_z f2356 mo 36) (x1363 + 1) := Eq.trans (hF.z hmo (by rw [kmo]; rfl)) z2343
              have z2433 : q_is (q_z f2356 mo 3) x2314 := Eq.trans (hF.z hmo (by rw [kmo]; rfl)) z2344
              have z2434 : q_is (q_z f2356 cs (Int.toNat x1362)) 5 := Eq.trans (hF.z hcs (by rw [kcs]; rfl)) z2339
              have z2435 : q_ir (q_r f2356 mo 13) sr := Eq.trans (hF.r hmo (by rw [kmo]; rfl)) z2347
              have z2436 : q_ir (q_r f2356 mo 18) nm := Eq.trans (hF.r hmo (by rw [kmo]; rfl)) z2348
              have z2437 : q_ir (q_r f2356 mo 1) bu := Eq.trans (hF.r hmo (by rw [kmo]; rfl)) z2349
              have z2438 : q_ir (q_r f2356 mo 29) cs := Eq.trans (hF.r hmo (by rw [kmo]; rfl)) z2350
              have z2439 : q_ir (q_r f2356 mo 30) c1 := Eq.trans (hF.r hmo (by rw [kmo]; rfl)) z2351
              have z2440 : q_ir (q_r f2356 mo 31) c2 := Eq.trans (hF.r hmo (by rw [kmo]; rfl)) z2352
              have z2441 : q_ir (q_r f2356 mo 32) c3 := Eq.trans (hF.r hmo (by rw [kmo]; rfl)) z2353
              have g2442 : k_b1 f f2356 cs x1362 := k_b1_tr g2355 (fun i9 => hF.z hcs (by rw [kcs]; rfl))
              obtain ⟨x2443, ex2443⟩ : ∃ zz, q_is (q_z f2356 mo 8) zz := ⟨_, q_isr _⟩
              obtain ⟨lx2443, ux2443⟩ := q_isb ex2443 ⟨lz2429, uz2429⟩
              obtain ⟨x2444, ex2444⟩ : ∃ zz, q_is (q_z f2356 mo 4) zz := ⟨_, q_isr _⟩
              obtain ⟨lx2444, ux2444⟩ := q_isb ex2444 (q_fib hB.2.1 hmo kmo (by decide) rfl)
              obtain ⟨x2445, ex2445⟩ : ∃ zz, q_is (q_z f2356 mo 6) zz := ⟨_, q_isr _⟩
              obtain ⟨lx2445, ux2445⟩ := q_isb ex2445 (q_fib hB.2.1 hmo kmo (by decide) rfl)
              refine q_ald_n cx dX12_command_88 rfl (lv_at hl 2 rfl) ?_
              refine q_cVi (As := []) (rest := []) cx hB (fun _ h => h) hN hmo kmo (by decide) rfl (r_isGood1 l g hN hB.2.1 mo hmo kmo x2443 (by omega) (by omega) ex2443) q_cX12_130 q_dX12_isGood (by decide) rfl rfl hl.1 rfl (Nat.le_of_ble_eq_true rfl) dX12_command_89 (fun y2447 H locs f2446 ry2447 h2448 hF hB => ?_)
              obtain ⟨rfl, qy2447⟩ := h2448
              subst qy2447
              refine q_ifne (tgt := 96) cx ⟨by decide, by decide⟩ dX12_command_92 (by decide) (fun c2449 => ?_) (fun c2449 => ?_)
              · exact absurd c2449 (by omega)
              · refine q_vret cx hr hlk hB dX12_command_95 ?_
                exact (Or.inr (Or.inr ⟨(q_isl ex2443 (by omega)), (q_isu ex2443 (by omega))⟩))
          · exact absurd c2297 (by omega)
        · refine q_ald_n cx dX12_command_43 rfl (lv_at hl 1 rfl) ?_
          refine q_iconst cx dX12_command_44 ?_
          refine q_cVv (As := [.int (q_i 5)]) (rest := []) cx hB (fun _ h => h) hN hmo kmo (by decide) rfl (r_wrong0 l g hN hB.2.1 mo hmo kmo 5 (by decide) (by decide) hf0) q_cX12_137 q_dX12_wrong (by decide) rfl rfl hl.1 rfl (Nat.le_of_ble_eq_true rfl) dX12_command_45 (fun H locs f2450 h2452 hF hB => ?_)
          obtain ⟨lz2453, uz2453⟩ := h2452
          have z2454 : q_is (q_z f2450 mo 4) xp := Eq.trans (hF.z hmo (by rw [kmo]; rfl)) hf1
          have z2455 : q_is (q_z f2450 mo 37) xo := Eq.trans (hF.z hmo (by rw [kmo]; rfl)) hf2
          have z2456 : q_is (q_z f2450 mo 35) x1362 := Eq.trans (hF.z hmo (by rw [kmo]; rfl)) ex1362
          have z2457 : q_is (q_z f2450 mo 36) x1363 := Eq.trans (hF.z hmo (by rw [kmo]; rfl)) ex1363
          have z2458 : q_ir (q_r f2450 mo 13) sr := Eq.trans (hF.r hmo (by rw [kmo]; rfl)) hr0
          have z2459 : q_ir (q_r f2450 mo 18) nm := Eq.trans (hF.r hmo (by rw [kmo]; rfl)) hr1
          have z2460 : q_ir (q_r f2450 mo 1) bu := Eq.trans (hF.r hmo (by rw [kmo]; rfl)) hr2
          have z2461 : q_ir (q_r f2450 mo 29) cs := Eq.trans (hF.r hmo (by rw [kmo]; rfl)) hr3
          have z2462 : q_ir (q_r f2450 mo 30) c1 := Eq.trans (hF.r hmo (by rw [kmo]; rfl)) hr4
          have z2463 : q_ir (q_r f2450 mo 31) c2 := Eq.trans (hF.r hmo (by rw [kmo]; rfl)) hr5
          have z2464 : q_ir (q_r f2450 mo 32) c3 := Eq.trans (hF.r hmo (by rw [kmo]; rfl)) hr6
          have g2465 : q_sc f2450 mo cs c1 c2 := q_sc_tr hsc (hF.z hmo (by rw [kmo]; rfl)) (hF.z hmo (by rw [kmo]; rfl)) (hF.z hmo (by rw [kmo]; rfl)) (fun i9 => hF.z hcs (by rw [kcs]; rfl)) (fun i9 => hF.z hc1 (by rw [kc1]; rfl)) (fun i9 => hF.z hc2 (by rw [kc2]; rfl))
          have g2466 : k_bl f f2450 c1 c2 60 := k_bl_tr hbx (fun i9 => hF.z hc1 (by rw [kc1]; rfl)) (fun i9 => hF.z hc2 (by rw [kc2]; rfl))
          have g2467 : k_b1 f f2450 cs x1362 := k_b1_tr hbs (fun i9 => hF.z hcs (by rw [kcs]; rfl))
          obtain ⟨x2468, ex2468⟩ : ∃ zz, q_is (q_z f2450 mo 8) zz := ⟨_, q_isr _⟩
          obtain ⟨lx2468, ux2468⟩ := q_isb ex2468 ⟨lz2453, uz2453⟩
          refine q_ald_n cx dX12_command_48 rfl (lv_at hl 1 rfl) ?_
          refine q_cVi (As := []) (rest := []) cx hB (fun _ h => h) hN hmo kmo (by decide) rfl (r_isGood1 l g hN hB.2.1 mo hmo kmo x2468 (by omega) (by omega) ex2468) q_cX12_130 q_dX12_isGood (by decide) rfl rfl hl.1 rfl (Nat.le_of_ble_eq_true rfl) dX12_command_49 (fun y2470 H locs f2469 ry2470 h2471 hF hB => ?_)
          obtain ⟨rfl, qy2470⟩ := h2471
          subst qy2470
          refine q_ifne (tgt := 56) cx ⟨by decide, by decide⟩ dX12_command_52 (by decide) (fun c2472 => ?_) (fun c2472 => ?_)
          · exact absurd c2472 (by omega)
          · refine q_vret cx hr hlk hB dX12_command_55 ?_
            exact (Or.inr (Or.inr ⟨(q_isl ex2468 (by omega)), (q_isu ex2468 (by omega))⟩))
      · exact absurd c2291 (by omega)
    · exact absurd c2290 (by omega)
  · obtain ⟨rfl, qy1365⟩ := h1373
    subst qy1365
    refine lv_istore_n (lv' := [(1, .int (q_i 6)), (0, .ref mo)]) cx.1 cx.2.1 dX12_command_4 rfl hl (by decide) rfl (fun ls hl => ?_)
    refine q_ild_n cx dX12_command_5 rfl (lv_at hl 0 rfl) ?_
    refine q_iconst cx dX12_command_6 ?_
    refine q_icne (tgt := 15) cx ⟨by decide, by decide⟩ ⟨by decide, by decide⟩ dX12_command_7 (by decide) (fun c2473 => ?_) (fun c2473 => ?_)
    · refine q_ild_n cx dX12_command_15 rfl (lv_at hl 0 rfl) ?_
      refine q_bipush cx dX12_command_16 rfl ?_
      refine q_icne (tgt := 34) cx ⟨by decide, by decide⟩ ⟨by decide, by decide⟩ dX12_command_18 (by decide) (fun c2474 => ?_) (fun c2474 => ?_)
      · exact absurd c2474 (by omega)
      · refine q_ald_n cx dX12_command_21 rfl (lv_at hl 1 rfl) ?_
        refine q_gX12_488 cx hB hmo kmo hf2 dX12_command_22 (fun lb2475 ub2475 => ?_)
        refine q_iconst cx dX12_command_25 ?_
        refine q_icne (tgt := 34) cx ⟨by omega, by omega⟩ ⟨by decide, by decide⟩ dX12_command_26 (by decide) (fun c2476 => ?_) (fun c2476 => ?_)
        · refine q_ald_n cx dX12_command_34 rfl (lv_at hl 1 rfl) ?_
          refine q_gX12_491 cx hB hmo kmo ex1363 dX12_command_35 (fun lb2477 ub2477 => ?_)
          refine q_bipush cx dX12_command_38 rfl ?_
          refine q_icne (tgt := 48) cx ⟨by omega, by omega⟩ ⟨by decide, by decide⟩ dX12_command_40 (by decide) (fun c2478 => ?_) (fun c2478 => ?_)
          · refine q_ald_n cx dX12_command_48 rfl (lv_at hl 1 rfl) ?_
            refine q_cVi (As := []) (rest := []) cx hB (fun _ h => h) hN hmo kmo (by decide) rfl (r_isGood0 l g hN hB.2.1 mo hmo kmo hf0) q_cX12_130 q_dX12_isGood (by decide) rfl rfl hl.1 rfl (Nat.le_of_ble_eq_true rfl) dX12_command_49 (fun y2480 H locs f2479 ry2480 h2481 hF hB => ?_)
            obtain ⟨rfl, qy2480⟩ := h2481
            subst qy2480
            refine q_ifne (tgt := 56) cx ⟨by decide, by decide⟩ dX12_command_52 (by decide) (fun c2482 => ?_) (fun c2482 => ?_)
            · refine q_ald_n cx dX12_command_56 rfl (lv_at hl 1 rfl) ?_
              refine lv_dup cx.1 cx.2.1 dX12_command_57 rfl ?_
              refine q_gX12_491 cx hB hmo kmo ex1363 dX12_command_58 (fun lb2483 ub2483 => ?_)
              refine q_iconst cx dX12_command_61 ?_
              refine q_iadd cx dX12_command_62 ?_
              refine q_pX12_491 cx hB hmo kmo ⟨by omega, by omega⟩ (by omega) (by omega) rfl dX12_command_63 (fun H locs f2484 ef2484 z2485 hB => ?_)
              have z2486 : q_is (q_z f2484 mo 8) 0 := by rw [ef2484, q_setz (Or.inr (by decide))]; exact hf0
              have z2487 : q_is (q_z f2484 mo 4) xp := by rw [ef2484, q_setz (Or.inr (by decide))]; exact hf1
              have z2488 : q_is (q_z f2484 mo 37) xo := by rw [ef2484, q_setz (Or.inr (by decide))]; exact hf2
              have z2489 : q_is (q_z f2484 mo 35) x1362 := by rw [ef2484, q_setz (Or.inr (by decide))]; exact ex1362
              have z2490 : q_ir (q_r f2484 mo 13) sr := by rw [ef2484, q_setr (Or.inr (by decide))]; exact hr0
              have z2491 : q_ir (q_r f2484 mo 18) nm := by rw [ef2484, q_setr (Or.inr (by decide))]; exact hr1
              have z2492 : q_ir (q_r f2484 mo 1) bu := by rw [ef2484, q_setr (Or.inr (by decide))]; exact hr2
              have z2493 : q_ir (q_r f2484 mo 29) cs := by rw [ef2484, q_setr (Or.inr (by decide))]; exact hr3
              have z2494 : q_ir (q_r f2484 mo 30) c1 := by rw [ef2484, q_setr (Or.inr (by decide))]; exact hr4
              have z2495 : q_ir (q_r f2484 mo 31) c2 := by rw [ef2484, q_setr (Or.inr (by decide))]; exact hr5
              have z2496 : q_ir (q_r f2484 mo 32) c3 := by rw [ef2484, q_setr (Or.inr (by decide))]; exact hr6
              have g2497 : k_bl f f2484 c1 c2 60 := k_bl_tr hbx (fun i9 => by rw [ef2484, q_setz (Or.inl (fun q => by rw [q, kmo] at kc1; exact absurd kc1 (by decide)))]) (fun i9 => by rw [ef2484, q_setz (Or.inl (fun q => by rw [q, kmo] at kc2; exact absurd kc2 (by decide)))])
              have g2498 : k_b1 f f2484 cs x1362 := k_b1_tr hbs (fun i9 => by rw [ef2484, q_setz (Or.inl (fun q => by rw [q, kmo] at kcs; exact absurd kcs (by decide)))])
              refine q_ald_n cx dX12_command_66 rfl (lv_at hl 1 rfl) ?_
              obtain ⟨x2499, ex2499⟩ : ∃ zz, q_is (q_z f2484 mo 3) zz := ⟨_, q_isr _⟩
              obtain ⟨lx2499, ux2499⟩ := q_isb ex2499 (q_fib hB.2.1 hmo kmo (by decide) rfl)
              refine q_cVv (As := []) (rest := []) cx hB (fun _ h => h) hN hmo kmo (by decide) rfl (r_goOn l g hN hB.2.1 mo hmo kmo bu hbu kbu xp (by omega) (by omega) x2499 (by omega) (by omega) z2487 ex2499 z2492) q_cX12_140 q_dX12_goOn (by decide) rfl rfl hl.1 rfl (Nat.le_of_ble_eq_true rfl) dX12_command_67 (fun H locs f2500 h2502 hF hB => ?_)
              obtain ⟨t2503, t2504⟩ := h2502
              have z2505 : q_is (q_z f2500 mo 8) 0 := Eq.trans (hF.z hmo (by rw [kmo]; rfl)) z2486
              have z2506 : q_is (q_z f2500 mo 37) xo := Eq.trans (hF.z hmo (by rw [kmo]; rfl)) z2488
              have z2507 : q_is (q_z f2500 mo 35) x1362 := Eq.trans (hF.z hmo (by rw [kmo]; rfl)) z2489
              have z2508 : q_is (q_z f2500 mo 36) (x1363 + 1) := Eq.trans (hF.z hmo (by rw [kmo]; rfl)) z2485
              have z2509 : q_is (q_z f2500 mo 3) x2499 := Eq.trans (hF.z hmo (by rw [kmo]; rfl)) ex2499
              have z2510 : q_ir (q_r f2500 mo 13) sr := Eq.trans (hF.r hmo (by rw [kmo]; rfl)) z2490
              have z2511 : q_ir (q_r f2500 mo 18) nm := Eq.trans (hF.r hmo (by rw [kmo]; rfl)) z2491
              have z2512 : q_ir (q_r f2500 mo 1) bu := Eq.trans (hF.r hmo (by rw [kmo]; rfl)) z2492
              have z2513 : q_ir (q_r f2500 mo 29) cs := Eq.trans (hF.r hmo (by rw [kmo]; rfl)) z2493
              have z2514 : q_ir (q_r f2500 mo 30) c1 := Eq.trans (hF.r hmo (by rw [kmo]; rfl)) z2494
              have z2515 : q_ir (q_r f2500 mo 31) c2 := Eq.trans (hF.r hmo (by rw [kmo]; rfl)) z2495
              have z2516 : q_ir (q_r f2500 mo 32) c3 := Eq.trans (hF.r hmo (by rw [kmo]; rfl)) z2496
              have g2517 : k_bl f f2500 c1 c2 60 := k_bl_tr g2497 (fun i9 => hF.z hc1 (by rw [kc1]; rfl)) (fun i9 => hF.z hc2 (by rw [kc2]; rfl))
              have g2518 : k_b1 f f2500 cs x1362 := k_b1_tr g2498 (fun i9 => hF.z hcs (by rw [kcs]; rfl))
              obtain ⟨x2519, ex2519⟩ : ∃ zz, q_is (q_z f2500 mo 4) zz := ⟨_, q_isr _⟩
              obtain ⟨lx2519, ux2519⟩ := q_isb ex2519 (q_fib hB.2.1 hmo kmo (by decide) rfl)
              obtain ⟨x2520, ex2520⟩ : ∃ zz, q_is (q_z f2500 mo 6) zz := ⟨_, q_isr _⟩
              obtain ⟨lx2520, ux2520⟩ := q_isb ex2520 (q_fib hB.2.1 hmo kmo (by decide) rfl)
              replace t2503 := q_isl9 ex2519 t2503
              replace t2504 := k_po_si ex2520 ex2519 t2504
              refine q_ald_n cx dX12_command_70 rfl (lv_at hl 1 rfl) ?_
              refine q_gX12_494 cx hB hmo kmo z2507 dX12_command_71 (fun lb2521 ub2521 => ?_)
              refine lv_istore_n (lv' := [(2, .int (q_i x1362)), (1, .int (q_i 6)), (0, .ref mo)]) cx.1 cx.2.1 dX12_command_74 rfl hl (by decide) rfl (fun ls hl => ?_)
              refine q_ald_n cx dX12_command_75 rfl (lv_at hl 2 rfl) ?_
              refine q_gX12_51 cx hB hmo kmo z2513 dX12_command_76 (fun hb2522 kb2522 => ?_)
              refine q_ild_n cx dX12_command_79 rfl (lv_at hl 0 rfl) ?_
              refine q_ild_n cx dX12_command_80 rfl (lv_at hl 1 rfl) ?_
              refine q_iast (lo := 0) (hi := 7) (n := 60) cx hB hcs kcs (by decide) rfl rfl (by omega) (by omega) (by decide) rfl ⟨by decide, by decide⟩ (by decide) (by decide) (q_inWi (lo := 0) (hi := 58) (by decide) (by omega) (by omega)) dX12_command_81 (fun H locs f2523 ef2523 z2524 hB => ?_)
              have z2525 : q_is (q_z f2523 mo 8) 0 := by rw [ef2523, q_setz (Or.inl (fun q => by rw [q, kcs] at kmo; exact absurd kmo (by decide)))]; exact z2505
              have z2526 : q_is (q_z f2523 mo 37) xo := by rw [ef2523, q_setz (Or.inl (fun q => by rw [q, kcs] at kmo; exact absurd kmo (by decide)))]; exact z2506
              have z2527 : q_is (q_z f2523 mo 35) x1362 := by rw [ef2523, q_setz (Or.inl (fun q => by rw [q, kcs] at kmo; exact absurd kmo (by decide)))]; exact z2507
              have z2528 : q_is (q_z f2523 mo 36) (x1363 + 1) := by rw [ef2523, q_setz (Or.inl (fun q => by rw [q, kcs] at kmo; exact absurd kmo (by decide)))]; exact z2508
              have z2529 : q_is (q_z f2523 mo 3) x2499 := by rw [ef2523, q_setz (Or.inl (fun q => by rw [q, kcs] at kmo; exact absurd kmo (by decide)))]; exact z2509
              have z2530 : q_is (q_z f2523 mo 4) x2519 := by rw [ef2523, q_setz (Or.inl (fun q => by rw [q, kcs] at kmo; exact absurd kmo (by decide)))]; exact ex2519
              have z2531 : q_is (q_z f2523 mo 6) x2520 := by rw [ef2523, q_setz (Or.inl (fun q => by rw [q, kcs] at kmo; exact absurd kmo (by decide)))]; exact ex2520
              have z2532 : q_ir (q_r f2523 mo 13) sr := by rw [ef2523, q_setr (Or.inl (fun q => by rw [q, kcs] at kmo; exact absurd kmo (by decide)))]; exact z2510
              have z2533 : q_ir (q_r f2523 mo 18) nm := by rw [ef2523, q_setr (Or.inl (fun q => by rw [q, kcs] at kmo; exact absurd kmo (by decide)))]; exact z2511
              have z2534 : q_ir (q_r f2523 mo 1) bu := by rw [ef2523, q_setr (Or.inl (fun q => by rw [q, kcs] at kmo; exact absurd kmo (by decide)))]; exact z2512
              have z2535 : q_ir (q_r f2523 mo 29) cs := by rw [ef2523, q_setr (Or.inl (fun q => by rw [q, kcs] at kmo; exact absurd kmo (by decide)))]; exact z2513
              have z2536 : q_ir (q_r f2523 mo 30) c1 := by rw [ef2523, q_setr (Or.inl (fun q => by rw [q, kcs] at kmo; exact absurd kmo (by decide)))]; exact z2514
              have z2537 : q_ir (q_r f2523 mo 31) c2 := by rw [ef2523, q_setr (Or.inl (fun q => by rw [q, kcs] at kmo; exact absurd kmo (by decide)))]; exact z2515
              have z2538 : q_ir (q_r f2523 mo 32) c3 := by rw [ef2523, q_setr (Or.inl (fun q => by rw [q, kcs] at kmo; exact absurd kmo (by decide)))]; exact z2516
              have g2539 : k_bl f f2523 c1 c2 60 := k_bl_tr g2517 (fun i9 => by rw [ef2523, q_setz (Or.inl (fun q => by rw [q, kcs] at kc1; exact absurd kc1 (by decide)))]) (fun i9 => by rw [ef2523, q_setz (Or.inl (fun q => by rw [q, kcs] at kc2; exact absurd kc2 (by decide)))])
              have g2540 : k_b1 f f2523 cs x1362 := k_b1_s g2518 ef2523 (by omega)
              refine q_ald_n cx dX12_command_82 rfl (lv_at hl 2 rfl) ?_
              refine q_ild_n cx dX12_command_83 rfl (lv_at hl 0 rfl) ?_
              refine q_ild_n cx dX12_command_84 rfl (lv_at hl 1 rfl) ?_
              refine q_cVv (As := [.int (q_i x1362), .int (q_i 6)]) (rest := []) cx hB (fun _ h => h) hN hmo kmo (by decide) rfl (r_readsNumbers6 l g hN hB.2.1 mo hmo kmo x1362 (by omega) (by omega) 6 (by decide) (by decide) sr hsr ksr nm hnm knm bu hbu kbu c1 hc1 kc1 c2 hc2 kc2 c3 hc3 kc3 x2519 (by omega) (by omega) z2525 z2530 z2532 z2533 z2534 z2536 z2537 z2538) q_cX12_497 q_dX12_readsNumbers (by decide) rfl rfl hl.1 rfl (Nat.le_of_ble_eq_true rfl) dX12_command_85 (fun H locs f2541 h2543 hF hB => ?_)
              rcases h2543 with h2544 | h2545
              · obtain ⟨z2546, t2547, t2548, t2549⟩ := h2544
                have z2550 : q_is (q_z f2541 mo 37) xo := Eq.trans (hF.z hmo (by rw [kmo]; rfl)) z2526
                have z2551 : q_is (q_z f2541 mo 35) x1362 := Eq.trans (hF.z hmo (by rw [kmo]; rfl)) z2527
                have z2552 : q_is (q_z f2541 mo 36) (x1363 + 1) := Eq.trans (hF.z hmo (by rw [kmo]; rfl)) z2528
                have z2553 : q_is (q_z f2541 mo 3) x2499 := Eq.trans (hF.z hmo (by rw [kmo]; rfl)) z2529
                have z2554 : q_is (q_z f2541 cs (Int.toNat x1362)) 6 := Eq.trans (hF.z hcs (by rw [kcs]; rfl)) z2524
                have z2555 : q_ir (q_r f2541 mo 13) sr := Eq.trans (hF.r hmo (by rw [kmo]; rfl)) z2532
                have z2556 : q_ir (q_r f2541 mo 18) nm := Eq.trans (hF.r hmo (by rw [kmo]; rfl)) z2533
                have z2557 : q_ir (q_r f2541 mo 1) bu := Eq.trans (hF.r hmo (by rw [kmo]; rfl)) z2534
                have z2558 : q_ir (q_r f2541 mo 29) cs := Eq.trans (hF.r hmo (by rw [kmo]; rfl)) z2535
                have z2559 : q_ir (q_r f2541 mo 30) c1 := Eq.trans (hF.r hmo (by rw [kmo]; rfl)) z2536
                have z2560 : q_ir (q_r f2541 mo 31) c2 := Eq.trans (hF.r hmo (by rw [kmo]; rfl)) z2537
                have z2561 : q_ir (q_r f2541 mo 32) c3 := Eq.trans (hF.r hmo (by rw [kmo]; rfl)) z2538
                have g2562 : k_b1 f f2541 cs x1362 := k_b1_tr g2540 (fun i9 => hF.z hcs (by rw [kcs]; rfl))
                obtain ⟨x2563, ex2563⟩ : ∃ zz, q_is (q_z f2541 mo 4) zz := ⟨_, q_isr _⟩
                obtain ⟨lx2563, ux2563⟩ := q_isb ex2563 (q_fib hB.2.1 hmo kmo (by decide) rfl)
                obtain ⟨x2564, ex2564⟩ : ∃ zz, q_is (q_z f2541 mo 6) zz := ⟨_, q_isr _⟩
                obtain ⟨lx2564, ux2564⟩ := q_isb ex2564 (q_fib hB.2.1 hmo kmo (by decide) rfl)
                replace t2547 := q_islt9 ex2563 t2547
                have hb9 : k_bl f f2541 c1 c2 x1362 := k_bl_cat g2539 t2549 (by omega)
                refine q_ald_n cx dX12_command_88 rfl (lv_at hl 2 rfl) ?_
                refine q_cVi (As := []) (rest := []) cx hB (fun _ h => h) hN hmo kmo (by decide) rfl (r_isGood0 l g hN hB.2.1 mo hmo kmo z2546) q_cX12_130 q_dX12_isGood (by decide) rfl rfl hl.1 rfl (Nat.le_of_ble_eq_true rfl) dX12_command_89 (fun y2566 H locs f2565 ry2566 h2567 hF hB => ?_)
                obtain ⟨rfl, qy2566⟩ := h2567
                subst qy2566
                refine q_ifne (tgt := 96) cx ⟨by decide, by decide⟩ dX12_command_92 (by decide) (fun c2568 => ?_) (fun c2568 => ?_)
                · refine q_ald_n cx dX12_command_96 rfl (lv_at hl 2 rfl) ?_
                  refine lv_dup cx.1 cx.2.1 dX12_command_97 rfl ?_
                  refine q_gX12_494 cx hB hmo kmo z2551 dX12_command_98 (fun lb2569 ub2569 => ?_)
                  refine q_iconst cx dX12_command_101 ?_
                  refine q_iadd cx dX12_command_102 ?_
                  refine q_pX12_494 cx hB hmo kmo ⟨by omega, by omega⟩ (by omega) (by omega) rfl dX12_command_103 (fun H locs f2570 ef2570 z2571 hB => ?_)
                  have z2572 : q_is (q_z f2570 mo 37) xo := by rw [ef2570, q_setz (Or.inr (by decide))]; exact z2550
                  have z2573 : q_is (q_z f2570 mo 36) (x1363 + 1) := by rw [ef2570, q_setz (Or.inr (by decide))]; exact z2552
                  have z2574 : q_is (q_z f2570 mo 3) x2499 := by rw [ef2570, q_setz (Or.inr (by decide))]; exact z2553
                  have z2575 : q_is (q_z f2570 cs (Int.toNat x1362)) 6 := by rw [ef2570, q_setz (Or.inl (fun q => by rw [q, kmo] at kcs; exact absurd kcs (by decide)))]; exact z2554
                  have z2576 : q_is (q_z f2570 mo 8) 0 := by rw [ef2570, q_setz (Or.inr (by decide))]; exact z2546
                  have z2577 : q_is (q_z f2570 mo 4) x2563 := by rw [ef2570, q_setz (Or.inr (by decide))]; exact ex2563
                  have z2578 : q_is (q_z f2570 mo 6) x2564 := by rw [ef2570, q_setz (Or.inr (by decide))]; exact ex2564
                  have z2579 : q_ir (q_r f2570 mo 13) sr := by rw [ef2570, q_setr (Or.inr (by decide))]; exact z2555
                  have z2580 : q_ir (q_r f2570 mo 18) nm := by rw [ef2570, q_setr (Or.inr (by decide))]; exact z2556
                  have z2581 : q_ir (q_r f2570 mo 1) bu := by rw [ef2570, q_setr (Or.inr (by decide))]; exact z2557
                  have z2582 : q_ir (q_r f2570 mo 29) cs := by rw [ef2570, q_setr (Or.inr (by decide))]; exact z2558
                  have z2583 : q_ir (q_r f2570 mo 30) c1 := by rw [ef2570, q_setr (Or.inr (by decide))]; exact z2559
                  have z2584 : q_ir (q_r f2570 mo 31) c2 := by rw [ef2570, q_setr (Or.inr (by decide))]; exact z2560
                  have z2585 : q_ir (q_r f2570 mo 32) c3 := by rw [ef2570, q_setr (Or.inr (by decide))]; exact z2561
                  have g2586 : k_b1 f f2570 cs x1362 := k_b1_tr g2562 (fun i9 => by rw [ef2570, q_setz (Or.inl (fun q => by rw [q, kmo] at kcs; exact absurd kcs (by decide)))])
                  have g2587 : k_cc 6 f2570 c1 c2 (Int.toNat x1362) := k_cc_tr t2548 (fun i9 => by rw [ef2570, q_setz (Or.inl (fun q => by rw [q, kmo] at kc1; exact absurd kc1 (by decide)))]) (fun i9 => by rw [ef2570, q_setz (Or.inl (fun q => by rw [q, kmo] at kc2; exact absurd kc2 (by decide)))])
                  have g2588 : k_bl f f2570 c1 c2 x1362 := k_bl_tr hb9 (fun i9 => by rw [ef2570, q_setz (Or.inl (fun q => by rw [q, kmo] at kc1; exact absurd kc1 (by decide)))]) (fun i9 => by rw [ef2570, q_setz (Or.inl (fun q => by rw [q, kmo] at kc2; exact absurd kc2 (by decide)))])
                  refine q_ald_n cx dX12_command_106 rfl (lv_at hl 2 rfl) ?_
                  refine lv_dup cx.1 cx.2.1 dX12_command_107 rfl ?_
                  refine q_gX12_488 cx hB hmo kmo z2572 dX12_command_108 (fun lb2589 ub2589 => ?_)
                  refine q_ild_n cx dX12_command_111 rfl (lv_at hl 1 rfl) ?_
                  refine q_bipush cx dX12_command_112 rfl ?_
                  refine q_icne (tgt := 121) cx ⟨by decide, by decide⟩ ⟨by decide, by decide⟩ dX12_command_114 (by decide) (fun c2590 => ?_) (fun c2590 => ?_)
                  · exact absurd c2590 (by omega)
                  · refine q_iconst cx dX12_command_117 ?_
                    refine lv_goto (tgt := 122) cx.1 cx.2.1 dX12_command_118 (by decide) ?_
                    refine q_cSi (As := [.int (q_i 1)]) (rest := [.int (q_i xo), .ref mo]) cx hB (fun _ h => h) hN (r_truth1 l g hN hB.2.1 1 (by decide) (by decide)) q_cX12_78 q_dX12_truth (by decide) rfl rfl hl.1 rfl (Nat.le_of_ble_eq_true rfl) dX12_command_122 (fun y2592 H locs f2591 ry2592 h2593 hF hB => ?_)
                    obtain ⟨rfl, qy2592⟩ := h2593
                    subst qy2592
                    refine q_iadd cx dX12_command_125 ?_
                    refine q_pX12_488 cx hB hmo kmo ⟨by omega, by omega⟩ (by omega) (by omega) rfl dX12_command_126 (fun H locs f2594 ef2594 z2595 hB => ?_)
                    have z2596 : q_is (q_z f2594 mo 36) (x1363 + 1) := by rw [ef2594, q_setz (Or.inr (by decide))]; exact z2573
                    have z2597 : q_is (q_z f2594 mo 3) x2499 := by rw [ef2594, q_setz (Or.inr (by decide))]; exact z2574
                    have z2598 : q_is (q_z f2594 cs (Int.toNat x1362)) 6 := by rw [ef2594, q_setz (Or.inl (fun q => by rw [q, kmo] at kcs; exact absurd kcs (by decide)))]; exact z2575
                    have z2599 : q_is (q_z f2594 mo 8) 0 := by rw [ef2594, q_setz (Or.inr (by decide))]; exact z2576
                    have z2600 : q_is (q_z f2594 mo 4) x2563 := by rw [ef2594, q_setz (Or.inr (by decide))]; exact z2577
                    have z2601 : q_is (q_z f2594 mo 6) x2564 := by rw [ef2594, q_setz (Or.inr (by decide))]; exact z2578
                    have z2602 : q_is (q_z f2594 mo 35) (x1362 + 1) := by rw [ef2594, q_setz (Or.inr (by decide))]; exact z2571
                    have z2603 : q_ir (q_r f2594 mo 13) sr := by rw [ef2594, q_setr (Or.inr (by decide))]; exact z2579
                    have z2604 : q_ir (q_r f2594 mo 18) nm := by rw [ef2594, q_setr (Or.inr (by decide))]; exact z2580
                    have z2605 : q_ir (q_r f2594 mo 1) bu := by rw [ef2594, q_setr (Or.inr (by decide))]; exact z2581
                    have z2606 : q_ir (q_r f2594 mo 29) cs := by rw [ef2594, q_setr (Or.inr (by decide))]; exact z2582
                    have z2607 : q_ir (q_r f2594 mo 30) c1 := by rw [ef2594, q_setr (Or.inr (by decide))]; exact z2583
                    have z2608 : q_ir (q_r f2594 mo 31) c2 := by rw [ef2594, q_setr (Or.inr (by decide))]; exact z2584
                    have z2609 : q_ir (q_r f2594 mo 32) c3 := by rw [ef2594, q_setr (Or.inr (by decide))]; exact z2585
                    have g2610 : k_b1 f f2594 cs x1362 := k_b1_tr g2586 (fun i9 => by rw [ef2594, q_setz (Or.inl (fun q => by rw [q, kmo] at kcs; exact absurd kcs (by decide)))])
                    have g2611 : k_cc 6 f2594 c1 c2 (Int.toNat x1362) := k_cc_tr g2587 (fun i9 => by rw [ef2594, q_setz (Or.inl (fun q => by rw [q, kmo] at kc1; exact absurd kc1 (by decide)))]) (fun i9 => by rw [ef2594, q_setz (Or.inl (fun q => by rw [q, kmo] at kc2; exact absurd kc2 (by decide)))])
                    have g2612 : k_bl f f2594 c1 c2 x1362 := k_bl_tr g2588 (fun i9 => by rw [ef2594, q_setz (Or.inl (fun q => by rw [q, kmo] at kc1; exact absurd kc1 (by decide)))]) (fun i9 => by rw [ef2594, q_setz (Or.inl (fun q => by rw [q, kmo] at kc2; exact absurd kc2 (by decide)))])
                    have hsp : k_stp 6 = 1 := rfl
                    have hsc9 : q_sc f2594 mo cs c1 c2 := k_sc_add (c := 6) hsc ex1362 hf2 ex1363 z2602 z2596 (Eq.trans z2595 (by rw [hsp] <;> omega)) (by omega) z2598 g2611 g2610 g2612 (by rw [hsp] <;> omega) (by rw [hsp] <;> omega)
                    refine q_vret cx hr hlk hB dX12_command_129 ?_
                    exact (Or.inr (Or.inl ⟨z2599, z2595, (q_islt z2600 (by omega)), hsc9⟩))
                · exact absurd c2568 (by omega)
              · obtain ⟨lz2613, uz2613⟩ := h2545
                have z2614 : q_is (q_z f2541 mo 37) xo := Eq.trans (hF.z hmo (by rw [kmo]; rfl)) z2526
                have z2615 : q_is (q_z f2541 mo 35) x1362 := Eq.trans (hF.z hmo (by rw [kmo]; rfl)) z2527
                have z2616 : q_is (q_z f2541 mo 36) (x1363 + 1) := Eq.trans (hF.z hmo (by rw [kmo]; rfl)) z2528
                have z2617 : q_is (q_z f2541 mo 3) x2499 := Eq.trans (hF.z hmo (by rw [kmo]; rfl)) z2529
                have z2618 : q_is (q_z f2541 cs (Int.toNat x1362)) 6 := Eq.trans (hF.z hcs (by rw [kcs]; rfl)) z2524
                have z2619 : q_ir (q_r f2541 mo 13) sr := Eq.trans (hF.r hmo (by rw [kmo]; rfl)) z2532
                have z2620 : q_ir (q_r f2541 mo 18) nm := Eq.trans (hF.r hmo (by rw [kmo]; rfl)) z2533
                have z2621 : q_ir (q_r f2541 mo 1) bu := Eq.trans (hF.r hmo (by rw [kmo]; rfl)) z2534
                have z2622 : q_ir (q_r f2541 mo 29) cs := Eq.trans (hF.r hmo (by rw [kmo]; rfl)) z2535
                have z2623 : q_ir (q_r f2541 mo 30) c1 := Eq.trans (hF.r hmo (by rw [kmo]; rfl)) z2536
                have z2624 : q_ir (q_r f2541 mo 31) c2 := Eq.trans (hF.r hmo (by rw [kmo]; rfl)) z2537
                have z2625 : q_ir (q_r f2541 mo 32) c3 := Eq.trans (hF.r hmo (by rw [kmo]; rfl)) z2538
                have g2626 : k_b1 f f2541 cs x1362 := k_b1_tr g2540 (fun i9 => hF.z hcs (by rw [kcs]; rfl))
                obtain ⟨x2627, ex2627⟩ : ∃ zz, q_is (q_z f2541 mo 8) zz := ⟨_, q_isr _⟩
                obtain ⟨lx2627, ux2627⟩ := q_isb ex2627 ⟨lz2613, uz2613⟩
                obtain ⟨x2628, ex2628⟩ : ∃ zz, q_is (q_z f2541 mo 4) zz := ⟨_, q_isr _⟩
                obtain ⟨lx2628, ux2628⟩ := q_isb ex2628 (q_fib hB.2.1 hmo kmo (by decide) rfl)
                obtain ⟨x2629, ex2629⟩ : ∃ zz, q_is (q_z f2541 mo 6) zz := ⟨_, q_isr _⟩
                obtain ⟨lx2629, ux2629⟩ := q_isb ex2629 (q_fib hB.2.1 hmo kmo (by decide) rfl)
                refine q_ald_n cx dX12_command_88 rfl (lv_at hl 2 rfl) ?_
                refine q_cVi (As := []) (rest := []) cx hB (fun _ h => h) hN hmo kmo (by decide) rfl (r_isGood1 l g hN hB.2.1 mo hmo kmo x2627 (by omega) (by omega) ex2627) q_cX12_130 q_dX12_isGood (by decide) rfl rfl hl.1 rfl (Nat.le_of_ble_eq_true rfl) dX12_command_89 (fun y2631 H locs f2630 ry2631 h2632 hF hB => ?_)
                obtain ⟨rfl, qy2631⟩ := h2632
                subst qy2631
                refine q_ifne (tgt := 96) cx ⟨by decide, by decide⟩ dX12_command_92 (by decide) (fun c2633 => ?_) (fun c2633 => ?_)
                · exact absurd c2633 (by omega)
                · refine q_vret cx hr hlk hB dX12_command_95 ?_
                  exact (Or.inr (Or.inr ⟨(q_isl ex2627 (by omega)), (q_isu ex2627 (by omega))⟩))
            · exact absurd c2482 (by omega)
          · refine q_ald_n cx dX12_command_43 rfl (lv_at hl 1 rfl) ?_
            refine q_iconst cx dX12_command_44 ?_
            refine q_cVv (As := [.int (q_i 5)]) (rest := []) cx hB (fun _ h => h) hN hmo kmo (by decide) rfl (r_wrong0 l g hN hB.2.1 mo hmo kmo 5 (by decide) (by decide) hf0) q_cX12_137 q_dX12_wrong (by decide) rfl rfl hl.1 rfl (Nat.le_of_ble_eq_true rfl) dX12_command_45 (fun H locs f2634 h2636 hF hB => ?_)
            obtain ⟨lz2637, uz2637⟩ := h2636
            have z2638 : q_is (q_z f2634 mo 4) xp := Eq.trans (hF.z hmo (by rw [kmo]; rfl)) hf1
            have z2639 : q_is (q_z f2634 mo 37) xo := Eq.trans (hF.z hmo (by rw [kmo]; rfl)) hf2
            have z2640 : q_is (q_z f2634 mo 35) x1362 := Eq.trans (hF.z hmo (by rw [kmo]; rfl)) ex1362
            have z2641 : q_is (q_z f2634 mo 36) x1363 := Eq.trans (hF.z hmo (by rw [kmo]; rfl)) ex1363
            have z2642 : q_ir (q_r f2634 mo 13) sr := Eq.trans (hF.r hmo (by rw [kmo]; rfl)) hr0
            have z2643 : q_ir (q_r f2634 mo 18) nm := Eq.trans (hF.r hmo (by rw [kmo]; rfl)) hr1
            have z2644 : q_ir (q_r f2634 mo 1) bu := Eq.trans (hF.r hmo (by rw [kmo]; rfl)) hr2
            have z2645 : q_ir (q_r f2634 mo 29) cs := Eq.trans (hF.r hmo (by rw [kmo]; rfl)) hr3
            have z2646 : q_ir (q_r f2634 mo 30) c1 := Eq.trans (hF.r hmo (by rw [kmo]; rfl)) hr4
            have z2647 : q_ir (q_r f2634 mo 31) c2 := Eq.trans (hF.r hmo (by rw [kmo]; rfl)) hr5
            have z2648 : q_ir (q_r f2634 mo 32) c3 := Eq.trans (hF.r hmo (by rw [kmo]; rfl)) hr6
            have g2649 : q_sc f2634 mo cs c1 c2 := q_sc_tr hsc (hF.z hmo (by rw [kmo]; rfl)) (hF.z hmo (by rw [kmo]; rfl)) (hF.z hmo (by rw [kmo]; rfl)) (fun i9 => hF.z hcs (by rw [kcs]; rfl)) (fun i9 => hF.z hc1 (by rw [kc1]; rfl)) (fun i9 => hF.z hc2 (by rw [kc2]; rfl))
            have g2650 : k_bl f f2634 c1 c2 60 := k_bl_tr hbx (fun i9 => hF.z hc1 (by rw [kc1]; rfl)) (fun i9 => hF.z hc2 (by rw [kc2]; rfl))
            have g2651 : k_b1 f f2634 cs x1362 := k_b1_tr hbs (fun i9 => hF.z hcs (by rw [kcs]; rfl))
            obtain ⟨x2652, ex2652⟩ : ∃ zz, q_is (q_z f2634 mo 8) zz := ⟨_, q_isr _⟩
            obtain ⟨lx2652, ux2652⟩ := q_isb ex2652 ⟨lz2637, uz2637⟩
            refine q_ald_n cx dX12_command_48 rfl (lv_at hl 1 rfl) ?_
            refine q_cVi (As := []) (rest := []) cx hB (fun _ h => h) hN hmo kmo (by decide) rfl (r_isGood1 l g hN hB.2.1 mo hmo kmo x2652 (by omega) (by omega) ex2652) q_cX12_130 q_dX12_isGood (by decide) rfl rfl hl.1 rfl (Nat.le_of_ble_eq_true rfl) dX12_command_49 (fun y2654 H locs f2653 ry2654 h2655 hF hB => ?_)
            obtain ⟨rfl, qy2654⟩ := h2655
            subst qy2654
            refine q_ifne (tgt := 56) cx ⟨by decide, by decide⟩ dX12_command_52 (by decide) (fun c2656 => ?_) (fun c2656 => ?_)
            · exact absurd c2656 (by omega)
            · refine q_vret cx hr hlk hB dX12_command_55 ?_
              exact (Or.inr (Or.inr ⟨(q_isl ex2652 (by omega)), (q_isu ex2652 (by omega))⟩))
        · refine q_ald_n cx dX12_command_29 rfl (lv_at hl 1 rfl) ?_
          refine q_iconst cx dX12_command_30 ?_
          refine q_cVv (As := [.int (q_i 3)]) (rest := []) cx hB (fun _ h => h) hN hmo kmo (by decide) rfl (r_wrong0 l g hN hB.2.1 mo hmo kmo 3 (by decide) (by decide) hf0) q_cX12_137 q_dX12_wrong (by decide) rfl rfl hl.1 rfl (Nat.le_of_ble_eq_true rfl) dX12_command_31 (fun H locs f2657 h2659 hF hB => ?_)
          obtain ⟨lz2660, uz2660⟩ := h2659
          have z2661 : q_is (q_z f2657 mo 4) xp := Eq.trans (hF.z hmo (by rw [kmo]; rfl)) hf1
          have z2662 : q_is (q_z f2657 mo 37) xo := Eq.trans (hF.z hmo (by rw [kmo]; rfl)) hf2
          have z2663 : q_is (q_z f2657 mo 35) x1362 := Eq.trans (hF.z hmo (by rw [kmo]; rfl)) ex1362
          have z2664 : q_is (q_z f2657 mo 36) x1363 := Eq.trans (hF.z hmo (by rw [kmo]; rfl)) ex1363
          have z2665 : q_ir (q_r f2657 mo 13) sr := Eq.trans (hF.r hmo (by rw [kmo]; rfl)) hr0
          have z2666 : q_ir (q_r f2657 mo 18) nm := Eq.trans (hF.r hmo (by rw [kmo]; rfl)) hr1
          have z2667 : q_ir (q_r f2657 mo 1) bu := Eq.trans (hF.r hmo (by rw [kmo]; rfl)) hr2
          have z2668 : q_ir (q_r f2657 mo 29) cs := Eq.trans (hF.r hmo (by rw [kmo]; rfl)) hr3
          have z2669 : q_ir (q_r f2657 mo 30) c1 := Eq.trans (hF.r hmo (by rw [kmo]; rfl)) hr4
          have z2670 : q_ir (q_r f2657 mo 31) c2 := Eq.trans (hF.r hmo (by rw [kmo]; rfl)) hr5
          have z2671 : q_ir (q_r f2657 mo 32) c3 := Eq.trans (hF.r hmo (by rw [kmo]; rfl)) hr6
          have g2672 : q_sc f2657 mo cs c1 c2 := q_sc_tr hsc (hF.z hmo (by rw [kmo]; rfl)) (hF.z hmo (by rw [kmo]; rfl)) (hF.z hmo (by rw [kmo]; rfl)) (fun i9 => hF.z hcs (by rw [kcs]; rfl)) (fun i9 => hF.z hc1 (by rw [kc1]; rfl)) (fun i9 => hF.z hc2 (by rw [kc2]; rfl))
          have g2673 : k_bl f f2657 c1 c2 60 := k_bl_tr hbx (fun i9 => hF.z hc1 (by rw [kc1]; rfl)) (fun i9 => hF.z hc2 (by rw [kc2]; rfl))
          have g2674 : k_b1 f f2657 cs x1362 := k_b1_tr hbs (fun i9 => hF.z hcs (by rw [kcs]; rfl))
          obtain ⟨x2675, ex2675⟩ : ∃ zz, q_is (q_z f2657 mo 8) zz := ⟨_, q_isr _⟩
          obtain ⟨lx2675, ux2675⟩ := q_isb ex2675 ⟨lz2660, uz2660⟩
          refine q_ald_n cx dX12_command_34 rfl (lv_at hl 1 rfl) ?_
          refine q_gX12_491 cx hB hmo kmo z2664 dX12_command_35 (fun lb2676 ub2676 => ?_)
          refine q_bipush cx dX12_command_38 rfl ?_
          refine q_icne (tgt := 48) cx ⟨by omega, by omega⟩ ⟨by decide, by decide⟩ dX12_command_40 (by decide) (fun c2677 => ?_) (fun c2677 => ?_)
          · refine q_ald_n cx dX12_command_48 rfl (lv_at hl 1 rfl) ?_
            refine q_cVi (As := []) (rest := []) cx hB (fun _ h => h) hN hmo kmo (by decide) rfl (r_isGood1 l g hN hB.2.1 mo hmo kmo x2675 (by omega) (by omega) ex2675) q_cX12_130 q_dX12_isGood (by decide) rfl rfl hl.1 rfl (Nat.le_of_ble_eq_true rfl) dX12_command_49 (fun y2679 H locs f2678 ry2679 h2680 hF hB => ?_)
            obtain ⟨rfl, qy2679⟩ := h2680
            subst qy2679
            refine q_ifne (tgt := 56) cx ⟨by decide, by decide⟩ dX12_command_52 (by decide) (fun c2681 => ?_) (fun c2681 => ?_)
            · exact absurd c2681 (by omega)
            · refine q_vret cx hr hlk hB dX12_command_55 ?_
              exact (Or.inr (Or.inr ⟨(q_isl ex2675 (by omega)), (q_isu ex2675 (by omega))⟩))
          · refine q_ald_n cx dX12_command_43 rfl (lv_at hl 1 rfl) ?_
            refine q_iconst cx dX12_command_44 ?_
            refine q_cVv (As := [.int (q_i 5)]) (rest := []) cx hB (fun _ h => h) hN hmo kmo (by decide) rfl (r_wrong1 l g hN hB.2.1 mo hmo kmo 5 (by decide) (by decide) x2675 (by omega) (by omega) ex2675) q_cX12_137 q_dX12_wrong (by decide) rfl rfl hl.1 rfl (Nat.le_of_ble_eq_true rfl) dX12_command_45 (fun H locs f2682 h2684 hF hB => ?_)
            obtain rfl := h2684
            refine q_ald_n cx dX12_command_48 rfl (lv_at hl 1 rfl) ?_
            refine q_cVi (As := []) (rest := []) cx hB (fun _ h => h) hN hmo kmo (by decide) rfl (r_isGood1 l g hN hB.2.1 mo hmo kmo x2675 (by omega) (by omega) ex2675) q_cX12_130 q_dX12_isGood (by decide) rfl rfl hl.1 rfl (Nat.le_of_ble_eq_true rfl) dX12_command_49 (fun y2686 H locs f2685 ry2686 h2687 hF hB => ?_)
            obtain ⟨rfl, qy2686⟩ := h2687
            subst qy2686
            refine q_ifne (tgt := 56) cx ⟨by decide, by decide⟩ dX12_command_52 (by decide) (fun c2688 => ?_) (fun c2688 => ?_)
            · exact absurd c2688 (by omega)
            · refine q_vret cx hr hlk hB dX12_command_55 ?_
              exact (Or.inr (Or.inr ⟨(q_isl ex2675 (by omega)), (q_isu ex2675 (by omega))⟩))
    · exact absurd c2473 (by omega)
  · obtain ⟨rfl, qy1365⟩ := h1374
    subst qy1365
    refine lv_istore_n (lv' := [(1, .int (q_i (-1))), (0, .ref mo)]) cx.1 cx.2.1 dX12_command_4 rfl hl (by decide) rfl (fun ls hl => ?_)
    refine q_ild_n cx dX12_command_5 rfl (lv_at hl 0 rfl) ?_
    refine q_iconst cx dX12_command_6 ?_
    refine q_icne (tgt := 15) cx ⟨by decide, by decide⟩ ⟨by decide, by decide⟩ dX12_command_7 (by decide) (fun c2689 => ?_) (fun c2689 => ?_)
    · exact absurd c2689 (by omega)
    · refine q_ald_n cx dX12_command_10 rfl (lv_at hl 1 rfl) ?_
      refine q_iconst cx dX12_command_11 ?_
      refine q_cVv (As := [.int (q_i 1)]) (rest := []) cx hB (fun _ h => h) hN hmo kmo (by decide) rfl (r_wrong0 l g hN hB.2.1 mo hmo kmo 1 (by decide) (by decide) hf0) q_cX12_137 q_dX12_wrong (by decide) rfl rfl hl.1 rfl (Nat.le_of_ble_eq_true rfl) dX12_command_12 (fun H locs f2690 h2692 hF hB => ?_)
      obtain ⟨lz2693, uz2693⟩ := h2692
      have z2694 : q_is (q_z f2690 mo 4) xp := Eq.trans (hF.z hmo (by rw [kmo]; rfl)) hf1
      have z2695 : q_is (q_z f2690 mo 37) xo := Eq.trans (hF.z hmo (by rw [kmo]; rfl)) hf2
      have z2696 : q_is (q_z f2690 mo 35) x1362 := Eq.trans (hF.z hmo (by rw [kmo]; rfl)) ex1362
      have z2697 : q_is (q_z f2690 mo 36) x1363 := Eq.trans (hF.z hmo (by rw [kmo]; rfl)) ex1363
      have z2698 : q_ir (q_r f2690 mo 13) sr := Eq.trans (hF.r hmo (by rw [kmo]; rfl)) hr0
      have z2699 : q_ir (q_r f2690 mo 18) nm := Eq.trans (hF.r hmo (by rw [kmo]; rfl)) hr1
      have z2700 : q_ir (q_r f2690 mo 1) bu := Eq.trans (hF.r hmo (by rw [kmo]; rfl)) hr2
      have z2701 : q_ir (q_r f2690 mo 29) cs := Eq.trans (hF.r hmo (by rw [kmo]; rfl)) hr3
      have z2702 : q_ir (q_r f2690 mo 30) c1 := Eq.trans (hF.r hmo (by rw [kmo]; rfl)) hr4
      have z2703 : q_ir (q_r f2690 mo 31) c2 := Eq.trans (hF.r hmo (by rw [kmo]; rfl)) hr5
      have z2704 : q_ir (q_r f2690 mo 32) c3 := Eq.trans (hF.r hmo (by rw [kmo]; rfl)) hr6
      have g2705 : q_sc f2690 mo cs c1 c2 := q_sc_tr hsc (hF.z hmo (by rw [kmo]; rfl)) (hF.z hmo (by rw [kmo]; rfl)) (hF.z hmo (by rw [kmo]; rfl)) (fun i9 => hF.z hcs (by rw [kcs]; rfl)) (fun i9 => hF.z hc1 (by rw [kc1]; rfl)) (fun i9 => hF.z hc2 (by rw [kc2]; rfl))
      have g2706 : k_bl f f2690 c1 c2 60 := k_bl_tr hbx (fun i9 => hF.z hc1 (by rw [kc1]; rfl)) (fun i9 => hF.z hc2 (by rw [kc2]; rfl))
      have g2707 : k_b1 f f2690 cs x1362 := k_b1_tr hbs (fun i9 => hF.z hcs (by rw [kcs]; rfl))
      obtain ⟨x2708, ex2708⟩ : ∃ zz, q_is (q_z f2690 mo 8) zz := ⟨_, q_isr _⟩
      obtain ⟨lx2708, ux2708⟩ := q_isb ex2708 ⟨lz2693, uz2693⟩
      refine q_ild_n cx dX12_command_15 rfl (lv_at hl 0 rfl) ?_
      refine q_bipush cx dX12_command_16 rfl ?_
      refine q_icne (tgt := 34) cx ⟨by decide, by decide⟩ ⟨by decide, by decide⟩ dX12_command_18 (by decide) (fun c2709 => ?_) (fun c2709 => ?_)
      · refine q_ald_n cx dX12_command_34 rfl (lv_at hl 1 rfl) ?_
        refine q_gX12_491 cx hB hmo kmo z2697 dX12_command_35 (fun lb2710 ub2710 => ?_)
        refine q_bipush cx dX12_command_38 rfl ?_
        refine q_icne (tgt := 48) cx ⟨by omega, by omega⟩ ⟨by decide, by decide⟩ dX12_command_40 (by decide) (fun c2711 => ?_) (fun c2711 => ?_)
        · refine q_ald_n cx dX12_command_48 rfl (lv_at hl 1 rfl) ?_
          refine q_cVi (As := []) (rest := []) cx hB (fun _ h => h) hN hmo kmo (by decide) rfl (r_isGood1 l g hN hB.2.1 mo hmo kmo x2708 (by omega) (by omega) ex2708) q_cX12_130 q_dX12_isGood (by decide) rfl rfl hl.1 rfl (Nat.le_of_ble_eq_true rfl) dX12_command_49 (fun y2713 H locs f2712 ry2713 h2714 hF hB => ?_)
          obtain ⟨rfl, qy2713⟩ := h2714
          subst qy2713
          refine q_ifne (tgt := 56) cx ⟨by decide, by decide⟩ dX12_command_52 (by decide) (fun c2715 => ?_) (fun c2715 => ?_)
          · exact absurd c2715 (by omega)
          · refine q_vret cx hr hlk hB dX12_command_55 ?_
            exact (Or.inr (Or.inr ⟨(q_isl ex2708 (by omega)), (q_isu ex2708 (by omega))⟩))
        · refine q_ald_n cx dX12_command_43 rfl (lv_at hl 1 rfl) ?_
          refine q_iconst cx dX12_command_44 ?_
          refine q_cVv (As := [.int (q_i 5)]) (rest := []) cx hB (fun _ h => h) hN hmo kmo (by decide) rfl (r_wrong1 l g hN hB.2.1 mo hmo kmo 5 (by decide) (by decide) x2708 (by omega) (by omega) ex2708) q_cX12_137 q_dX12_wrong (by decide) rfl rfl hl.1 rfl (Nat.le_of_ble_eq_true rfl) dX12_command_45 (fun H locs f2716 h2718 hF hB => ?_)
          obtain rfl := h2718
          refine q_ald_n cx dX12_command_48 rfl (lv_at hl 1 rfl) ?_
          refine q_cVi (As := []) (rest := []) cx hB (fun _ h => h) hN hmo kmo (by decide) rfl (r_isGood1 l g hN hB.2.1 mo hmo kmo x2708 (by omega) (by omega) ex2708) q_cX12_130 q_dX12_isGood (by decide) rfl rfl hl.1 rfl (Nat.le_of_ble_eq_true rfl) dX12_command_49 (fun y2720 H locs f2719 ry2720 h2721 hF hB => ?_)
          obtain ⟨rfl, qy2720⟩ := h2721
          subst qy2720
          refine q_ifne (tgt := 56) cx ⟨by decide, by decide⟩ dX12_command_52 (by decide) (fun c2722 => ?_) (fun c2722 => ?_)
          · exact absurd c2722 (by omega)
          · refine q_vret cx hr hlk hB dX12_command_55 ?_
            exact (Or.inr (Or.inr ⟨(q_isl ex2708 (by omega)), (q_isu ex2708 (by omega))⟩))
      · exact absurd c2709 (by omega)
