set_option maxHeartbeats 4000000 in
set_option maxRecDepth 100000 in
theorem r_runScript (l : Launch) (g : q_G) {K : Nat → Nat} {L : List Nat} (hN : L.Nodup) {f : Nat → va_E} (hT : q_Ty g K L f) (mo : Nat) (hmo : mo ∈ L) (kmo : K mo = 12) (sr : Nat) (hsr : sr ∈ L) (ksr : K sr = 151) (nm : Nat) (hnm : nm ∈ L) (knm : K nm = 156) (bu : Nat) (hbu : bu ∈ L) (kbu : K bu = 150) (cs : Nat) (hcs : cs ∈ L) (kcs : K cs = 161) (c1 : Nat) (hc1 : c1 ∈ L) (kc1 : K c1 = 162) (c2 : Nat) (hc2 : c2 ∈ L) (kc2 : K c2 = 163) (c3 : Nat) (hc3 : c3 ∈ L) (kc3 : K c3 = 164) (bg : Nat) (hbg : bg ∈ L) (kbg : K bg = 165) (lp : Nat) (hlp : lp ∈ L) (klp : K lp = 166) (hp : Nat) (hhp : hp ∈ L) (khp : K hp = 159) (dy : Nat) (hdy : dy ∈ L) (kdy : K dy = 160) (as : Nat) (has : as ∈ L) (kas : K as = 153) (pa : Nat) (hpa : pa ∈ L) (kpa : K pa = 155) (xt : Int) (lxt : 0 ≤ xt) (uxt : xt ≤ 9999) (xm : Int) (lxm : 0 ≤ xm) (uxm : xm ≤ 60) (xc : Int) (lxc : 0 ≤ xc) (uxc : xc ≤ 10) (hf0 : q_is (q_z f sr 3) xt) (hf1 : q_is (q_z f sr 4) xm) (hf2 : q_is (q_z f sr 0) xc) (hr0 : q_ir (q_r f mo 13) sr) (hr1 : q_ir (q_r f mo 18) nm) (hr2 : q_ir (q_r f mo 1) bu) (hr3 : q_ir (q_r f mo 29) cs) (hr4 : q_ir (q_r f mo 30) c1) (hr5 : q_ir (q_r f mo 31) c2) (hr6 : q_ir (q_r f mo 32) c3) (hr7 : q_ir (q_r f mo 33) bg) (hr8 : q_ir (q_r f mo 34) lp) (hr9 : q_ir (q_r f mo 24) hp) (hr10 : q_ir (q_r f mo 25) dy) (hr11 : q_ir (q_r f mo 15) as) (hr12 : q_ir (q_r f mo 17) pa) (hgr : q_gr f sr) (hpk : q_pk f mo pa) (hpc : q_pc f mo pa xc) : q_Ct l g K L yX12_runScript cX12_runScript 2 (some .int) 12 276 [.ref mo] f [(12, 0, 0), (12, 2, 12), (12, 21, 21), (12, 26, 28), (12, 35, 37), (151, 3, 4), (151, 9, 9), (151, 11, 89), (151, 92, 657), (153, 0, 657), (155, 0, 3947), (159, 0, 9), (160, 0, 9), (161, 0, 59), (162, 0, 58), (163, 0, 58), (164, 0, 58), (165, 0, 1), (166, 0, 1)] (q_Pi (fun (z : Int) (f1 : Nat → va_E) => 0 ≤ z ∧ z ≤ 40 ∧ 0 ≤ q_z f1 sr 3 ∧ q_z f1 sr 3 ≤ 9999 ∧ 0 ≤ q_z f1 sr 4 ∧ q_z f1 sr 4 ≤ 60 ∧ q_is (q_z f1 sr 0) xc ∧ q_is (q_z f1 mo 2) 0 ∧ q_gr f1 sr ∧ (q_pk f1 mo pa) ∧ (q_pc f1 mo pa xc))) := by
  refine q_ofb (by decide +kernel) hN hT (Nat.le_of_ble_eq_true rfl) ?_
  intro p e s m below meth c ls cx hr hlk hB hl
  have hl : lv_has ls 2 [(0, .ref mo)] := hl
  have J19 : ∀ (n : Nat) (f19 : Nat → va_E) (w19_mo_2 : Int) (lw19_mo_2 : 0 ≤ w19_mo_2) (uw19_mo_2 : w19_mo_2 ≤ 0) (w19_mo_8 : Int) (lw19_mo_8 : 0 ≤ w19_mo_8) (uw19_mo_8 : w19_mo_8 ≤ 0) (w19_mo_4 : Int) (lw19_mo_4 : 0 ≤ w19_mo_4) (uw19_mo_4 : w19_mo_4 ≤ 600) (hj_sr_3 : q_is (q_z f19 sr 3) xt) (hj_sr_4 : q_is (q_z f19 sr 4) xm) (hj_sr_0 : q_is (q_z f19 sr 0) xc) (hj_mo_2 : q_is (q_z f19 mo 2) w19_mo_2) (hj_mo_8 : q_is (q_z f19 mo 8) w19_mo_8) (hj_mo_4 : q_is (q_z f19 mo 4) w19_mo_4) (hq_mo_13 : q_ir (q_r f19 mo 13) sr) (hq_mo_18 : q_ir (q_r f19 mo 18) nm) (hq_mo_1 : q_ir (q_r f19 mo 1) bu) (hq_mo_29 : q_ir (q_r f19 mo 29) cs) (hq_mo_30 : q_ir (q_r f19 mo 30) c1) (hq_mo_31 : q_ir (q_r f19 mo 31) c2) (hq_mo_32 : q_ir (q_r f19 mo 32) c3) (hq_mo_33 : q_ir (q_r f19 mo 33) bg) (hq_mo_34 : q_ir (q_r f19 mo 34) lp) (hq_mo_24 : q_ir (q_r f19 mo 24) hp) (hq_mo_25 : q_ir (q_r f19 mo 25) dy) (hq_mo_15 : q_ir (q_r f19 mo 15) as) (hq_mo_17 : q_ir (q_r f19 mo 17) pa) (hgr19 : q_gr f19 sr) (hpc19 : q_pc f19 mo pa xc) (hpk19 : q_pk f19 mo pa) (hsc19 : q_sc f19 mo cs c1 c2) (hmu : (Int.toNat (601 - w19_mo_4)) < n) (H : Heap) (locs : List Loc) (hB : q_B g K L (fun q => q ∈ L) [(12, 0, 0), (12, 2, 12), (12, 21, 21), (12, 26, 28), (12, 35, 37), (151, 3, 4), (151, 9, 9), (151, 11, 89), (151, 92, 657), (153, 0, 657), (155, 0, 3947), (159, 0, 9), (160, 0, 9), (161, 0, 59), (162, 0, 58), (163, 0, 58), (164, 0, 58), (165, 0, 1), (166, 0, 1)] f f19 s H locs) (ls : Array Slot) (hl : lv_has ls 2 [(0, .ref mo)]), W p l e { frames := 12, cells := 0, slots := 0, locals := 276 } s m ([.ref mo] : List Value).toArray below meth c H locs 0 0 (MQ below (q_Q g K L [(12, 0, 0), (12, 2, 12), (12, 21, 21), (12, 26, 28), (12, 35, 37), (151, 3, 4), (151, 9, 9), (151, 11, 89), (151, 92, 657), (153, 0, 657), (155, 0, 3947), (159, 0, 9), (160, 0, 9), (161, 0, 59), (162, 0, 58), (163, 0, 58), (164, 0, 58), (165, 0, 1), (166, 0, 1)] f (q_Pi (fun (z : Int) (f1 : Nat → va_E) => 0 ≤ z ∧ z ≤ 40 ∧ 0 ≤ q_z f1 sr 3 ∧ q_z f1 sr 3 ≤ 9999 ∧ 0 ≤ q_z f1 sr 4 ∧ q_z f1 sr 4 ≤ 60 ∧ q_is (q_z f1 sr 0) xc ∧ q_is (q_z f1 mo 2) 0 ∧ q_gr f1 sr ∧ (q_pk f1 mo pa) ∧ (q_pc f1 mo pa xc)))) ([.ref mo] : List Value).toArray s 0 0 (fun q => q ∈ L)) (F0 m 19 ls []) := by
    intro n
    induction n with
    | zero =>
      intro f19 w19_mo_2 lw19_mo_2 uw19_mo_2 w19_mo_8 lw19_mo_8 uw19_mo_8 w19_mo_4 lw19_mo_4 uw19_mo_4 hj_sr_3 hj_sr_4 hj_sr_0 hj_mo_2 hj_mo_8 hj_mo_4 hq_mo_13 hq_mo_18 hq_mo_1 hq_mo_29 hq_mo_30 hq_mo_31 hq_mo_32 hq_mo_33 hq_mo_34 hq_mo_24 hq_mo_25 hq_mo_15 hq_mo_17 hgr19 hpc19 hpk19 hsc19 hmu
      exact absurd hmu (Nat.not_lt_zero _)
    | succ n ih19 =>
      intro f19 w19_mo_2 lw19_mo_2 uw19_mo_2 w19_mo_8 lw19_mo_8 uw19_mo_8 w19_mo_4 lw19_mo_4 uw19_mo_4 hj_sr_3 hj_sr_4 hj_sr_0 hj_mo_2 hj_mo_8 hj_mo_4 hq_mo_13 hq_mo_18 hq_mo_1 hq_mo_29 hq_mo_30 hq_mo_31 hq_mo_32 hq_mo_33 hq_mo_34 hq_mo_24 hq_mo_25 hq_mo_15 hq_mo_17 hgr19 hpc19 hpk19 hsc19 hmu H locs hB ls hl
      refine q_ald_n cx dX12_runScript_19 rfl (lv_at hl 0 rfl) ?_
      refine q_cVi (As := []) (rest := []) cx hB (fun _ h => h) hN hmo kmo (by decide) rfl (r_isGood0 l g hN hB.2.1 mo hmo kmo (Eq.trans hj_mo_8 (by omega))) q_cX12_130 q_dX12_isGood (by decide) rfl rfl hl.1 rfl (Nat.le_of_ble_eq_true rfl) dX12_runScript_20 (fun y1429 H locs f1428 ry1429 h1430 hF hB => ?_)
      obtain ⟨rfl, qy1429⟩ := h1430
      subst qy1429
      refine q_ifeq (tgt := 63) cx ⟨by decide, by decide⟩ dX12_runScript_23 (by decide) (fun c1431 => ?_) (fun c1431 => ?_)
      · exact absurd c1431 (by omega)
      · refine q_ald_n cx dX12_runScript_26 rfl (lv_at hl 0 rfl) ?_
        obtain ⟨x1432, ex1432⟩ : ∃ zz, q_is (q_z f19 mo 6) zz := ⟨_, q_isr _⟩
        refine q_gX12_117 cx hB hmo kmo ex1432 dX12_runScript_27 (fun lb1433 ub1433 => ?_)
        refine q_ifeq (tgt := 63) cx ⟨by omega, by omega⟩ dX12_runScript_30 (by decide) (fun c1434 => ?_) (fun c1434 => ?_)
        · refine q_ald_n cx dX12_runScript_63 rfl (lv_at hl 0 rfl) ?_
          refine q_cVi (As := []) (rest := []) cx hB (fun _ h => h) hN hmo kmo (by decide) rfl (r_isGood0 l g hN hB.2.1 mo hmo kmo (Eq.trans hj_mo_8 (by omega))) q_cX12_130 q_dX12_isGood (by decide) rfl rfl hl.1 rfl (Nat.le_of_ble_eq_true rfl) dX12_runScript_64 (fun y1436 H locs f1435 ry1436 h1437 hF hB => ?_)
          obtain ⟨rfl, qy1436⟩ := h1437
          subst qy1436
          refine q_ifeq (tgt := 82) cx ⟨by decide, by decide⟩ dX12_runScript_67 (by decide) (fun c1438 => ?_) (fun c1438 => ?_)
          · exact absurd c1438 (by omega)
          · refine q_ald_n cx dX12_runScript_70 rfl (lv_at hl 0 rfl) ?_
            obtain ⟨x1439, ex1439⟩ : ∃ zz, q_is (q_z f19 mo 37) zz := ⟨_, q_isr _⟩
            refine q_gX12_488 cx hB hmo kmo ex1439 dX12_runScript_71 (fun lb1440 ub1440 => ?_)
            refine q_ifle (tgt := 82) cx ⟨by omega, by omega⟩ dX12_runScript_74 (by decide) (fun c1441 => ?_) (fun c1441 => ?_)
            · refine q_ald_n cx dX12_runScript_82 rfl (lv_at hl 0 rfl) ?_
              refine q_cVi (As := []) (rest := []) cx hB (fun _ h => h) hN hmo kmo (by decide) rfl (r_endsText0 l g hN hB.2.1 mo hmo kmo (Eq.trans hj_mo_8 (by omega))) q_cX12_253 q_dX12_endsText (by decide) rfl rfl hl.1 rfl (Nat.le_of_ble_eq_true rfl) dX12_runScript_83 (fun y1443 H locs f1442 ry1443 h1444 hF hB => ?_)
              obtain ⟨qy1443, z1445⟩ := h1444
              have z1446 : q_is (q_z f1442 sr 3) xt := Eq.trans (hF.z hsr (by rw [ksr]; rfl)) hj_sr_3
              have z1447 : q_is (q_z f1442 sr 4) xm := Eq.trans (hF.z hsr (by rw [ksr]; rfl)) hj_sr_4
              have z1448 : q_is (q_z f1442 sr 0) xc := Eq.trans (hF.z hsr (by rw [ksr]; rfl)) hj_sr_0
              have z1449 : q_is (q_z f1442 mo 2) w19_mo_2 := Eq.trans (hF.z hmo (by rw [kmo]; rfl)) hj_mo_2
              have z1450 : q_is (q_z f1442 mo 8) w19_mo_8 := Eq.trans (hF.z hmo (by rw [kmo]; rfl)) hj_mo_8
              have z1451 : q_is (q_z f1442 mo 4) w19_mo_4 := Eq.trans (hF.z hmo (by rw [kmo]; rfl)) hj_mo_4
              have z1452 : q_is (q_z f1442 mo 6) x1432 := Eq.trans (hF.z hmo (by rw [kmo]; rfl)) ex1432
              have z1453 : q_is (q_z f1442 mo 37) x1439 := Eq.trans (hF.z hmo (by rw [kmo]; rfl)) ex1439
              have z1454 : q_ir (q_r f1442 mo 13) sr := Eq.trans (hF.r hmo (by rw [kmo]; rfl)) hq_mo_13
              have z1455 : q_ir (q_r f1442 mo 18) nm := Eq.trans (hF.r hmo (by rw [kmo]; rfl)) hq_mo_18
              have z1456 : q_ir (q_r f1442 mo 1) bu := Eq.trans (hF.r hmo (by rw [kmo]; rfl)) hq_mo_1
              have z1457 : q_ir (q_r f1442 mo 29) cs := Eq.trans (hF.r hmo (by rw [kmo]; rfl)) hq_mo_29
              have z1458 : q_ir (q_r f1442 mo 30) c1 := Eq.trans (hF.r hmo (by rw [kmo]; rfl)) hq_mo_30
              have z1459 : q_ir (q_r f1442 mo 31) c2 := Eq.trans (hF.r hmo (by rw [kmo]; rfl)) hq_mo_31
              have z1460 : q_ir (q_r f1442 mo 32) c3 := Eq.trans (hF.r hmo (by rw [kmo]; rfl)) hq_mo_32
              have z1461 : q_ir (q_r f1442 mo 33) bg := Eq.trans (hF.r hmo (by rw [kmo]; rfl)) hq_mo_33
              have z1462 : q_ir (q_r f1442 mo 34) lp := Eq.trans (hF.r hmo (by rw [kmo]; rfl)) hq_mo_34
              have z1463 : q_ir (q_r f1442 mo 24) hp := Eq.trans (hF.r hmo (by rw [kmo]; rfl)) hq_mo_24
              have z1464 : q_ir (q_r f1442 mo 25) dy := Eq.trans (hF.r hmo (by rw [kmo]; rfl)) hq_mo_25
              have z1465 : q_ir (q_r f1442 mo 15) as := Eq.trans (hF.r hmo (by rw [kmo]; rfl)) hq_mo_15
              have z1466 : q_ir (q_r f1442 mo 17) pa := Eq.trans (hF.r hmo (by rw [kmo]; rfl)) hq_mo_17
              have g1467 : q_gr f1442 sr := q_gr_fr hgr19 (fun i9 _ => hF.z hsr (by rw [ksr]; rfl))
              have g1468 : q_pk f1442 mo pa := q_pk_tr hpk19 (hF.z hmo (by rw [kmo]; rfl)) (fun i9 => hF.z hpa (by rw [kpa]; rfl))
              have g1469 : q_pc f1442 mo pa xc := q_pc_tr hpc19 (hF.z hmo (by rw [kmo]; rfl)) (fun i9 => hF.z hpa (by rw [kpa]; rfl))
              have g1470 : q_sc f1442 mo cs c1 c2 := q_sc_tr hsc19 (hF.z hmo (by rw [kmo]; rfl)) (hF.z hmo (by rw [kmo]; rfl)) (hF.z hmo (by rw [kmo]; rfl)) (fun i9 => hF.z hcs (by rw [kcs]; rfl)) (fun i9 => hF.z hc1 (by rw [kc1]; rfl)) (fun i9 => hF.z hc2 (by rw [kc2]; rfl))
              subst qy1443
              refine q_ifne (tgt := 91) cx ⟨by decide, by decide⟩ dX12_runScript_86 (by decide) (fun c1471 => ?_) (fun c1471 => ?_)
              · refine q_ald_n cx dX12_runScript_91 rfl (lv_at hl 0 rfl) ?_
                refine q_cVv (As := []) (rest := []) cx hB (fun _ h => h) hN hmo kmo (by decide) rfl (r_laysAside l g hN hB.2.1 mo hmo kmo sr hsr ksr as has kas xt (by omega) (by omega) xm (by omega) (by omega) xc (by omega) (by omega) z1446 z1447 z1448 z1454 z1465 g1467) q_cX12_247 q_dX12_laysAside (by decide) rfl rfl hl.1 rfl (Nat.le_of_ble_eq_true rfl) dX12_runScript_92 (fun H locs f1472 h1474 hF hB => ?_)
                obtain ⟨lz1475, uz1475, z1476⟩ := h1474
                have z1477 : q_is (q_z f1472 sr 3) xt := Eq.trans (hF.z hsr (by rw [ksr]; rfl)) z1446
                have z1478 : q_is (q_z f1472 sr 4) xm := Eq.trans (hF.z hsr (by rw [ksr]; rfl)) z1447
                have z1479 : q_is (q_z f1472 sr 0) xc := Eq.trans (hF.z hsr (by rw [ksr]; rfl)) z1448
                have z1480 : q_is (q_z f1472 mo 2) w19_mo_2 := Eq.trans (hF.z hmo (by rw [kmo]; rfl)) z1449
                have z1481 : q_is (q_z f1472 mo 8) w19_mo_8 := Eq.trans (hF.z hmo (by rw [kmo]; rfl)) z1450
                have z1482 : q_is (q_z f1472 mo 4) w19_mo_4 := Eq.trans (hF.z hmo (by rw [kmo]; rfl)) z1451
                have z1483 : q_is (q_z f1472 mo 6) x1432 := Eq.trans (hF.z hmo (by rw [kmo]; rfl)) z1452
                have z1484 : q_is (q_z f1472 mo 37) x1439 := Eq.trans (hF.z hmo (by rw [kmo]; rfl)) z1453
                have z1485 : q_is (q_z f1472 mo 0) 0 := Eq.trans (hF.z hmo (by rw [kmo]; rfl)) z1445
                have z1486 : q_ir (q_r f1472 mo 13) sr := Eq.trans (hF.r hmo (by rw [kmo]; rfl)) z1454
                have z1487 : q_ir (q_r f1472 mo 18) nm := Eq.trans (hF.r hmo (by rw [kmo]; rfl)) z1455
                have z1488 : q_ir (q_r f1472 mo 1) bu := Eq.trans (hF.r hmo (by rw [kmo]; rfl)) z1456
                have z1489 : q_ir (q_r f1472 mo 29) cs := Eq.trans (hF.r hmo (by rw [kmo]; rfl)) z1457
                have z1490 : q_ir (q_r f1472 mo 30) c1 := Eq.trans (hF.r hmo (by rw [kmo]; rfl)) z1458
                have z1491 : q_ir (q_r f1472 mo 31) c2 := Eq.trans (hF.r hmo (by rw [kmo]; rfl)) z1459
                have z1492 : q_ir (q_r f1472 mo 32) c3 := Eq.trans (hF.r hmo (by rw [kmo]; rfl)) z1460
                have z1493 : q_ir (q_r f1472 mo 33) bg := Eq.trans (hF.r hmo (by rw [kmo]; rfl)) z1461
                have z1494 : q_ir (q_r f1472 mo 34) lp := Eq.trans (hF.r hmo (by rw [kmo]; rfl)) z1462
                have z1495 : q_ir (q_r f1472 mo 24) hp := Eq.trans (hF.r hmo (by rw [kmo]; rfl)) z1463
                have z1496 : q_ir (q_r f1472 mo 25) dy := Eq.trans (hF.r hmo (by rw [kmo]; rfl)) z1464
                have z1497 : q_ir (q_r f1472 mo 15) as := Eq.trans (hF.r hmo (by rw [kmo]; rfl)) z1465
                have z1498 : q_ir (q_r f1472 mo 17) pa := Eq.trans (hF.r hmo (by rw [kmo]; rfl)) z1466
                have g1499 : q_gr f1472 sr := q_gr_fr g1467 (fun i9 _ => hF.z hsr (by rw [ksr]; rfl))
                have g1500 : q_pk f1472 mo pa := q_pk_tr g1468 (hF.z hmo (by rw [kmo]; rfl)) (fun i9 => hF.z hpa (by rw [kpa]; rfl))
                have g1501 : q_pc f1472 mo pa xc := q_pc_tr g1469 (hF.z hmo (by rw [kmo]; rfl)) (fun i9 => hF.z hpa (by rw [kpa]; rfl))
                have g1502 : q_sc f1472 mo cs c1 c2 := q_sc_tr g1470 (hF.z hmo (by rw [kmo]; rfl)) (hF.z hmo (by rw [kmo]; rfl)) (hF.z hmo (by rw [kmo]; rfl)) (fun i9 => hF.z hcs (by rw [kcs]; rfl)) (fun i9 => hF.z hc1 (by rw [kc1]; rfl)) (fun i9 => hF.z hc2 (by rw [kc2]; rfl))
                obtain ⟨x1503, ex1503⟩ : ∃ zz, q_is (q_z f1472 as 2) zz := ⟨_, q_isr _⟩
                obtain ⟨lx1503, ux1503⟩ := q_isb ex1503 ⟨lz1475, uz1475⟩
                refine q_ald_n cx dX12_runScript_95 rfl (lv_at hl 0 rfl) ?_
                obtain ⟨x1504, ex1504⟩ : ∃ zz, q_is (q_z f1472 mo 35) zz := ⟨_, q_isr _⟩
                obtain ⟨lx1504, ux1504⟩ := q_isb ex1504 (q_fib hB.2.1 hmo kmo (by decide) rfl)
                refine q_cVi (As := []) (rest := []) cx hB (fun _ h => h) hN hmo kmo (by decide) rfl (r_runs l g hN hB.2.1 mo hmo kmo sr hsr ksr hp hhp khp dy hdy kdy cs hcs kcs c1 hc1 kc1 c2 hc2 kc2 c3 hc3 kc3 bg hbg kbg lp hlp klp xt (by omega) (by omega) xm (by omega) (by omega) xc (by omega) (by omega) x1504 (by omega) (by omega) z1477 z1478 z1479 ex1504 z1486 z1495 z1496 z1489 z1490 z1491 z1492 z1493 z1494 g1499 g1502) q_cX12_506 q_dX12_runs (by decide) rfl rfl hl.1 rfl (Nat.le_of_ble_eq_true rfl) dX12_runScript_96 (fun y1506 H locs f1505 ry1506 h1507 hF hB => ?_)
                obtain ⟨ly1506, uy1506, lz1508, uz1508, lz1509, uz1509, z1510, g1511⟩ := h1507
                have z1512 : q_is (q_z f1505 sr 0) xc := Eq.trans (hF.z hsr (by rw [ksr]; rfl)) z1479
                have z1513 : q_is (q_z f1505 mo 2) w19_mo_2 := Eq.trans (hF.z hmo (by rw [kmo]; rfl)) z1480
                have z1514 : q_is (q_z f1505 mo 8) w19_mo_8 := Eq.trans (hF.z hmo (by rw [kmo]; rfl)) z1481
                have z1515 : q_is (q_z f1505 mo 4) w19_mo_4 := Eq.trans (hF.z hmo (by rw [kmo]; rfl)) z1482
                have z1516 : q_is (q_z f1505 mo 6) x1432 := Eq.trans (hF.z hmo (by rw [kmo]; rfl)) z1483
                have z1517 : q_is (q_z f1505 mo 37) x1439 := Eq.trans (hF.z hmo (by rw [kmo]; rfl)) z1484
                have z1518 : q_is (q_z f1505 mo 0) 0 := Eq.trans (hF.z hmo (by rw [kmo]; rfl)) z1485
                have z1519 : q_is (q_z f1505 as 2) x1503 := Eq.trans (hF.z has (by rw [kas]; rfl)) ex1503
                have z1520 : q_is (q_z f1505 as 0) xc := Eq.trans (hF.z has (by rw [kas]; rfl)) z1476
                have z1521 : q_is (q_z f1505 mo 35) x1504 := Eq.trans (hF.z hmo (by rw [kmo]; rfl)) ex1504
                have z1522 : q_ir (q_r f1505 mo 13) sr := Eq.trans (hF.r hmo (by rw [kmo]; rfl)) z1486
                have z1523 : q_ir (q_r f1505 mo 18) nm := Eq.trans (hF.r hmo (by rw [kmo]; rfl)) z1487
                have z1524 : q_ir (q_r f1505 mo 1) bu := Eq.trans (hF.r hmo (by rw [kmo]; rfl)) z1488
                have z1525 : q_ir (q_r f1505 mo 29) cs := Eq.trans (hF.r hmo (by rw [kmo]; rfl)) z1489
                have z1526 : q_ir (q_r f1505 mo 30) c1 := Eq.trans (hF.r hmo (by rw [kmo]; rfl)) z1490
                have z1527 : q_ir (q_r f1505 mo 31) c2 := Eq.trans (hF.r hmo (by rw [kmo]; rfl)) z1491
                have z1528 : q_ir (q_r f1505 mo 32) c3 := Eq.trans (hF.r hmo (by rw [kmo]; rfl)) z1492
                have z1529 : q_ir (q_r f1505 mo 33) bg := Eq.trans (hF.r hmo (by rw [kmo]; rfl)) z1493
                have z1530 : q_ir (q_r f1505 mo 34) lp := Eq.trans (hF.r hmo (by rw [kmo]; rfl)) z1494
                have z1531 : q_ir (q_r f1505 mo 24) hp := Eq.trans (hF.r hmo (by rw [kmo]; rfl)) z1495
                have z1532 : q_ir (q_r f1505 mo 25) dy := Eq.trans (hF.r hmo (by rw [kmo]; rfl)) z1496
                have z1533 : q_ir (q_r f1505 mo 15) as := Eq.trans (hF.r hmo (by rw [kmo]; rfl)) z1497
                have z1534 : q_ir (q_r f1505 mo 17) pa := Eq.trans (hF.r hmo (by rw [kmo]; rfl)) z1498
                have g1535 : q_pk f1505 mo pa := q_pk_tr g1500 (hF.z hmo (by rw [kmo]; rfl)) (fun i9 => hF.z hpa (by rw [kpa]; rfl))
                have g1536 : q_pc f1505 mo pa xc := q_pc_tr g1501 (hF.z hmo (by rw [kmo]; rfl)) (fun i9 => hF.z hpa (by rw [kpa]; rfl))
                have g1537 : q_sc f1505 mo cs c1 c2 := q_sc_tr g1502 (hF.z hmo (by rw [kmo]; rfl)) (hF.z hmo (by rw [kmo]; rfl)) (hF.z hmo (by rw [kmo]; rfl)) (fun i9 => hF.z hcs (by rw [kcs]; rfl)) (fun i9 => hF.z hc1 (by rw [kc1]; rfl)) (fun i9 => hF.z hc2 (by rw [kc2]; rfl))
                obtain ⟨x1538, ex1538⟩ : ∃ zz, q_is (q_z f1505 sr 3) zz := ⟨_, q_isr _⟩
                obtain ⟨lx1538, ux1538⟩ := q_isb ex1538 ⟨lz1508, uz1508⟩
                obtain ⟨x1539, ex1539⟩ : ∃ zz, q_is (q_z f1505 sr 4) zz := ⟨_, q_isr _⟩
                obtain ⟨lx1539, ux1539⟩ := q_isb ex1539 ⟨lz1509, uz1509⟩
                refine lv_istore_n (lv' := [(1, .int (q_i y1506)), (0, .ref mo)]) cx.1 cx.2.1 dX12_runScript_99 rfl hl (by decide) rfl (fun ls hl => ?_)
                refine q_ald_n cx dX12_runScript_100 rfl (lv_at hl 1 rfl) ?_
                obtain ⟨x1540, ex1540⟩ : ∃ zz, q_is (q_z f1505 mo 21) zz := ⟨_, q_isr _⟩
                obtain ⟨lx1540, ux1540⟩ := q_isb ex1540 (q_fib hB.2.1 hmo kmo (by decide) rfl)
                by_cases c1541 : x1540 ≤ 5
                · refine q_cVv (As := []) (rest := []) cx hB (fun _ h => h) hN hmo kmo (by decide) rfl (r_keeps0 l g hN hB.2.1 mo hmo kmo as has kas pa hpa kpa x1503 (by omega) (by omega) x1540 (by omega) (by omega) xc (by omega) (by omega) z1519 ex1540 z1520 z1533 z1534 g1535 g1536) q_cX12_161 q_dX12_keeps (by decide) rfl rfl hl.1 rfl (Nat.le_of_ble_eq_true rfl) dX12_runScript_101 (fun H locs f1542 h1544 hF hB => ?_)
                  obtain ⟨g1545, g1546⟩ := h1544
                  have z1547 : q_is (q_z f1542 sr 0) xc := Eq.trans (hF.z hsr (by rw [ksr]; rfl)) z1510
                  have z1548 : q_is (q_z f1542 mo 2) w19_mo_2 := Eq.trans (hF.z hmo (by rw [kmo]; rfl)) z1513
                  have z1549 : q_is (q_z f1542 mo 8) w19_mo_8 := Eq.trans (hF.z hmo (by rw [kmo]; rfl)) z1514
                  have z1550 : q_is (q_z f1542 mo 4) w19_mo_4 := Eq.trans (hF.z hmo (by rw [kmo]; rfl)) z1515
                  have z1551 : q_is (q_z f1542 mo 6) x1432 := Eq.trans (hF.z hmo (by rw [kmo]; rfl)) z1516
                  have z1552 : q_is (q_z f1542 mo 37) x1439 := Eq.trans (hF.z hmo (by rw [kmo]; rfl)) z1517
                  have z1553 : q_is (q_z f1542 mo 0) 0 := Eq.trans (hF.z hmo (by rw [kmo]; rfl)) z1518
                  have z1554 : q_is (q_z f1542 as 2) x1503 := Eq.trans (hF.z has (by rw [kas]; rfl)) z1519
                  have z1555 : q_is (q_z f1542 as 0) xc := Eq.trans (hF.z has (by rw [kas]; rfl)) z1520
                  have z1556 : q_is (q_z f1542 mo 35) x1504 := Eq.trans (hF.z hmo (by rw [kmo]; rfl)) z1521
                  have z1557 : q_is (q_z f1542 sr 3) x1538 := Eq.trans (hF.z hsr (by rw [ksr]; rfl)) ex1538
                  have z1558 : q_is (q_z f1542 sr 4) x1539 := Eq.trans (hF.z hsr (by rw [ksr]; rfl)) ex1539
                  have z1559 : q_ir (q_r f1542 mo 13) sr := Eq.trans (hF.r hmo (by rw [kmo]; rfl)) z1522
                  have z1560 : q_ir (q_r f1542 mo 18) nm := Eq.trans (hF.r hmo (by rw [kmo]; rfl)) z1523
                  have z1561 : q_ir (q_r f1542 mo 1) bu := Eq.trans (hF.r hmo (by rw [kmo]; rfl)) z1524
                  have z1562 : q_ir (q_r f1542 mo 29) cs := Eq.trans (hF.r hmo (by rw [kmo]; rfl)) z1525
                  have z1563 : q_ir (q_r f1542 mo 30) c1 := Eq.trans (hF.r hmo (by rw [kmo]; rfl)) z1526
                  have z1564 : q_ir (q_r f1542 mo 31) c2 := Eq.trans (hF.r hmo (by rw [kmo]; rfl)) z1527
                  have z1565 : q_ir (q_r f1542 mo 32) c3 := Eq.trans (hF.r hmo (by rw [kmo]; rfl)) z1528
                  have z1566 : q_ir (q_r f1542 mo 33) bg := Eq.trans (hF.r hmo (by rw [kmo]; rfl)) z1529
                  have z1567 : q_ir (q_r f1542 mo 34) lp := Eq.trans (hF.r hmo (by rw [kmo]; rfl)) z1530
                  have z1568 : q_ir (q_r f1542 mo 24) hp := Eq.trans (hF.r hmo (by rw [kmo]; rfl)) z1531
                  have z1569 : q_ir (q_r f1542 mo 25) dy := Eq.trans (hF.r hmo (by rw [kmo]; rfl)) z1532
                  have z1570 : q_ir (q_r f1542 mo 15) as := Eq.trans (hF.r hmo (by rw [kmo]; rfl)) z1533
                  have z1571 : q_ir (q_r f1542 mo 17) pa := Eq.trans (hF.r hmo (by rw [kmo]; rfl)) z1534
                  have g1572 : q_gr f1542 sr := q_gr_fr g1511 (fun i9 _ => hF.z hsr (by rw [ksr]; rfl))
                  have g1573 : q_sc f1542 mo cs c1 c2 := q_sc_tr g1537 (hF.z hmo (by rw [kmo]; rfl)) (hF.z hmo (by rw [kmo]; rfl)) (hF.z hmo (by rw [kmo]; rfl)) (fun i9 => hF.z hcs (by rw [kcs]; rfl)) (fun i9 => hF.z hc1 (by rw [kc1]; rfl)) (fun i9 => hF.z hc2 (by rw [kc2]; rfl))
                  refine q_ild_n cx dX12_runScript_104 rfl (lv_at hl 0 rfl) ?_
                  refine q_iret cx hr hlk hB dX12_runScript_105 ⟨by omega, by omega⟩ ?_
                  exact ⟨(by omega), (by omega), (q_isl z1557 (by omega)), (q_isu z1557 (by omega)), (q_isl z1558 (by omega)), (q_isu z1558 (by omega)), z1547, (Eq.trans z1548 (by omega)), g1572, g1545, g1546⟩
                · refine q_cVv (As := []) (rest := []) cx hB (fun _ h => h) hN hmo kmo (by decide) rfl (r_keeps6 l g hN hB.2.1 mo hmo kmo as has kas pa hpa kpa x1503 (by omega) (by omega) xc (by omega) (by omega) z1519 (Eq.trans ex1540 (by omega)) z1520 z1533 z1534 g1535 g1536) q_cX12_161 q_dX12_keeps (by decide) rfl rfl hl.1 rfl (Nat.le_of_ble_eq_true rfl) dX12_runScript_101 (fun H locs f1574 h1576 hF hB => ?_)
                  obtain ⟨g1577, g1578⟩ := h1576
                  have z1579 : q_is (q_z f1574 sr 0) xc := Eq.trans (hF.z hsr (by rw [ksr]; rfl)) z1510
                  have z1580 : q_is (q_z f1574 mo 2) w19_mo_2 := Eq.trans (hF.z hmo (by rw [kmo]; rfl)) z1513
                  have z1581 : q_is (q_z f1574 mo 8) w19_mo_8 := Eq.trans (hF.z hmo (by rw [kmo]; rfl)) z1514
                  have z1582 : q_is (q_z f1574 mo 4) w19_mo_4 := Eq.trans (hF.z hmo (by rw [kmo]; rfl)) z1515
                  have z1583 : q_is (q_z f1574 mo 6) x1432 := Eq.trans (hF.z hmo (by rw [kmo]; rfl)) z1516
                  have z1584 : q_is (q_z f1574 mo 37) x1439 := Eq.trans (hF.z hmo (by rw [kmo]; rfl)) z1517
                  have z1585 : q_is (q_z f1574 mo 0) 0 := Eq.trans (hF.z hmo (by rw [kmo]; rfl)) z1518
                  have z1586 : q_is (q_z f1574 as 2) x1503 := Eq.trans (hF.z has (by rw [kas]; rfl)) z1519
                  have z1587 : q_is (q_z f1574 as 0) xc := Eq.trans (hF.z has (by rw [kas]; rfl)) z1520
                  have z1588 : q_is (q_z f1574 mo 35) x1504 := Eq.trans (hF.z hmo (by rw [kmo]; rfl)) z1521
                  have z1589 : q_is (q_z f1574 sr 3) x1538 := Eq.trans (hF.z hsr (by rw [ksr]; rfl)) ex1538
                  have z1590 : q_is (q_z f1574 sr 4) x1539 := Eq.trans (hF.z hsr (by rw [ksr]; rfl)) ex1539
                  have z1591 : q_ir (q_r f1574 mo 13) sr := Eq.trans (hF.r hmo (by rw [kmo]; rfl)) z1522
                  have z1592 : q_ir (q_r f1574 mo 18) nm := Eq.trans (hF.r hmo (by rw [kmo]; rfl)) z1523
                  have z1593 : q_ir (q_r f1574 mo 1) bu := Eq.trans (hF.r hmo (by rw [kmo]; rfl)) z1524
                  have z1594 : q_ir (q_r f1574 mo 29) cs := Eq.trans (hF.r hmo (by rw [kmo]; rfl)) z1525
                  have z1595 : q_ir (q_r f1574 mo 30) c1 := Eq.trans (hF.r hmo (by rw [kmo]; rfl)) z1526
                  have z1596 : q_ir (q_r f1574 mo 31) c2 := Eq.trans (hF.r hmo (by rw [kmo]; rfl)) z1527
                  have z1597 : q_ir (q_r f1574 mo 32) c3 := Eq.trans (hF.r hmo (by rw [kmo]; rfl)) z1528
                  have z1598 : q_ir (q_r f1574 mo 33) bg := Eq.trans (hF.r hmo (by rw [kmo]; rfl)) z1529
                  have z1599 : q_ir (q_r f1574 mo 34) lp := Eq.trans (hF.r hmo (by rw [kmo]; rfl)) z1530
                  have z1600 : q_ir (q_r f1574 mo 24) hp := Eq.trans (hF.r hmo (by rw [kmo]; rfl)) z1531
                  have z1601 : q_ir (q_r f1574 mo 25) dy := Eq.trans (hF.r hmo (by rw [kmo]; rfl)) z1532
                  have z1602 : q_ir (q_r f1574 mo 15) as := Eq.trans (hF.r hmo (by rw [kmo]; rfl)) z1533
                  have z1603 : q_ir (q_r f1574 mo 17) pa := Eq.trans (hF.r hmo (by rw [kmo]; rfl)) z1534
                  have g1604 : q_gr f1574 sr := q_gr_fr g1511 (fun i9 _ => hF.z hsr (by rw [ksr]; rfl))
                  have g1605 : q_sc f1574 mo cs c1 c2 := q_sc_tr g1537 (hF.z hmo (by rw [kmo]; rfl)) (hF.z hmo (by rw [kmo]; rfl)) (hF.z hmo (by rw [kmo]; rfl)) (fun i9 => hF.z hcs (by rw [kcs]; rfl)) (fun i9 => hF.z hc1 (by rw [kc1]; rfl)) (fun i9 => hF.z hc2 (by rw [kc2]; rfl))
                  refine q_ild_n cx dX12_runScript_104 rfl (lv_at hl 0 rfl) ?_
                  refine q_iret cx hr hlk hB dX12_runScript_105 ⟨by omega, by omega⟩ ?_
                  exact ⟨(by omega), (by omega), (q_isl z1589 (by omega)), (q_isu z1589 (by omega)), (q_isl z1590 (by omega)), (q_isu z1590 (by omega)), z1579, (Eq.trans z1580 (by omega)), g1604, g1577, g1578⟩
              · exact absurd c1471 (by omega)
            · refine q_ald_n cx dX12_runScript_77 rfl (lv_at hl 0 rfl) ?_
              refine q_iconst cx dX12_runScript_78 ?_
              refine q_cVv (As := [.int (q_i 1)]) (rest := []) cx hB (fun _ h => h) hN hmo kmo (by decide) rfl (r_wrong0 l g hN hB.2.1 mo hmo kmo 1 (by decide) (by decide) (Eq.trans hj_mo_8 (by omega))) q_cX12_137 q_dX12_wrong (by decide) rfl rfl hl.1 rfl (Nat.le_of_ble_eq_true rfl) dX12_runScript_79 (fun H locs f1606 h1608 hF hB => ?_)
              obtain ⟨lz1609, uz1609⟩ := h1608
              have z1610 : q_is (q_z f1606 sr 3) xt := Eq.trans (hF.z hsr (by rw [ksr]; rfl)) hj_sr_3
              have z1611 : q_is (q_z f1606 sr 4) xm := Eq.trans (hF.z hsr (by rw [ksr]; rfl)) hj_sr_4
              have z1612 : q_is (q_z f1606 sr 0) xc := Eq.trans (hF.z hsr (by rw [ksr]; rfl)) hj_sr_0
              have z1613 : q_is (q_z f1606 mo 2) w19_mo_2 := Eq.trans (hF.z hmo (by rw [kmo]; rfl)) hj_mo_2
              have z1614 : q_is (q_z f1606 mo 4) w19_mo_4 := Eq.trans (hF.z hmo (by rw [kmo]; rfl)) hj_mo_4
              have z1615 : q_is (q_z f1606 mo 6) x1432 := Eq.trans (hF.z hmo (by rw [kmo]; rfl)) ex1432
              have z1616 : q_is (q_z f1606 mo 37) x1439 := Eq.trans (hF.z hmo (by rw [kmo]; rfl)) ex1439
              have z1617 : q_ir (q_r f1606 mo 13) sr := Eq.trans (hF.r hmo (by rw [kmo]; rfl)) hq_mo_13
              have z1618 : q_ir (q_r f1606 mo 18) nm := Eq.trans (hF.r hmo (by rw [kmo]; rfl)) hq_mo_18
              have z1619 : q_ir (q_r f1606 mo 1) bu := Eq.trans (hF.r hmo (by rw [kmo]; rfl)) hq_mo_1
              have z1620 : q_ir (q_r f1606 mo 29) cs := Eq.trans (hF.r hmo (by rw [kmo]; rfl)) hq_mo_29
              have z1621 : q_ir (q_r f1606 mo 30) c1 := Eq.trans (hF.r hmo (by rw [kmo]; rfl)) hq_mo_30
              have z1622 : q_ir (q_r f1606 mo 31) c2 := Eq.trans (hF.r hmo (by rw [kmo]; rfl)) hq_mo_31
              have z1623 : q_ir (q_r f1606 mo 32) c3 := Eq.trans (hF.r hmo (by rw [kmo]; rfl)) hq_mo_32
              have z1624 : q_ir (q_r f1606 mo 33) bg := Eq.trans (hF.r hmo (by rw [kmo]; rfl)) hq_mo_33
              have z1625 : q_ir (q_r f1606 mo 34) lp := Eq.trans (hF.r hmo (by rw [kmo]; rfl)) hq_mo_34
              have z1626 : q_ir (q_r f1606 mo 24) hp := Eq.trans (hF.r hmo (by rw [kmo]; rfl)) hq_mo_24
              have z1627 : q_ir (q_r f1606 mo 25) dy := Eq.trans (hF.r hmo (by rw [kmo]; rfl)) hq_mo_25
              have z1628 : q_ir (q_r f1606 mo 15) as := Eq.trans (hF.r hmo (by rw [kmo]; rfl)) hq_mo_15
              have z1629 : q_ir (q_r f1606 mo 17) pa := Eq.trans (hF.r hmo (by rw [kmo]; rfl)) hq_mo_17
              have g1630 : q_gr f1606 sr := q_gr_fr hgr19 (fun i9 _ => hF.z hsr (by rw [ksr]; rfl))
              have g1631 : q_pk f1606 mo pa := q_pk_tr hpk19 (hF.z hmo (by rw [kmo]; rfl)) (fun i9 => hF.z hpa (by rw [kpa]; rfl))
              have g1632 : q_pc f1606 mo pa xc := q_pc_tr hpc19 (hF.z hmo (by rw [kmo]; rfl)) (fun i9 => hF.z hpa (by rw [kpa]; rfl))
              have g1633 : q_sc f1606 mo cs c1 c2 := q_sc_tr hsc19 (hF.z hmo (by rw [kmo]; rfl)) (hF.z hmo (by rw [kmo]; rfl)) (hF.z hmo (by rw [kmo]; rfl)) (fun i9 => hF.z hcs (by rw [kcs]; rfl)) (fun i9 => hF.z hc1 (by rw [kc1]; rfl)) (fun i9 => hF.z hc2 (by rw [kc2]; rfl))
              obtain ⟨x1634, ex1634⟩ : ∃ zz, q_is (q_z f1606 mo 8) zz := ⟨_, q_isr _⟩
              obtain ⟨lx1634, ux1634⟩ := q_isb ex1634 ⟨lz1609, uz1609⟩
              refine q_ald_n cx dX12_runScript_82 rfl (lv_at hl 0 rfl) ?_
              refine q_cVi (As := []) (rest := []) cx hB (fun _ h => h) hN hmo kmo (by decide) rfl (r_endsText1 l g hN hB.2.1 mo hmo kmo x1634 (by omega) (by omega) ex1634) q_cX12_253 q_dX12_endsText (by decide) rfl rfl hl.1 rfl (Nat.le_of_ble_eq_true rfl) dX12_runScript_83 (fun y1636 H locs f1635 ry1636 h1637 hF hB => ?_)
              obtain ⟨qy1636, z1638⟩ := h1637
              have z1639 : q_is (q_z f1635 sr 3) xt := Eq.trans (hF.z hsr (by rw [ksr]; rfl)) z1610
              have z1640 : q_is (q_z f1635 sr 4) xm := Eq.trans (hF.z hsr (by rw [ksr]; rfl)) z1611
              have z1641 : q_is (q_z f1635 sr 0) xc := Eq.trans (hF.z hsr (by rw [ksr]; rfl)) z1612
              have z1642 : q_is (q_z f1635 mo 2) w19_mo_2 := Eq.trans (hF.z hmo (by rw [kmo]; rfl)) z1613
              have z1643 : q_is (q_z f1635 mo 4) w19_mo_4 := Eq.trans (hF.z hmo (by rw [kmo]; rfl)) z1614
              have z1644 : q_is (q_z f1635 mo 6) x1432 := Eq.trans (hF.z hmo (by rw [kmo]; rfl)) z1615
              have z1645 : q_is (q_z f1635 mo 37) x1439 := Eq.trans (hF.z hmo (by rw [kmo]; rfl)) z1616
              have z1646 : q_is (q_z f1635 mo 8) x1634 := Eq.trans (hF.z hmo (by rw [kmo]; rfl)) ex1634
              have z1647 : q_ir (q_r f1635 mo 13) sr := Eq.trans (hF.r hmo (by rw [kmo]; rfl)) z1617
              have z1648 : q_ir (q_r f1635 mo 18) nm := Eq.trans (hF.r hmo (by rw [kmo]; rfl)) z1618
              have z1649 : q_ir (q_r f1635 mo 1) bu := Eq.trans (hF.r hmo (by rw [kmo]; rfl)) z1619
              have z1650 : q_ir (q_r f1635 mo 29) cs := Eq.trans (hF.r hmo (by rw [kmo]; rfl)) z1620
              have z1651 : q_ir (q_r f1635 mo 30) c1 := Eq.trans (hF.r hmo (by rw [kmo]; rfl)) z1621
              have z1652 : q_ir (q_r f1635 mo 31) c2 := Eq.trans (hF.r hmo (by rw [kmo]; rfl)) z1622
              have z1653 : q_ir (q_r f1635 mo 32) c3 := Eq.trans (hF.r hmo (by rw [kmo]; rfl)) z1623
              have z1654 : q_ir (q_r f1635 mo 33) bg := Eq.trans (hF.r hmo (by rw [kmo]; rfl)) z1624
              have z1655 : q_ir (q_r f1635 mo 34) lp := Eq.trans (hF.r hmo (by rw [kmo]; rfl)) z1625
              have z1656 : q_ir (q_r f1635 mo 24) hp := Eq.trans (hF.r hmo (by rw [kmo]; rfl)) z1626
              have z1657 : q_ir (q_r f1635 mo 25) dy := Eq.trans (hF.r hmo (by rw [kmo]; rfl)) z1627
              have z1658 : q_ir (q_r f1635 mo 15) as := Eq.trans (hF.r hmo (by rw [kmo]; rfl)) z1628
              have z1659 : q_ir (q_r f1635 mo 17) pa := Eq.trans (hF.r hmo (by rw [kmo]; rfl)) z1629
              have g1660 : q_gr f1635 sr := q_gr_fr g1630 (fun i9 _ => hF.z hsr (by rw [ksr]; rfl))
              have g1661 : q_pk f1635 mo pa := q_pk_tr g1631 (hF.z hmo (by rw [kmo]; rfl)) (fun i9 => hF.z hpa (by rw [kpa]; rfl))
              have g1662 : q_pc f1635 mo pa xc := q_pc_tr g1632 (hF.z hmo (by rw [kmo]; rfl)) (fun i9 => hF.z hpa (by rw [kpa]; rfl))
              have g1663 : q_sc f1635 mo cs c1 c2 := q_sc_tr g1633 (hF.z hmo (by rw [kmo]; rfl)) (hF.z hmo (by rw [kmo]; rfl)) (hF.z hmo (by rw [kmo]; rfl)) (fun i9 => hF.z hcs (by rw [kcs]; rfl)) (fun i9 => hF.z hc1 (by rw [kc1]; rfl)) (fun i9 => hF.z hc2 (by rw [kc2]; rfl))
              subst qy1636
              refine q_ifne (tgt := 91) cx ⟨by decide, by decide⟩ dX12_runScript_86 (by decide) (fun c1664 => ?_) (fun c1664 => ?_)
              · exact absurd c1664 (by omega)
              · refine q_iconst cx dX12_runScript_89 ?_
                refine q_iret cx hr hlk hB dX12_runScript_90 ⟨by decide, by decide⟩ ?_
                exact ⟨(by decide), (by decide), (q_isl z1639 (by omega)), (q_isu z1639 (by omega)), (q_isl z1640 (by omega)), (q_isu z1640 (by omega)), z1641, (Eq.trans z1642 (by omega)), g1660, g1661, g1662⟩
        · refine q_ald_n cx dX12_runScript_33 rfl (lv_at hl 0 rfl) ?_
          obtain ⟨x1665, ex1665⟩ : ∃ zz, q_is (q_z f19 mo 37) zz := ⟨_, q_isr _⟩
          refine q_gX12_488 cx hB hmo kmo ex1665 dX12_runScript_34 (fun lb1666 ub1666 => ?_)
          refine lv_istore_n (lv' := [(1, .int (q_i x1665)), (0, .ref mo)]) cx.1 cx.2.1 dX12_runScript_37 rfl hl (by decide) rfl (fun ls hl => ?_)
          refine q_ald_n cx dX12_runScript_38 rfl (lv_at hl 1 rfl) ?_
          refine q_cVv (As := []) (rest := []) cx hB (fun _ h => h) hN hmo kmo (by decide) rfl (r_command l g hN hB.2.1 mo hmo kmo sr hsr ksr nm hnm knm bu hbu kbu cs hcs kcs c1 hc1 kc1 c2 hc2 kc2 c3 hc3 kc3 w19_mo_4 (by omega) (by omega) x1665 (by omega) (by omega) (Eq.trans hj_mo_8 (by omega)) hj_mo_4 ex1665 hq_mo_13 hq_mo_18 hq_mo_1 hq_mo_29 hq_mo_30 hq_mo_31 hq_mo_32 hsc19) q_cX12_500 q_dX12_command (by decide) rfl rfl hl.1 rfl (Nat.le_of_ble_eq_true rfl) dX12_runScript_39 (fun H locs f1667 h1669 hF hB => ?_)
          rcases h1669 with h1670 | h1671 | h1672
          · obtain ⟨z1673, z1674, t1675, t1676, t1677⟩ := h1670
            have z1678 : q_is (q_z f1667 sr 3) xt := Eq.trans (hF.z hsr (by rw [ksr]; rfl)) hj_sr_3
            have z1679 : q_is (q_z f1667 sr 4) xm := Eq.trans (hF.z hsr (by rw [ksr]; rfl)) hj_sr_4
            have z1680 : q_is (q_z f1667 sr 0) xc := Eq.trans (hF.z hsr (by rw [ksr]; rfl)) hj_sr_0
            have z1681 : q_is (q_z f1667 mo 2) w19_mo_2 := Eq.trans (hF.z hmo (by rw [kmo]; rfl)) hj_mo_2
            have z1682 : q_ir (q_r f1667 mo 13) sr := Eq.trans (hF.r hmo (by rw [kmo]; rfl)) hq_mo_13
            have z1683 : q_ir (q_r f1667 mo 18) nm := Eq.trans (hF.r hmo (by rw [kmo]; rfl)) hq_mo_18
            have z1684 : q_ir (q_r f1667 mo 1) bu := Eq.trans (hF.r hmo (by rw [kmo]; rfl)) hq_mo_1
            have z1685 : q_ir (q_r f1667 mo 29) cs := Eq.trans (hF.r hmo (by rw [kmo]; rfl)) hq_mo_29
            have z1686 : q_ir (q_r f1667 mo 30) c1 := Eq.trans (hF.r hmo (by rw [kmo]; rfl)) hq_mo_30
            have z1687 : q_ir (q_r f1667 mo 31) c2 := Eq.trans (hF.r hmo (by rw [kmo]; rfl)) hq_mo_31
            have z1688 : q_ir (q_r f1667 mo 32) c3 := Eq.trans (hF.r hmo (by rw [kmo]; rfl)) hq_mo_32
            have z1689 : q_ir (q_r f1667 mo 33) bg := Eq.trans (hF.r hmo (by rw [kmo]; rfl)) hq_mo_33
            have z1690 : q_ir (q_r f1667 mo 34) lp := Eq.trans (hF.r hmo (by rw [kmo]; rfl)) hq_mo_34
            have z1691 : q_ir (q_r f1667 mo 24) hp := Eq.trans (hF.r hmo (by rw [kmo]; rfl)) hq_mo_24
            have z1692 : q_ir (q_r f1667 mo 25) dy := Eq.trans (hF.r hmo (by rw [kmo]; rfl)) hq_mo_25
            have z1693 : q_ir (q_r f1667 mo 15) as := Eq.trans (hF.r hmo (by rw [kmo]; rfl)) hq_mo_15
            have z1694 : q_ir (q_r f1667 mo 17) pa := Eq.trans (hF.r hmo (by rw [kmo]; rfl)) hq_mo_17
            have g1695 : q_gr f1667 sr := q_gr_fr hgr19 (fun i9 _ => hF.z hsr (by rw [ksr]; rfl))
            have g1696 : q_pk f1667 mo pa := q_pk_tr hpk19 (hF.z hmo (by rw [kmo]; rfl)) (fun i9 => hF.z hpa (by rw [kpa]; rfl))
            have g1697 : q_pc f1667 mo pa xc := q_pc_tr hpc19 (hF.z hmo (by rw [kmo]; rfl)) (fun i9 => hF.z hpa (by rw [kpa]; rfl))
            obtain ⟨x1698, ex1698⟩ : ∃ zz, q_is (q_z f1667 mo 4) zz := ⟨_, q_isr _⟩
            obtain ⟨lx1698, ux1698⟩ := q_isb ex1698 (q_fib hB.2.1 hmo kmo (by decide) rfl)
            obtain ⟨x1699, ex1699⟩ : ∃ zz, q_is (q_z f1667 mo 6) zz := ⟨_, q_isr _⟩
            obtain ⟨lx1699, ux1699⟩ := q_isb ex1699 (q_fib hB.2.1 hmo kmo (by decide) rfl)
            replace t1675 := q_isl9 ex1698 t1675
            replace t1676 := k_po_si ex1699 ex1698 t1676
            refine q_ald_n cx dX12_runScript_42 rfl (lv_at hl 1 rfl) ?_
            refine q_gX12_488 cx hB hmo kmo z1674 dX12_runScript_43 (fun lb1700 ub1700 => ?_)
            refine q_ild_n cx dX12_runScript_46 rfl (lv_at hl 0 rfl) ?_
            refine q_icne (tgt := 56) cx ⟨by omega, by omega⟩ ⟨by omega, by omega⟩ dX12_runScript_47 (by decide) (fun c1701 => ?_) (fun c1701 => ?_)
            · exact absurd c1701 (by omega)
            · refine q_ald_n cx dX12_runScript_50 rfl (lv_at hl 1 rfl) ?_
              refine q_bipush cx dX12_runScript_51 rfl ?_
              refine q_cVv (As := [.int (q_i 59)]) (rest := []) cx hB (fun _ h => h) hN hmo kmo (by decide) rfl (r_mustSign0 l g hN hB.2.1 mo hmo kmo 59 (by decide) (by decide) bu hbu kbu x1698 (by omega) (by omega) z1673 ex1698 z1684) q_cX12_241 q_dX12_mustSign (by decide) rfl rfl hl.1 rfl (Nat.le_of_ble_eq_true rfl) dX12_runScript_53 (fun H locs f1702 h1704 hF hB => ?_)
              rcases h1704 with h1705 | h1706
              · obtain ⟨z1707, t1708, t1709, t1710⟩ := h1705
                have z1711 : q_is (q_z f1702 sr 3) xt := Eq.trans (hF.z hsr (by rw [ksr]; rfl)) z1678
                have z1712 : q_is (q_z f1702 sr 4) xm := Eq.trans (hF.z hsr (by rw [ksr]; rfl)) z1679
                have z1713 : q_is (q_z f1702 sr 0) xc := Eq.trans (hF.z hsr (by rw [ksr]; rfl)) z1680
                have z1714 : q_is (q_z f1702 mo 2) w19_mo_2 := Eq.trans (hF.z hmo (by rw [kmo]; rfl)) z1681
                have z1715 : q_is (q_z f1702 mo 37) x1665 := Eq.trans (hF.z hmo (by rw [kmo]; rfl)) z1674
                have z1716 : q_ir (q_r f1702 mo 13) sr := Eq.trans (hF.r hmo (by rw [kmo]; rfl)) z1682
                have z1717 : q_ir (q_r f1702 mo 18) nm := Eq.trans (hF.r hmo (by rw [kmo]; rfl)) z1683
                have z1718 : q_ir (q_r f1702 mo 1) bu := Eq.trans (hF.r hmo (by rw [kmo]; rfl)) z1684
                have z1719 : q_ir (q_r f1702 mo 29) cs := Eq.trans (hF.r hmo (by rw [kmo]; rfl)) z1685
                have z1720 : q_ir (q_r f1702 mo 30) c1 := Eq.trans (hF.r hmo (by rw [kmo]; rfl)) z1686
                have z1721 : q_ir (q_r f1702 mo 31) c2 := Eq.trans (hF.r hmo (by rw [kmo]; rfl)) z1687
                have z1722 : q_ir (q_r f1702 mo 32) c3 := Eq.trans (hF.r hmo (by rw [kmo]; rfl)) z1688
                have z1723 : q_ir (q_r f1702 mo 33) bg := Eq.trans (hF.r hmo (by rw [kmo]; rfl)) z1689
                have z1724 : q_ir (q_r f1702 mo 34) lp := Eq.trans (hF.r hmo (by rw [kmo]; rfl)) z1690
                have z1725 : q_ir (q_r f1702 mo 24) hp := Eq.trans (hF.r hmo (by rw [kmo]; rfl)) z1691
                have z1726 : q_ir (q_r f1702 mo 25) dy := Eq.trans (hF.r hmo (by rw [kmo]; rfl)) z1692
                have z1727 : q_ir (q_r f1702 mo 15) as := Eq.trans (hF.r hmo (by rw [kmo]; rfl)) z1693
                have z1728 : q_ir (q_r f1702 mo 17) pa := Eq.trans (hF.r hmo (by rw [kmo]; rfl)) z1694
                have g1729 : q_gr f1702 sr := q_gr_fr g1695 (fun i9 _ => hF.z hsr (by rw [ksr]; rfl))
                have g1730 : q_pk f1702 mo pa := q_pk_tr g1696 (hF.z hmo (by rw [kmo]; rfl)) (fun i9 => hF.z hpa (by rw [kpa]; rfl))
                have g1731 : q_pc f1702 mo pa xc := q_pc_tr g1697 (hF.z hmo (by rw [kmo]; rfl)) (fun i9 => hF.z hpa (by rw [kpa]; rfl))
                have g1732 : q_sc f1702 mo cs c1 c2 := q_sc_tr t1677 (hF.z hmo (by rw [kmo]; rfl)) (hF.z hmo (by rw [kmo]; rfl)) (hF.z hmo (by rw [kmo]; rfl)) (fun i9 => hF.z hcs (by rw [kcs]; rfl)) (fun i9 => hF.z hc1 (by rw [kc1]; rfl)) (fun i9 => hF.z hc2 (by rw [kc2]; rfl))
                obtain ⟨x1733, ex1733⟩ : ∃ zz, q_is (q_z f1702 mo 4) zz := ⟨_, q_isr _⟩
                obtain ⟨lx1733, ux1733⟩ := q_isb ex1733 (q_fib hB.2.1 hmo kmo (by decide) rfl)
                obtain ⟨x1734, ex1734⟩ : ∃ zz, q_is (q_z f1702 mo 6) zz := ⟨_, q_isr _⟩
                obtain ⟨lx1734, ux1734⟩ := q_isb ex1734 (q_fib hB.2.1 hmo kmo (by decide) rfl)
                replace t1708 := q_isl9 ex1733 t1708
                replace t1709 := k_po_si ex1734 ex1733 t1709
                have hpo9 := k_po_lt t1676 (k_ne0 ex1699 t1710)
                refine q_ald_n cx dX12_runScript_56 rfl (lv_at hl 1 rfl) ?_
                refine q_cVv (As := []) (rest := []) cx hB (fun _ h => h) hN hmo kmo (by decide) rfl (r_closes0 l g hN hB.2.1 mo hmo kmo bu hbu kbu cs hcs kcs c1 hc1 kc1 c2 hc2 kc2 x1733 (by omega) (by omega) x1665 (by omega) (by omega) z1707 ex1733 z1715 z1718 z1719 z1720 z1721 g1732) q_cX12_503 q_dX12_closes (by decide) rfl rfl hl.1 rfl (Nat.le_of_ble_eq_true rfl) dX12_runScript_57 (fun H locs f1735 h1737 hF hB => ?_)
                rcases h1737 with h1738 | h1739
                · obtain ⟨z1740, t1741, t1742⟩ := h1738
                  have z1743 : q_is (q_z f1735 sr 3) xt := Eq.trans (hF.z hsr (by rw [ksr]; rfl)) z1711
                  have z1744 : q_is (q_z f1735 sr 4) xm := Eq.trans (hF.z hsr (by rw [ksr]; rfl)) z1712
                  have z1745 : q_is (q_z f1735 sr 0) xc := Eq.trans (hF.z hsr (by rw [ksr]; rfl)) z1713
                  have z1746 : q_is (q_z f1735 mo 2) w19_mo_2 := Eq.trans (hF.z hmo (by rw [kmo]; rfl)) z1714
                  have z1747 : q_ir (q_r f1735 mo 13) sr := Eq.trans (hF.r hmo (by rw [kmo]; rfl)) z1716
                  have z1748 : q_ir (q_r f1735 mo 18) nm := Eq.trans (hF.r hmo (by rw [kmo]; rfl)) z1717
                  have z1749 : q_ir (q_r f1735 mo 1) bu := Eq.trans (hF.r hmo (by rw [kmo]; rfl)) z1718
                  have z1750 : q_ir (q_r f1735 mo 29) cs := Eq.trans (hF.r hmo (by rw [kmo]; rfl)) z1719
                  have z1751 : q_ir (q_r f1735 mo 30) c1 := Eq.trans (hF.r hmo (by rw [kmo]; rfl)) z1720
                  have z1752 : q_ir (q_r f1735 mo 31) c2 := Eq.trans (hF.r hmo (by rw [kmo]; rfl)) z1721
                  have z1753 : q_ir (q_r f1735 mo 32) c3 := Eq.trans (hF.r hmo (by rw [kmo]; rfl)) z1722
                  have z1754 : q_ir (q_r f1735 mo 33) bg := Eq.trans (hF.r hmo (by rw [kmo]; rfl)) z1723
                  have z1755 : q_ir (q_r f1735 mo 34) lp := Eq.trans (hF.r hmo (by rw [kmo]; rfl)) z1724
                  have z1756 : q_ir (q_r f1735 mo 24) hp := Eq.trans (hF.r hmo (by rw [kmo]; rfl)) z1725
                  have z1757 : q_ir (q_r f1735 mo 25) dy := Eq.trans (hF.r hmo (by rw [kmo]; rfl)) z1726
                  have z1758 : q_ir (q_r f1735 mo 15) as := Eq.trans (hF.r hmo (by rw [kmo]; rfl)) z1727
                  have z1759 : q_ir (q_r f1735 mo 17) pa := Eq.trans (hF.r hmo (by rw [kmo]; rfl)) z1728
                  have g1760 : q_gr f1735 sr := q_gr_fr g1729 (fun i9 _ => hF.z hsr (by rw [ksr]; rfl))
                  have g1761 : q_pk f1735 mo pa := q_pk_tr g1730 (hF.z hmo (by rw [kmo]; rfl)) (fun i9 => hF.z hpa (by rw [kpa]; rfl))
                  have g1762 : q_pc f1735 mo pa xc := q_pc_tr g1731 (hF.z hmo (by rw [kmo]; rfl)) (fun i9 => hF.z hpa (by rw [kpa]; rfl))
                  obtain ⟨x1763, ex1763⟩ : ∃ zz, q_is (q_z f1735 mo 4) zz := ⟨_, q_isr _⟩
                  obtain ⟨lx1763, ux1763⟩ := q_isb ex1763 (q_fib hB.2.1 hmo kmo (by decide) rfl)
                  obtain ⟨x1764, ex1764⟩ : ∃ zz, q_is (q_z f1735 mo 6) zz := ⟨_, q_isr _⟩
                  obtain ⟨lx1764, ux1764⟩ := q_isb ex1764 (q_fib hB.2.1 hmo kmo (by decide) rfl)
                  replace t1741 := q_isl9 ex1763 t1741
                  refine lv_goto (tgt := 19) cx.1 cx.2.1 dX12_runScript_60 (by decide) ?_
                  exact ih19 f1735 w19_mo_2 (by omega) (by omega) 0 (by decide) (by decide) x1763 (by omega) (by omega) z1743 z1744 z1745 z1746 z1740 ex1763 z1747 z1748 z1749 z1750 z1751 z1752 z1753 z1754 z1755 z1756 z1757 z1758 z1759 g1760 g1762 g1761 t1742 (by omega) H locs hB ls (lv_sub hl [1] rfl)
                · obtain ⟨lz1765, uz1765⟩ := h1739
                  have z1766 : q_is (q_z f1735 sr 3) xt := Eq.trans (hF.z hsr (by rw [ksr]; rfl)) z1711
                  have z1767 : q_is (q_z f1735 sr 4) xm := Eq.trans (hF.z hsr (by rw [ksr]; rfl)) z1712
                  have z1768 : q_is (q_z f1735 sr 0) xc := Eq.trans (hF.z hsr (by rw [ksr]; rfl)) z1713
                  have z1769 : q_is (q_z f1735 mo 2) w19_mo_2 := Eq.trans (hF.z hmo (by rw [kmo]; rfl)) z1714
                  have z1770 : q_ir (q_r f1735 mo 13) sr := Eq.trans (hF.r hmo (by rw [kmo]; rfl)) z1716
                  have z1771 : q_ir (q_r f1735 mo 18) nm := Eq.trans (hF.r hmo (by rw [kmo]; rfl)) z1717
                  have z1772 : q_ir (q_r f1735 mo 1) bu := Eq.trans (hF.r hmo (by rw [kmo]; rfl)) z1718
                  have z1773 : q_ir (q_r f1735 mo 29) cs := Eq.trans (hF.r hmo (by rw [kmo]; rfl)) z1719
                  have z1774 : q_ir (q_r f1735 mo 30) c1 := Eq.trans (hF.r hmo (by rw [kmo]; rfl)) z1720
                  have z1775 : q_ir (q_r f1735 mo 31) c2 := Eq.trans (hF.r hmo (by rw [kmo]; rfl)) z1721
                  have z1776 : q_ir (q_r f1735 mo 32) c3 := Eq.trans (hF.r hmo (by rw [kmo]; rfl)) z1722
                  have z1777 : q_ir (q_r f1735 mo 33) bg := Eq.trans (hF.r hmo (by rw [kmo]; rfl)) z1723
                  have z1778 : q_ir (q_r f1735 mo 34) lp := Eq.trans (hF.r hmo (by rw [kmo]; rfl)) z1724
                  have z1779 : q_ir (q_r f1735 mo 24) hp := Eq.trans (hF.r hmo (by rw [kmo]; rfl)) z1725
                  have z1780 : q_ir (q_r f1735 mo 25) dy := Eq.trans (hF.r hmo (by rw [kmo]; rfl)) z1726
                  have z1781 : q_ir (q_r f1735 mo 15) as := Eq.trans (hF.r hmo (by rw [kmo]; rfl)) z1727
                  have z1782 : q_ir (q_r f1735 mo 17) pa := Eq.trans (hF.r hmo (by rw [kmo]; rfl)) z1728
                  have g1783 : q_gr f1735 sr := q_gr_fr g1729 (fun i9 _ => hF.z hsr (by rw [ksr]; rfl))
                  have g1784 : q_pk f1735 mo pa := q_pk_tr g1730 (hF.z hmo (by rw [kmo]; rfl)) (fun i9 => hF.z hpa (by rw [kpa]; rfl))
                  have g1785 : q_pc f1735 mo pa xc := q_pc_tr g1731 (hF.z hmo (by rw [kmo]; rfl)) (fun i9 => hF.z hpa (by rw [kpa]; rfl))
                  obtain ⟨x1786, ex1786⟩ : ∃ zz, q_is (q_z f1735 mo 8) zz := ⟨_, q_isr _⟩
                  obtain ⟨lx1786, ux1786⟩ := q_isb ex1786 ⟨lz1765, uz1765⟩
                  obtain ⟨x1787, ex1787⟩ : ∃ zz, q_is (q_z f1735 mo 4) zz := ⟨_, q_isr _⟩
                  obtain ⟨lx1787, ux1787⟩ := q_isb ex1787 (q_fib hB.2.1 hmo kmo (by decide) rfl)
                  obtain ⟨x1788, ex1788⟩ : ∃ zz, q_is (q_z f1735 mo 6) zz := ⟨_, q_isr _⟩
                  obtain ⟨lx1788, ux1788⟩ := q_isb ex1788 (q_fib hB.2.1 hmo kmo (by decide) rfl)
                  refine lv_goto (tgt := 19) cx.1 cx.2.1 dX12_runScript_60 (by decide) ?_
                  refine q_ald_n cx dX12_runScript_19 rfl (lv_at hl 1 rfl) ?_
                  refine q_cVi (As := []) (rest := []) cx hB (fun _ h => h) hN hmo kmo (by decide) rfl (r_isGood1 l g hN hB.2.1 mo hmo kmo x1786 (by omega) (by omega) ex1786) q_cX12_130 q_dX12_isGood (by decide) rfl rfl hl.1 rfl (Nat.le_of_ble_eq_true rfl) dX12_runScript_20 (fun y1790 H locs f1789 ry1790 h1791 hF hB => ?_)
                  obtain ⟨rfl, qy1790⟩ := h1791
                  subst qy1790
                  refine q_ifeq (tgt := 63) cx ⟨by decide, by decide⟩ dX12_runScript_23 (by decide) (fun c1792 => ?_) (fun c1792 => ?_)
                  · refine q_ald_n cx dX12_runScript_63 rfl (lv_at hl 1 rfl) ?_
                    refine q_cVi (As := []) (rest := []) cx hB (fun _ h => h) hN hmo kmo (by decide) rfl (r_isGood1 l g hN hB.2.1 mo hmo kmo x1786 (by omega) (by omega) ex1786) q_cX12_130 q_dX12_isGood (by decide) rfl rfl hl.1 rfl (Nat.le_of_ble_eq_true rfl) dX12_runScript_64 (fun y1794 H locs f1793 ry1794 h1795 hF hB => ?_)
                    obtain ⟨rfl, qy1794⟩ := h1795
                    subst qy1794
                    refine q_ifeq (tgt := 82) cx ⟨by decide, by decide⟩ dX12_runScript_67 (by decide) (fun c1796 => ?_) (fun c1796 => ?_)
                    · refine q_ald_n cx dX12_runScript_82 rfl (lv_at hl 1 rfl) ?_
                      refine q_cVi (As := []) (rest := []) cx hB (fun _ h => h) hN hmo kmo (by decide) rfl (r_endsText1 l g hN hB.2.1 mo hmo kmo x1786 (by omega) (by omega) ex1786) q_cX12_253 q_dX12_endsText (by decide) rfl rfl hl.1 rfl (Nat.le_of_ble_eq_true rfl) dX12_runScript_83 (fun y1798 H locs f1797 ry1798 h1799 hF hB => ?_)
                      obtain ⟨qy1798, z1800⟩ := h1799
                      have z1801 : q_is (q_z f1797 sr 3) xt := Eq.trans (hF.z hsr (by rw [ksr]; rfl)) z1766
                      have z1802 : q_is (q_z f1797 sr 4) xm := Eq.trans (hF.z hsr (by rw [ksr]; rfl)) z1767
                      have z1803 : q_is (q_z f1797 sr 0) xc := Eq.trans (hF.z hsr (by rw [ksr]; rfl)) z1768
                      have z1804 : q_is (q_z f1797 mo 2) w19_mo_2 := Eq.trans (hF.z hmo (by rw [kmo]; rfl)) z1769
                      have z1805 : q_is (q_z f1797 mo 8) x1786 := Eq.trans (hF.z hmo (by rw [kmo]; rfl)) ex1786
                      have z1806 : q_is (q_z f1797 mo 4) x1787 := Eq.trans (hF.z hmo (by rw [kmo]; rfl)) ex1787
                      have z1807 : q_is (q_z f1797 mo 6) x1788 := Eq.trans (hF.z hmo (by rw [kmo]; rfl)) ex1788
                      have z1808 : q_ir (q_r f1797 mo 13) sr := Eq.trans (hF.r hmo (by rw [kmo]; rfl)) z1770
                      have z1809 : q_ir (q_r f1797 mo 18) nm := Eq.trans (hF.r hmo (by rw [kmo]; rfl)) z1771
                      have z1810 : q_ir (q_r f1797 mo 1) bu := Eq.trans (hF.r hmo (by rw [kmo]; rfl)) z1772
                      have z1811 : q_ir (q_r f1797 mo 29) cs := Eq.trans (hF.r hmo (by rw [kmo]; rfl)) z1773
                      have z1812 : q_ir (q_r f1797 mo 30) c1 := Eq.trans (hF.r hmo (by rw [kmo]; rfl)) z1774
                      have z1813 : q_ir (q_r f1797 mo 31) c2 := Eq.trans (hF.r hmo (by rw [kmo]; rfl)) z1775
                      have z1814 : q_ir (q_r f1797 mo 32) c3 := Eq.trans (hF.r hmo (by rw [kmo]; rfl)) z1776
                      have z1815 : q_ir (q_r f1797 mo 33) bg := Eq.trans (hF.r hmo (by rw [kmo]; rfl)) z1777
                      have z1816 : q_ir (q_r f1797 mo 34) lp := Eq.trans (hF.r hmo (by rw [kmo]; rfl)) z1778
                      have z1817 : q_ir (q_r f1797 mo 24) hp := Eq.trans (hF.r hmo (by rw [kmo]; rfl)) z1779
                      have z1818 : q_ir (q_r f1797 mo 25) dy := Eq.trans (hF.r hmo (by rw [kmo]; rfl)) z1780
                      have z1819 : q_ir (q_r f1797 mo 15) as := Eq.trans (hF.r hmo (by rw [kmo]; rfl)) z1781
                      have z1820 : q_ir (q_r f1797 mo 17) pa := Eq.trans (hF.r hmo (by rw [kmo]; rfl)) z1782
                      have g1821 : q_gr f1797 sr := q_gr_fr g1783 (fun i9 _ => hF.z hsr (by rw [ksr]; rfl))
                      have g1822 : q_pk f1797 mo pa := q_pk_tr g1784 (hF.z hmo (by rw [kmo]; rfl)) (fun i9 => hF.z hpa (by rw [kpa]; rfl))
                      have g1823 : q_pc f1797 mo pa xc := q_pc_tr g1785 (hF.z hmo (by rw [kmo]; rfl)) (fun i9 => hF.z hpa (by rw [kpa]; rfl))
                      subst qy1798
                      refine q_ifne (tgt := 91) cx ⟨by decide, by decide⟩ dX12_runScript_86 (by decide) (fun c1824 => ?_) (fun c1824 => ?_)
                      · exact absurd c1824 (by omega)
                      · refine q_iconst cx dX12_runScript_89 ?_
                        refine q_iret cx hr hlk hB dX12_runScript_90 ⟨by decide, by decide⟩ ?_
                        exact ⟨(by decide), (by decide), (q_isl z1801 (by omega)), (q_isu z1801 (by omega)), (q_isl z1802 (by omega)), (q_isu z1802 (by omega)), z1803, (Eq.trans z1804 (by omega)), g1821, g1822, g1823⟩
                    · exact absurd c1796 (by omega)
                  · exact absurd c1792 (by omega)
              · obtain ⟨lz1825, uz1825⟩ := h1706
                have z1826 : q_is (q_z f1702 sr 3) xt := Eq.trans (hF.z hsr (by rw [ksr]; rfl)) z1678
                have z1827 : q_is (q_z f1702 sr 4) xm := Eq.trans (hF.z hsr (by rw [ksr]; rfl)) z1679
                have z1828 : q_is (q_z f1702 sr 0) xc := Eq.trans (hF.z hsr (by rw [ksr]; rfl)) z1680
                have z1829 : q_is (q_z f1702 mo 2) w19_mo_2 := Eq.trans (hF.z hmo (by rw [kmo]; rfl)) z1681
                have z1830 : q_is (q_z f1702 mo 37) x1665 := Eq.trans (hF.z hmo (by rw [kmo]; rfl)) z1674
                have z1831 : q_ir (q_r f1702 mo 13) sr := Eq.trans (hF.r hmo (by rw [kmo]; rfl)) z1682
                have z1832 : q_ir (q_r f1702 mo 18) nm := Eq.trans (hF.r hmo (by rw [kmo]; rfl)) z1683
                have z1833 : q_ir (q_r f1702 mo 1) bu := Eq.trans (hF.r hmo (by rw [kmo]; rfl)) z1684
                have z1834 : q_ir (q_r f1702 mo 29) cs := Eq.trans (hF.r hmo (by rw [kmo]; rfl)) z1685
                have z1835 : q_ir (q_r f1702 mo 30) c1 := Eq.trans (hF.r hmo (by rw [kmo]; rfl)) z1686
                have z1836 : q_ir (q_r f1702 mo 31) c2 := Eq.trans (hF.r hmo (by rw [kmo]; rfl)) z1687
                have z1837 : q_ir (q_r f1702 mo 32) c3 := Eq.trans (hF.r hmo (by rw [kmo]; rfl)) z1688
                have z1838 : q_ir (q_r f1702 mo 33) bg := Eq.trans (hF.r hmo (by rw [kmo]; rfl)) z1689
                have z1839 : q_ir (q_r f1702 mo 34) lp := Eq.trans (hF.r hmo (by rw [kmo]; rfl)) z1690
                have z1840 : q_ir (q_r f1702 mo 24) hp := Eq.trans (hF.r hmo (by rw [kmo]; rfl)) z1691
                have z1841 : q_ir (q_r f1702 mo 25) dy := Eq.trans (hF.r hmo (by rw [kmo]; rfl)) z1692
                have z1842 : q_ir (q_r f1702 mo 15) as := Eq.trans (hF.r hmo (by rw [kmo]; rfl)) z1693
                have z1843 : q_ir (q_r f1702 mo 17) pa := Eq.trans (hF.r hmo (by rw [kmo]; rfl)) z1694
                have g1844 : q_gr f1702 sr := q_gr_fr g1695 (fun i9 _ => hF.z hsr (by rw [ksr]; rfl))
                have g1845 : q_pk f1702 mo pa := q_pk_tr g1696 (hF.z hmo (by rw [kmo]; rfl)) (fun i9 => hF.z hpa (by rw [kpa]; rfl))
                have g1846 : q_pc f1702 mo pa xc := q_pc_tr g1697 (hF.z hmo (by rw [kmo]; rfl)) (fun i9 => hF.z hpa (by rw [kpa]; rfl))
                have g1847 : q_sc f1702 mo cs c1 c2 := q_sc_tr t1677 (hF.z hmo (by rw [kmo]; rfl)) (hF.z hmo (by rw [kmo]; rfl)) (hF.z hmo (by rw [kmo]; rfl)) (fun i9 => hF.z hcs (by rw [kcs]; rfl)) (fun i9 => hF.z hc1 (by rw [kc1]; rfl)) (fun i9 => hF.z hc2 (by rw [kc2]; rfl))
                obtain ⟨x1848, ex1848⟩ : ∃ zz, q_is (q_z f1702 mo 8) zz := ⟨_, q_isr _⟩
                obtain ⟨lx1848, ux1848⟩ := q_isb ex1848 ⟨lz1825, uz1825⟩
                obtain ⟨x1849, ex1849⟩ : ∃ zz, q_is (q_z f1702 mo 4) zz := ⟨_, q_isr _⟩
                obtain ⟨lx1849, ux1849⟩ := q_isb ex1849 (q_fib hB.2.1 hmo kmo (by decide) rfl)
                obtain ⟨x1850, ex1850⟩ : ∃ zz, q_is (q_z f1702 mo 6) zz := ⟨_, q_isr _⟩
                obtain ⟨lx1850, ux1850⟩ := q_isb ex1850 (q_fib hB.2.1 hmo kmo (by decide) rfl)
                refine q_ald_n cx dX12_runScript_56 rfl (lv_at hl 1 rfl) ?_
                refine q_cVv (As := []) (rest := []) cx hB (fun _ h => h) hN hmo kmo (by decide) rfl (r_closes1 l g hN hB.2.1 mo hmo kmo x1848 (by omega) (by omega) ex1848) q_cX12_503 q_dX12_closes (by decide) rfl rfl hl.1 rfl (Nat.le_of_ble_eq_true rfl) dX12_runScript_57 (fun H locs f1851 h1853 hF hB => ?_)
                obtain rfl := h1853
                refine lv_goto (tgt := 19) cx.1 cx.2.1 dX12_runScript_60 (by decide) ?_
                refine q_ald_n cx dX12_runScript_19 rfl (lv_at hl 1 rfl) ?_
                refine q_cVi (As := []) (rest := []) cx hB (fun _ h => h) hN hmo kmo (by decide) rfl (r_isGood1 l g hN hB.2.1 mo hmo kmo x1848 (by omega) (by omega) ex1848) q_cX12_130 q_dX12_isGood (by decide) rfl rfl hl.1 rfl (Nat.le_of_ble_eq_true rfl) dX12_runScript_20 (fun y1855 H locs f1854 ry1855 h1856 hF hB => ?_)
                obtain ⟨rfl, qy1855⟩ := h1856
                subst qy1855
                refine q_ifeq (tgt := 63) cx ⟨by decide, by decide⟩ dX12_runScript_23 (by decide) (fun c1857 => ?_) (fun c1857 => ?_)
                · refine q_ald_n cx dX12_runScript_63 rfl (lv_at hl 1 rfl) ?_
                  refine q_cVi (As := []) (rest := []) cx hB (fun _ h => h) hN hmo kmo (by decide) rfl (r_isGood1 l g hN hB.2.1 mo hmo kmo x1848 (by omega) (by omega) ex1848) q_cX12_130 q_dX12_isGood (by decide) rfl rfl hl.1 rfl (Nat.le_of_ble_eq_true rfl) dX12_runScript_64 (fun y1859 H locs f1858 ry1859 h1860 hF hB => ?_)
                  obtain ⟨rfl, qy1859⟩ := h1860
                  subst qy1859
                  refine q_ifeq (tgt := 82) cx ⟨by decide, by decide⟩ dX12_runScript_67 (by decide) (fun c1861 => ?_) (fun c1861 => ?_)
                  · refine q_ald_n cx dX12_runScript_82 rfl (lv_at hl 1 rfl) ?_
                    refine q_cVi (As := []) (rest := []) cx hB (fun _ h => h) hN hmo kmo (by decide) rfl (r_endsText1 l g hN hB.2.1 mo hmo kmo x1848 (by omega) (by omega) ex1848) q_cX12_253 q_dX12_endsText (by decide) rfl rfl hl.1 rfl (Nat.le_of_ble_eq_true rfl) dX12_runScript_83 (fun y1863 H locs f1862 ry1863 h1864 hF hB => ?_)
                    obtain ⟨qy1863, z1865⟩ := h1864
                    have z1866 : q_is (q_z f1862 sr 3) xt := Eq.trans (hF.z hsr (by rw [ksr]; rfl)) z1826
                    have z1867 : q_is (q_z f1862 sr 4) xm := Eq.trans (hF.z hsr (by rw [ksr]; rfl)) z1827
                    have z1868 : q_is (q_z f1862 sr 0) xc := Eq.trans (hF.z hsr (by rw [ksr]; rfl)) z1828
                    have z1869 : q_is (q_z f1862 mo 2) w19_mo_2 := Eq.trans (hF.z hmo (by rw [kmo]; rfl)) z1829
                    have z1870 : q_is (q_z f1862 mo 37) x1665 := Eq.trans (hF.z hmo (by rw [kmo]; rfl)) z1830
                    have z1871 : q_is (q_z f1862 mo 8) x1848 := Eq.trans (hF.z hmo (by rw [kmo]; rfl)) ex1848
                    have z1872 : q_is (q_z f1862 mo 4) x1849 := Eq.trans (hF.z hmo (by rw [kmo]; rfl)) ex1849
                    have z1873 : q_is (q_z f1862 mo 6) x1850 := Eq.trans (hF.z hmo (by rw [kmo]; rfl)) ex1850
                    have z1874 : q_ir (q_r f1862 mo 13) sr := Eq.trans (hF.r hmo (by rw [kmo]; rfl)) z1831
                    have z1875 : q_ir (q_r f1862 mo 18) nm := Eq.trans (hF.r hmo (by rw [kmo]; rfl)) z1832
                    have z1876 : q_ir (q_r f1862 mo 1) bu := Eq.trans (hF.r hmo (by rw [kmo]; rfl)) z1833
                    have z1877 : q_ir (q_r f1862 mo 29) cs := Eq.trans (hF.r hmo (by rw [kmo]; rfl)) z1834
                    have z1878 : q_ir (q_r f1862 mo 30) c1 := Eq.trans (hF.r hmo (by rw [kmo]; rfl)) z1835
                    have z1879 : q_ir (q_r f1862 mo 31) c2 := Eq.trans (hF.r hmo (by rw [kmo]; rfl)) z1836
                    have z1880 : q_ir (q_r f1862 mo 32) c3 := Eq.trans (hF.r hmo (by rw [kmo]; rfl)) z1837
                    have z1881 : q_ir (q_r f1862 mo 33) bg := Eq.trans (hF.r hmo (by rw [kmo]; rfl)) z1838
                    have z1882 : q_ir (q_r f1862 mo 34) lp := Eq.trans (hF.r hmo (by rw [kmo]; rfl)) z1839
                    have z1883 : q_ir (q_r f1862 mo 24) hp := Eq.trans (hF.r hmo (by rw [kmo]; rfl)) z1840
                    have z1884 : q_ir (q_r f1862 mo 25) dy := Eq.trans (hF.r hmo (by rw [kmo]; rfl)) z1841
                    have z1885 : q_ir (q_r f1862 mo 15) as := Eq.trans (hF.r hmo (by rw [kmo]; rfl)) z1842
                    have z1886 : q_ir (q_r f1862 mo 17) pa := Eq.trans (hF.r hmo (by rw [kmo]; rfl)) z1843
                    have g1887 : q_gr f1862 sr := q_gr_fr g1844 (fun i9 _ => hF.z hsr (by rw [ksr]; rfl))
                    have g1888 : q_pk f1862 mo pa := q_pk_tr g1845 (hF.z hmo (by rw [kmo]; rfl)) (fun i9 => hF.z hpa (by rw [kpa]; rfl))
                    have g1889 : q_pc f1862 mo pa xc := q_pc_tr g1846 (hF.z hmo (by rw [kmo]; rfl)) (fun i9 => hF.z hpa (by rw [kpa]; rfl))
                    have g1890 : q_sc f1862 mo cs c1 c2 := q_sc_tr g1847 (hF.z hmo (by rw [kmo]; rfl)) (hF.z hmo (by rw [kmo]; rfl)) (hF.z hmo (by rw [kmo]; rfl)) (fun i9 => hF.z hcs (by rw [kcs]; rfl)) (fun i9 => hF.z hc1 (by rw [kc1]; rfl)) (fun i9 => hF.z hc2 (by rw [kc2]; rfl))
                    subst qy1863
                    refine q_ifne (tgt := 91) cx ⟨by decide, by decide⟩ dX12_runScript_86 (by decide) (fun c1891 => ?_) (fun c1891 => ?_)
                    · exact absurd c1891 (by omega)
                    · refine q_iconst cx dX12_runScript_89 ?_
                      refine q_iret cx hr hlk hB dX12_runScript_90 ⟨by decide, by decide⟩ ?_
                      exact ⟨(by decide), (by decide), (q_isl z1866 (by omega)), (q_isu z1866 (by omega)), (q_isl z1867 (by omega)), (q_isu z1867 (by omega)), z1868, (Eq.trans z1869 (by omega)), g1887, g1888, g1889⟩
                  · exact absurd c1861 (by omega)
                · exact absurd c1857 (by omega)
          · obtain ⟨z1892, z1893, t1894, t1895⟩ := h1671
            have z1896 : q_is (q_z f1667 sr 3) xt := Eq.trans (hF.z hsr (by rw [ksr]; rfl)) hj_sr_3
            have z1897 : q_is (q_z f1667 sr 4) xm := Eq.trans (hF.z hsr (by rw [ksr]; rfl)) hj_sr_4
            have z1898 : q_is (q_z f1667 sr 0) xc := Eq.trans (hF.z hsr (by rw [ksr]; rfl)) hj_sr_0
            have z1899 : q_is (q_z f1667 mo 2) w19_mo_2 := Eq.trans (hF.z hmo (by rw [kmo]; rfl)) hj_mo_2
            have z1900 : q_ir (q_r f1667 mo 13) sr := Eq.trans (hF.r hmo (by rw [kmo]; rfl)) hq_mo_13
            have z1901 : q_ir (q_r f1667 mo 18) nm := Eq.trans (hF.r hmo (by rw [kmo]; rfl)) hq_mo_18
            have z1902 : q_ir (q_r f1667 mo 1) bu := Eq.trans (hF.r hmo (by rw [kmo]; rfl)) hq_mo_1
            have z1903 : q_ir (q_r f1667 mo 29) cs := Eq.trans (hF.r hmo (by rw [kmo]; rfl)) hq_mo_29
            have z1904 : q_ir (q_r f1667 mo 30) c1 := Eq.trans (hF.r hmo (by rw [kmo]; rfl)) hq_mo_30
            have z1905 : q_ir (q_r f1667 mo 31) c2 := Eq.trans (hF.r hmo (by rw [kmo]; rfl)) hq_mo_31
            have z1906 : q_ir (q_r f1667 mo 32) c3 := Eq.trans (hF.r hmo (by rw [kmo]; rfl)) hq_mo_32
            have z1907 : q_ir (q_r f1667 mo 33) bg := Eq.trans (hF.r hmo (by rw [kmo]; rfl)) hq_mo_33
            have z1908 : q_ir (q_r f1667 mo 34) lp := Eq.trans (hF.r hmo (by rw [kmo]; rfl)) hq_mo_34
            have z1909 : q_ir (q_r f1667 mo 24) hp := Eq.trans (hF.r hmo (by rw [kmo]; rfl)) hq_mo_24
            have z1910 : q_ir (q_r f1667 mo 25) dy := Eq.trans (hF.r hmo (by rw [kmo]; rfl)) hq_mo_25
            have z1911 : q_ir (q_r f1667 mo 15) as := Eq.trans (hF.r hmo (by rw [kmo]; rfl)) hq_mo_15
            have z1912 : q_ir (q_r f1667 mo 17) pa := Eq.trans (hF.r hmo (by rw [kmo]; rfl)) hq_mo_17
            have g1913 : q_gr f1667 sr := q_gr_fr hgr19 (fun i9 _ => hF.z hsr (by rw [ksr]; rfl))
            have g1914 : q_pk f1667 mo pa := q_pk_tr hpk19 (hF.z hmo (by rw [kmo]; rfl)) (fun i9 => hF.z hpa (by rw [kpa]; rfl))
            have g1915 : q_pc f1667 mo pa xc := q_pc_tr hpc19 (hF.z hmo (by rw [kmo]; rfl)) (fun i9 => hF.z hpa (by rw [kpa]; rfl))
            obtain ⟨x1916, ex1916⟩ : ∃ zz, q_is (q_z f1667 mo 4) zz := ⟨_, q_isr _⟩
            obtain ⟨lx1916, ux1916⟩ := q_isb ex1916 (q_fib hB.2.1 hmo kmo (by decide) rfl)
            obtain ⟨x1917, ex1917⟩ : ∃ zz, q_is (q_z f1667 mo 6) zz := ⟨_, q_isr _⟩
            obtain ⟨lx1917, ux1917⟩ := q_isb ex1917 (q_fib hB.2.1 hmo kmo (by decide) rfl)
            replace t1894 := q_islt9 ex1916 t1894
            refine q_ald_n cx dX12_runScript_42 rfl (lv_at hl 1 rfl) ?_
            refine q_gX12_488 cx hB hmo kmo z1893 dX12_runScript_43 (fun lb1918 ub1918 => ?_)
            refine q_ild_n cx dX12_runScript_46 rfl (lv_at hl 0 rfl) ?_
            refine q_icne (tgt := 56) cx ⟨by omega, by omega⟩ ⟨by omega, by omega⟩ dX12_runScript_47 (by decide) (fun c1919 => ?_) (fun c1919 => ?_)
            · refine q_ald_n cx dX12_runScript_56 rfl (lv_at hl 1 rfl) ?_
              refine q_cVv (As := []) (rest := []) cx hB (fun _ h => h) hN hmo kmo (by decide) rfl (r_closes0 l g hN hB.2.1 mo hmo kmo bu hbu kbu cs hcs kcs c1 hc1 kc1 c2 hc2 kc2 x1916 (by omega) (by omega) (x1665 + 1) (by omega) (by omega) z1892 ex1916 z1893 z1902 z1903 z1904 z1905 t1895) q_cX12_503 q_dX12_closes (by decide) rfl rfl hl.1 rfl (Nat.le_of_ble_eq_true rfl) dX12_runScript_57 (fun H locs f1920 h1922 hF hB => ?_)
              rcases h1922 with h1923 | h1924
              · obtain ⟨z1925, t1926, t1927⟩ := h1923
                have z1928 : q_is (q_z f1920 sr 3) xt := Eq.trans (hF.z hsr (by rw [ksr]; rfl)) z1896
                have z1929 : q_is (q_z f1920 sr 4) xm := Eq.trans (hF.z hsr (by rw [ksr]; rfl)) z1897
                have z1930 : q_is (q_z f1920 sr 0) xc := Eq.trans (hF.z hsr (by rw [ksr]; rfl)) z1898
                have z1931 : q_is (q_z f1920 mo 2) w19_mo_2 := Eq.trans (hF.z hmo (by rw [kmo]; rfl)) z1899
                have z1932 : q_ir (q_r f1920 mo 13) sr := Eq.trans (hF.r hmo (by rw [kmo]; rfl)) z1900
                have z1933 : q_ir (q_r f1920 mo 18) nm := Eq.trans (hF.r hmo (by rw [kmo]; rfl)) z1901
                have z1934 : q_ir (q_r f1920 mo 1) bu := Eq.trans (hF.r hmo (by rw [kmo]; rfl)) z1902
                have z1935 : q_ir (q_r f1920 mo 29) cs := Eq.trans (hF.r hmo (by rw [kmo]; rfl)) z1903
                have z1936 : q_ir (q_r f1920 mo 30) c1 := Eq.trans (hF.r hmo (by rw [kmo]; rfl)) z1904
                have z1937 : q_ir (q_r f1920 mo 31) c2 := Eq.trans (hF.r hmo (by rw [kmo]; rfl)) z1905
                have z1938 : q_ir (q_r f1920 mo 32) c3 := Eq.trans (hF.r hmo (by rw [kmo]; rfl)) z1906
                have z1939 : q_ir (q_r f1920 mo 33) bg := Eq.trans (hF.r hmo (by rw [kmo]; rfl)) z1907
                have z1940 : q_ir (q_r f1920 mo 34) lp := Eq.trans (hF.r hmo (by rw [kmo]; rfl)) z1908
                have z1941 : q_ir (q_r f1920 mo 24) hp := Eq.trans (hF.r hmo (by rw [kmo]; rfl)) z1909
                have z1942 : q_ir (q_r f1920 mo 25) dy := Eq.trans (hF.r hmo (by rw [kmo]; rfl)) z1910
                have z1943 : q_ir (q_r f1920 mo 15) as := Eq.trans (hF.r hmo (by rw [kmo]; rfl)) z1911
                have z1944 : q_ir (q_r f1920 mo 17) pa := Eq.trans (hF.r hmo (by rw [kmo]; rfl)) z1912
                have g1945 : q_gr f1920 sr := q_gr_fr g1913 (fun i9 _ => hF.z hsr (by rw [ksr]; rfl))
                have g1946 : q_pk f1920 mo pa := q_pk_tr g1914 (hF.z hmo (by rw [kmo]; rfl)) (fun i9 => hF.z hpa (by rw [kpa]; rfl))
                have g1947 : q_pc f1920 mo pa xc := q_pc_tr g1915 (hF.z hmo (by rw [kmo]; rfl)) (fun i9 => hF.z hpa (by rw [kpa]; rfl))
                obtain ⟨x1948, ex1948⟩ : ∃ zz, q_is (q_z f1920 mo 4) zz := ⟨_, q_isr _⟩
                obtain ⟨lx1948, ux1948⟩ := q_isb ex1948 (q_fib hB.2.1 hmo kmo (by decide) rfl)
                obtain ⟨x1949, ex1949⟩ : ∃ zz, q_is (q_z f1920 mo 6) zz := ⟨_, q_isr _⟩
                obtain ⟨lx1949, ux1949⟩ := q_isb ex1949 (q_fib hB.2.1 hmo kmo (by decide) rfl)
                replace t1926 := q_isl9 ex1948 t1926
                refine lv_goto (tgt := 19) cx.1 cx.2.1 dX12_runScript_60 (by decide) ?_
                exact ih19 f1920 w19_mo_2 (by omega) (by omega) 0 (by decide) (by decide) x1948 (by omega) (by omega) z1928 z1929 z1930 z1931 z1925 ex1948 z1932 z1933 z1934 z1935 z1936 z1937 z1938 z1939 z1940 z1941 z1942 z1943 z1944 g1945 g1947 g1946 t1927 (by omega) H locs hB ls (lv_sub hl [1] rfl)
              · obtain ⟨lz1950, uz1950⟩ := h1924
                have z1951 : q_is (q_z f1920 sr 3) xt := Eq.trans (hF.z hsr (by rw [ksr]; rfl)) z1896
                have z1952 : q_is (q_z f1920 sr 4) xm := Eq.trans (hF.z hsr (by rw [ksr]; rfl)) z1897
                have z1953 : q_is (q_z f1920 sr 0) xc := Eq.trans (hF.z hsr (by rw [ksr]; rfl)) z1898
                have z1954 : q_is (q_z f1920 mo 2) w19_mo_2 := Eq.trans (hF.z hmo (by rw [kmo]; rfl)) z1899
                have z1955 : q_ir (q_r f1920 mo 13) sr := Eq.trans (hF.r hmo (by rw [kmo]; rfl)) z1900
                have z1956 : q_ir (q_r f1920 mo 18) nm := Eq.trans (hF.r hmo (by rw [kmo]; rfl)) z1901
                have z1957 : q_ir (q_r f1920 mo 1) bu := Eq.trans (hF.r hmo (by rw [kmo]; rfl)) z1902
                have z1958 : q_ir (q_r f1920 mo 29) cs := Eq.trans (hF.r hmo (by rw [kmo]; rfl)) z1903
                have z1959 : q_ir (q_r f1920 mo 30) c1 := Eq.trans (hF.r hmo (by rw [kmo]; rfl)) z1904
                have z1960 : q_ir (q_r f1920 mo 31) c2 := Eq.trans (hF.r hmo (by rw [kmo]; rfl)) z1905
                have z1961 : q_ir (q_r f1920 mo 32) c3 := Eq.trans (hF.r hmo (by rw [kmo]; rfl)) z1906
                have z1962 : q_ir (q_r f1920 mo 33) bg := Eq.trans (hF.r hmo (by rw [kmo]; rfl)) z1907
                have z1963 : q_ir (q_r f1920 mo 34) lp := Eq.trans (hF.r hmo (by rw [kmo]; rfl)) z1908
                have z1964 : q_ir (q_r f1920 mo 24) hp := Eq.trans (hF.r hmo (by rw [kmo]; rfl)) z1909
                have z1965 : q_ir (q_r f1920 mo 25) dy := Eq.trans (hF.r hmo (by rw [kmo]; rfl)) z1910
                have z1966 : q_ir (q_r f1920 mo 15) as := Eq.trans (hF.r hmo (by rw [kmo]; rfl)) z1911
                have z1967 : q_ir (q_r f1920 mo 17) pa := Eq.trans (hF.r hmo (by rw [kmo]; rfl)) z1912
                have g1968 : q_gr f1920 sr := q_gr_fr g1913 (fun i9 _ => hF.z hsr (by rw [ksr]; rfl))
                have g1969 : q_pk f1920 mo pa := q_pk_tr g1914 (hF.z hmo (by rw [kmo]; rfl)) (fun i9 => hF.z hpa (by rw [kpa]; rfl))
                have g1970 : q_pc f1920 mo pa xc := q_pc_tr g1915 (hF.z hmo (by rw [kmo]; rfl)) (fun i9 => hF.z hpa (by rw [kpa]; rfl))
                obtain ⟨x1971, ex1971⟩ : ∃ zz, q_is (q_z f1920 mo 8) zz := ⟨_, q_isr _⟩
                obtain ⟨lx1971, ux1971⟩ := q_isb ex1971 ⟨lz1950, uz1950⟩
                obtain ⟨x1972, ex1972⟩ : ∃ zz, q_is (q_z f1920 mo 4) zz := ⟨_, q_isr _⟩
                obtain ⟨lx1972, ux1972⟩ := q_isb ex1972 (q_fib hB.2.1 hmo kmo (by decide) rfl)
                obtain ⟨x1973, ex1973⟩ : ∃ zz, q_is (q_z f1920 mo 6) zz := ⟨_, q_isr _⟩
                obtain ⟨lx1973, ux1973⟩ := q_isb ex1973 (q_fib hB.2.1 hmo kmo (by decide) rfl)
                refine lv_goto (tgt := 19) cx.1 cx.2.1 dX12_runScript_60 (by decide) ?_
                refine q_ald_n cx dX12_runScript_19 rfl (lv_at hl 1 rfl) ?_
                refine q_cVi (As := []) (rest := []) cx hB (fun _ h => h) hN hmo kmo (by decide) rfl (r_isGood1 l g hN hB.2.1 mo hmo kmo x1971 (by omega) (by omega) ex1971) q_cX12_130 q_dX12_isGood (by decide) rfl rfl hl.1 rfl (Nat.le_of_ble_eq_true rfl) dX12_runScript_20 (fun y1975 H locs f1974 ry1975 h1976 hF hB => ?_)
                obtain ⟨rfl, qy1975⟩ := h1976
                subst qy1975
                refine q_ifeq (tgt := 63) cx ⟨by decide, by decide⟩ dX12_runScript_23 (by decide) (fun c1977 => ?_) (fun c1977 => ?_)
                · refine q_ald_n cx dX12_runScript_63 rfl (lv_at hl 1 rfl) ?_
                  refine q_cVi (As := []) (rest := []) cx hB (fun _ h => h) hN hmo kmo (by decide) rfl (r_isGood1 l g hN hB.2.1 mo hmo kmo x1971 (by omega) (by omega) ex1971) q_cX12_130 q_dX12_isGood (by decide) rfl rfl hl.1 rfl (Nat.le_of_ble_eq_true rfl) dX12_runScript_64 (fun y1979 H locs f1978 ry1979 h1980 hF hB => ?_)
                  obtain ⟨rfl, qy1979⟩ := h1980
                  subst qy1979
                  refine q_ifeq (tgt := 82) cx ⟨by decide, by decide⟩ dX12_runScript_67 (by decide) (fun c1981 => ?_) (fun c1981 => ?_)
                  · refine q_ald_n cx dX12_runScript_82 rfl (lv_at hl 1 rfl) ?_
                    refine q_cVi (As := []) (rest := []) cx hB (fun _ h => h) hN hmo kmo (by decide) rfl (r_endsText1 l g hN hB.2.1 mo hmo kmo x1971 (by omega) (by omega) ex1971) q_cX12_253 q_dX12_endsText (by decide) rfl rfl hl.1 rfl (Nat.le_of_ble_eq_true rfl) dX12_runScript_83 (fun y1983 H locs f1982 ry1983 h1984 hF hB => ?_)
                    obtain ⟨qy1983, z1985⟩ := h1984
                    have z1986 : q_is (q_z f1982 sr 3) xt := Eq.trans (hF.z hsr (by rw [ksr]; rfl)) z1951
                    have z1987 : q_is (q_z f1982 sr 4) xm := Eq.trans (hF.z hsr (by rw [ksr]; rfl)) z1952
                    have z1988 : q_is (q_z f1982 sr 0) xc := Eq.trans (hF.z hsr (by rw [ksr]; rfl)) z1953
                    have z1989 : q_is (q_z f1982 mo 2) w19_mo_2 := Eq.trans (hF.z hmo (by rw [kmo]; rfl)) z1954
                    have z1990 : q_is (q_z f1982 mo 8) x1971 := Eq.trans (hF.z hmo (by rw [kmo]; rfl)) ex1971
                    have z1991 : q_is (q_z f1982 mo 4) x1972 := Eq.trans (hF.z hmo (by rw [kmo]; rfl)) ex1972
                    have z1992 : q_is (q_z f1982 mo 6) x1973 := Eq.trans (hF.z hmo (by rw [kmo]; rfl)) ex1973
                    have z1993 : q_ir (q_r f1982 mo 13) sr := Eq.trans (hF.r hmo (by rw [kmo]; rfl)) z1955
                    have z1994 : q_ir (q_r f1982 mo 18) nm := Eq.trans (hF.r hmo (by rw [kmo]; rfl)) z1956
                    have z1995 : q_ir (q_r f1982 mo 1) bu := Eq.trans (hF.r hmo (by rw [kmo]; rfl)) z1957
                    have z1996 : q_ir (q_r f1982 mo 29) cs := Eq.trans (hF.r hmo (by rw [kmo]; rfl)) z1958
                    have z1997 : q_ir (q_r f1982 mo 30) c1 := Eq.trans (hF.r hmo (by rw [kmo]; rfl)) z1959
                    have z1998 : q_ir (q_r f1982 mo 31) c2 := Eq.trans (hF.r hmo (by rw [kmo]; rfl)) z1960
                    have z1999 : q_ir (q_r f1982 mo 32) c3 := Eq.trans (hF.r hmo (by rw [kmo]; rfl)) z1961
                    have z2000 : q_ir (q_r f1982 mo 33) bg := Eq.trans (hF.r hmo (by rw [kmo]; rfl)) z1962
                    have z2001 : q_ir (q_r f1982 mo 34) lp := Eq.trans (hF.r hmo (by rw [kmo]; rfl)) z1963
                    have z2002 : q_ir (q_r f1982 mo 24) hp := Eq.trans (hF.r hmo (by rw [kmo]; rfl)) z1964
                    have z2003 : q_ir (q_r f1982 mo 25) dy := Eq.trans (hF.r hmo (by rw [kmo]; rfl)) z1965
                    have z2004 : q_ir (q_r f1982 mo 15) as := Eq.trans (hF.r hmo (by rw [kmo]; rfl)) z1966
                    have z2005 : q_ir (q_r f1982 mo 17) pa := Eq.trans (hF.r hmo (by rw [kmo]; rfl)) z1967
                    have g2006 : q_gr f1982 sr := q_gr_fr g1968 (fun i9 _ => hF.z hsr (by rw [ksr]; rfl))
                    have g2007 : q_pk f1982 mo pa := q_pk_tr g1969 (hF.z hmo (by rw [kmo]; rfl)) (fun i9 => hF.z hpa (by rw [kpa]; rfl))
                    have g2008 : q_pc f1982 mo pa xc := q_pc_tr g1970 (hF.z hmo (by rw [kmo]; rfl)) (fun i9 => hF.z hpa (by rw [kpa]; rfl))
                    subst qy1983
                    refine q_ifne (tgt := 91) cx ⟨by decide, by decide⟩ dX12_runScript_86 (by decide) (fun c2009 => ?_) (fun c2009 => ?_)
                    · exact absurd c2009 (by omega)
                    · refine q_iconst cx dX12_runScript_89 ?_
                      refine q_iret cx hr hlk hB dX12_runScript_90 ⟨by decide, by decide⟩ ?_
                      exact ⟨(by decide), (by decide), (q_isl z1986 (by omega)), (q_isu z1986 (by omega)), (q_isl z1987 (by omega)), (q_isu z1987 (by omega)), z1988, (Eq.trans z1989 (by omega)), g2006, g2007, g2008⟩
                  · exact absurd c1981 (by omega)
                · exact absurd c1977 (by omega)
            · exact absurd c1919 (by omega)
          · obtain ⟨lz2010, uz2010⟩ := h1672
            have z2011 : q_is (q_z f1667 sr 3) xt := Eq.trans (hF.z hsr (by rw [ksr]; rfl)) hj_sr_3
            have z2012 : q_is (q_z f1667 sr 4) xm := Eq.trans (hF.z hsr (by rw [ksr]; rfl)) hj_sr_4
            have z2013 : q_is (q_z f1667 sr 0) xc := Eq.trans (hF.z hsr (by rw [ksr]; rfl)) hj_sr_0
            have z2014 : q_is (q_z f1667 mo 2) w19_mo_2 := Eq.trans (hF.z hmo (by rw [kmo]; rfl)) hj_mo_2
            have z2015 : q_ir (q_r f1667 mo 13) sr := Eq.trans (hF.r hmo (by rw [kmo]; rfl)) hq_mo_13
            have z2016 : q_ir (q_r f1667 mo 18) nm := Eq.trans (hF.r hmo (by rw [kmo]; rfl)) hq_mo_18
            have z2017 : q_ir (q_r f1667 mo 1) bu := Eq.trans (hF.r hmo (by rw [kmo]; rfl)) hq_mo_1
            have z2018 : q_ir (q_r f1667 mo 29) cs := Eq.trans (hF.r hmo (by rw [kmo]; rfl)) hq_mo_29
            have z2019 : q_ir (q_r f1667 mo 30) c1 := Eq.trans (hF.r hmo (by rw [kmo]; rfl)) hq_mo_30
            have z2020 : q_ir (q_r f1667 mo 31) c2 := Eq.trans (hF.r hmo (by rw [kmo]; rfl)) hq_mo_31
            have z2021 : q_ir (q_r f1667 mo 32) c3 := Eq.trans (hF.r hmo (by rw [kmo]; rfl)) hq_mo_32
            have z2022 : q_ir (q_r f1667 mo 33) bg := Eq.trans (hF.r hmo (by rw [kmo]; rfl)) hq_mo_33
            have z2023 : q_ir (q_r f1667 mo 34) lp := Eq.trans (hF.r hmo (by rw [kmo]; rfl)) hq_mo_34
            have z2024 : q_ir (q_r f1667 mo 24) hp := Eq.trans (hF.r hmo (by rw [kmo]; rfl)) hq_mo_24
            have z2025 : q_ir (q_r f1667 mo 25) dy := Eq.trans (hF.r hmo (by rw [kmo]; rfl)) hq_mo_25
            have z2026 : q_ir (q_r f1667 mo 15) as := Eq.trans (hF.r hmo (by rw [kmo]; rfl)) hq_mo_15
            have z2027 : q_ir (q_r f1667 mo 17) pa := Eq.trans (hF.r hmo (by rw [kmo]; rfl)) hq_mo_17
            have g2028 : q_gr f1667 sr := q_gr_fr hgr19 (fun i9 _ => hF.z hsr (by rw [ksr]; rfl))
            have g2029 : q_pk f1667 mo pa := q_pk_tr hpk19 (hF.z hmo (by rw [kmo]; rfl)) (fun i9 => hF.z hpa (by rw [kpa]; rfl))
            have g2030 : q_pc f1667 mo pa xc := q_pc_tr hpc19 (hF.z hmo (by rw [kmo]; rfl)) (fun i9 => hF.z hpa (by rw [kpa]; rfl))
            obtain ⟨x2031, ex2031⟩ : ∃ zz, q_is (q_z f1667 mo 8) zz := ⟨_, q_isr _⟩
            obtain ⟨lx2031, ux2031⟩ := q_isb ex2031 ⟨lz2010, uz2010⟩
            obtain ⟨x2032, ex2032⟩ : ∃ zz, q_is (q_z f1667 mo 4) zz := ⟨_, q_isr _⟩
            obtain ⟨lx2032, ux2032⟩ := q_isb ex2032 (q_fib hB.2.1 hmo kmo (by decide) rfl)
            obtain ⟨x2033, ex2033⟩ : ∃ zz, q_is (q_z f1667 mo 6) zz := ⟨_, q_isr _⟩
            obtain ⟨lx2033, ux2033⟩ := q_isb ex2033 (q_fib hB.2.1 hmo kmo (by decide) rfl)
            obtain ⟨x2034, ex2034⟩ : ∃ zz, q_is (q_z f1667 mo 37) zz := ⟨_, q_isr _⟩
            obtain ⟨lx2034, ux2034⟩ := q_isb ex2034 (q_fib hB.2.1 hmo kmo (by decide) rfl)
            refine q_ald_n cx dX12_runScript_42 rfl (lv_at hl 1 rfl) ?_
            refine q_gX12_488 cx hB hmo kmo ex2034 dX12_runScript_43 (fun lb2035 ub2035 => ?_)
            refine q_ild_n cx dX12_runScript_46 rfl (lv_at hl 0 rfl) ?_
            refine q_icne (tgt := 56) cx ⟨by omega, by omega⟩ ⟨by omega, by omega⟩ dX12_runScript_47 (by decide) (fun c2036 => ?_) (fun c2036 => ?_)
            · refine q_ald_n cx dX12_runScript_56 rfl (lv_at hl 1 rfl) ?_
              refine q_cVv (As := []) (rest := []) cx hB (fun _ h => h) hN hmo kmo (by decide) rfl (r_closes1 l g hN hB.2.1 mo hmo kmo x2031 (by omega) (by omega) ex2031) q_cX12_503 q_dX12_closes (by decide) rfl rfl hl.1 rfl (Nat.le_of_ble_eq_true rfl) dX12_runScript_57 (fun H locs f2037 h2039 hF hB => ?_)
              obtain rfl := h2039
              refine lv_goto (tgt := 19) cx.1 cx.2.1 dX12_runScript_60 (by decide) ?_
              refine q_ald_n cx dX12_runScript_19 rfl (lv_at hl 1 rfl) ?_
              refine q_cVi (As := []) (rest := []) cx hB (fun _ h => h) hN hmo kmo (by decide) rfl (r_isGood1 l g hN hB.2.1 mo hmo kmo x2031 (by omega) (by omega) ex2031) q_cX12_130 q_dX12_isGood (by decide) rfl rfl hl.1 rfl (Nat.le_of_ble_eq_true rfl) dX12_runScript_20 (fun y2041 H locs f2040 ry2041 h2042 hF hB => ?_)
              obtain ⟨rfl, qy2041⟩ := h2042
              subst qy2041
              refine q_ifeq (tgt := 63) cx ⟨by decide, by decide⟩ dX12_runScript_23 (by decide) (fun c2043 => ?_) (fun c2043 => ?_)
              · refine q_ald_n cx dX12_runScript_63 rfl (lv_at hl 1 rfl) ?_
                refine q_cVi (As := []) (rest := []) cx hB (fun _ h => h) hN hmo kmo (by decide) rfl (r_isGood1 l g hN hB.2.1 mo hmo kmo x2031 (by omega) (by omega) ex2031) q_cX12_130 q_dX12_isGood (by decide) rfl rfl hl.1 rfl (Nat.le_of_ble_eq_true rfl) dX12_runScript_64 (fun y2045 H locs f2044 ry2045 h2046 hF hB => ?_)
                obtain ⟨rfl, qy2045⟩ := h2046
                subst qy2045
                refine q_ifeq (tgt := 82) cx ⟨by decide, by decide⟩ dX12_runScript_67 (by decide) (fun c2047 => ?_) (fun c2047 => ?_)
                · refine q_ald_n cx dX12_runScript_82 rfl (lv_at hl 1 rfl) ?_
                  refine q_cVi (As := []) (rest := []) cx hB (fun _ h => h) hN hmo kmo (by decide) rfl (r_endsText1 l g hN hB.2.1 mo hmo kmo x2031 (by omega) (by omega) ex2031) q_cX12_253 q_dX12_endsText (by decide) rfl rfl hl.1 rfl (Nat.le_of_ble_eq_true rfl) dX12_runScript_83 (fun y2049 H locs f2048 ry2049 h2050 hF hB => ?_)
                  obtain ⟨qy2049, z2051⟩ := h2050
                  have z2052 : q_is (q_z f2048 sr 3) xt := Eq.trans (hF.z hsr (by rw [ksr]; rfl)) z2011
                  have z2053 : q_is (q_z f2048 sr 4) xm := Eq.trans (hF.z hsr (by rw [ksr]; rfl)) z2012
                  have z2054 : q_is (q_z f2048 sr 0) xc := Eq.trans (hF.z hsr (by rw [ksr]; rfl)) z2013
                  have z2055 : q_is (q_z f2048 mo 2) w19_mo_2 := Eq.trans (hF.z hmo (by rw [kmo]; rfl)) z2014
                  have z2056 : q_is (q_z f2048 mo 8) x2031 := Eq.trans (hF.z hmo (by rw [kmo]; rfl)) ex2031
                  have z2057 : q_is (q_z f2048 mo 4) x2032 := Eq.trans (hF.z hmo (by rw [kmo]; rfl)) ex2032
                  have z2058 : q_is (q_z f2048 mo 6) x2033 := Eq.trans (hF.z hmo (by rw [kmo]; rfl)) ex2033
                  have z2059 : q_is (q_z f2048 mo 37) x2034 := Eq.trans (hF.z hmo (by rw [kmo]; rfl)) ex2034
                  have z2060 : q_ir (q_r f2048 mo 13) sr := Eq.trans (hF.r hmo (by rw [kmo]; rfl)) z2015
                  have z2061 : q_ir (q_r f2048 mo 18) nm := Eq.trans (hF.r hmo (by rw [kmo]; rfl)) z2016
                  have z2062 : q_ir (q_r f2048 mo 1) bu := Eq.trans (hF.r hmo (by rw [kmo]; rfl)) z2017
                  have z2063 : q_ir (q_r f2048 mo 29) cs := Eq.trans (hF.r hmo (by rw [kmo]; rfl)) z2018
                  have z2064 : q_ir (q_r f2048 mo 30) c1 := Eq.trans (hF.r hmo (by rw [kmo]; rfl)) z2019
                  have z2065 : q_ir (q_r f2048 mo 31) c2 := Eq.trans (hF.r hmo (by rw [kmo]; rfl)) z2020
                  have z2066 : q_ir (q_r f2048 mo 32) c3 := Eq.trans (hF.r hmo (by rw [kmo]; rfl)) z2021
                  have z2067 : q_ir (q_r f2048 mo 33) bg := Eq.trans (hF.r hmo (by rw [kmo]; rfl)) z2022
                  have z2068 : q_ir (q_r f2048 mo 34) lp := Eq.trans (hF.r hmo (by rw [kmo]; rfl)) z2023
                  have z2069 : q_ir (q_r f2048 mo 24) hp := Eq.trans (hF.r hmo (by rw [kmo]; rfl)) z2024
                  have z2070 : q_ir (q_r f2048 mo 25) dy := Eq.trans (hF.r hmo (by rw [kmo]; rfl)) z2025
                  have z2071 : q_ir (q_r f2048 mo 15) as := Eq.trans (hF.r hmo (by rw [kmo]; rfl)) z2026
                  have z2072 : q_ir (q_r f2048 mo 17) pa := Eq.trans (hF.r hmo (by rw [kmo]; rfl)) z2027
                  have g2073 : q_gr f2048 sr := q_gr_fr g2028 (fun i9 _ => hF.z hsr (by rw [ksr]; rfl))
                  have g2074 : q_pk f2048 mo pa := q_pk_tr g2029 (hF.z hmo (by rw [kmo]; rfl)) (fun i9 => hF.z hpa (by rw [kpa]; rfl))
                  have g2075 : q_pc f2048 mo pa xc := q_pc_tr g2030 (hF.z hmo (by rw [kmo]; rfl)) (fun i9 => hF.z hpa (by rw [kpa]; rfl))
                  subst qy2049
                  refine q_ifne (tgt := 91) cx ⟨by decide, by decide⟩ dX12_runScript_86 (by decide) (fun c2076 => ?_) (fun c2076 => ?_)
                  · exact absurd c2076 (by omega)
                  · refine q_iconst cx dX12_runScript_89 ?_
                    refine q_iret cx hr hlk hB dX12_runScript_90 ⟨by decide, by decide⟩ ?_
                    exact ⟨(by decide), (by decide), (q_isl z2052 (by omega)), (q_isu z2052 (by omega)), (q_isl z2053 (by omega)), (q_isu z2053 (by omega)), z2054, (Eq.trans z2055 (by omega)), g2073, g2074, g2075⟩
                · exact absurd c2047 (by omega)
              · exact absurd c2043 (by omega)
            · refine q_ald_n cx dX12_runScript_50 rfl (lv_at hl 1 rfl) ?_
              refine q_bipush cx dX12_runScript_51 rfl ?_
              refine q_cVv (As := [.int (q_i 59)]) (rest := []) cx hB (fun _ h => h) hN hmo kmo (by decide) rfl (r_mustSign1 l g hN hB.2.1 mo hmo kmo 59 (by decide) (by decide) x2031 (by omega) (by omega) ex2031) q_cX12_241 q_dX12_mustSign (by decide) rfl rfl hl.1 rfl (Nat.le_of_ble_eq_true rfl) dX12_runScript_53 (fun H locs f2077 h2079 hF hB => ?_)
              obtain rfl := h2079
              refine q_ald_n cx dX12_runScript_56 rfl (lv_at hl 1 rfl) ?_
              refine q_cVv (As := []) (rest := []) cx hB (fun _ h => h) hN hmo kmo (by decide) rfl (r_closes1 l g hN hB.2.1 mo hmo kmo x2031 (by omega) (by omega) ex2031) q_cX12_503 q_dX12_closes (by decide) rfl rfl hl.1 rfl (Nat.le_of_ble_eq_true rfl) dX12_runScript_57 (fun H locs f2080 h2082 hF hB => ?_)
              obtain rfl := h2082
              refine lv_goto (tgt := 19) cx.1 cx.2.1 dX12_runScript_60 (by decide) ?_
              refine q_ald_n cx dX12_runScript_19 rfl (lv_at hl 1 rfl) ?_
              refine q_cVi (As := []) (rest := []) cx hB (fun _ h => h) hN hmo kmo (by decide) rfl (r_isGood1 l g hN hB.2.1 mo hmo kmo x2031 (by omega) (by omega) ex2031) q_cX12_130 q_dX12_isGood (by decide) rfl rfl hl.1 rfl (Nat.le_of_ble_eq_true rfl) dX12_runScript_20 (fun y2084 H locs f2083 ry2084 h2085 hF hB => ?_)
              obtain ⟨rfl, qy2084⟩ := h2085
              subst qy2084
              refine q_ifeq (tgt := 63) cx ⟨by decide, by decide⟩ dX12_runScript_23 (by decide) (fun c2086 => ?_) (fun c2086 => ?_)
              · refine q_ald_n cx dX12_runScript_63 rfl (lv_at hl 1 rfl) ?_
                refine q_cVi (As := []) (rest := []) cx hB (fun _ h => h) hN hmo kmo (by decide) rfl (r_isGood1 l g hN hB.2.1 mo hmo kmo x2031 (by omega) (by omega) ex2031) q_cX12_130 q_dX12_isGood (by decide) rfl rfl hl.1 rfl (Nat.le_of_ble_eq_true rfl) dX12_runScript_64 (fun y2088 H locs f2087 ry2088 h2089 hF hB => ?_)
                obtain ⟨rfl, qy2088⟩ := h2089
                subst qy2088
                refine q_ifeq (tgt := 82) cx ⟨by decide, by decide⟩ dX12_runScript_67 (by decide) (fun c2090 => ?_) (fun c2090 => ?_)
                · refine q_ald_n cx dX12_runScript_82 rfl (lv_at hl 1 rfl) ?_
                  refine q_cVi (As := []) (rest := []) cx hB (fun _ h => h) hN hmo kmo (by decide) rfl (r_endsText1 l g hN hB.2.1 mo hmo kmo x2031 (by omega) (by omega) ex2031) q_cX12_253 q_dX12_endsText (by decide) rfl rfl hl.1 rfl (Nat.le_of_ble_eq_true rfl) dX12_runScript_83 (fun y2092 H locs f2091 ry2092 h2093 hF hB => ?_)
                  obtain ⟨qy2092, z2094⟩ := h2093
                  have z2095 : q_is (q_z f2091 sr 3) xt := Eq.trans (hF.z hsr (by rw [ksr]; rfl)) z2011
                  have z2096 : q_is (q_z f2091 sr 4) xm := Eq.trans (hF.z hsr (by rw [ksr]; rfl)) z2012
                  have z2097 : q_is (q_z f2091 sr 0) xc := Eq.trans (hF.z hsr (by rw [ksr]; rfl)) z2013
                  have z2098 : q_is (q_z f2091 mo 2) w19_mo_2 := Eq.trans (hF.z hmo (by rw [kmo]; rfl)) z2014
                  have z2099 : q_is (q_z f2091 mo 8) x2031 := Eq.trans (hF.z hmo (by rw [kmo]; rfl)) ex2031
                  have z2100 : q_is (q_z f2091 mo 4) x2032 := Eq.trans (hF.z hmo (by rw [kmo]; rfl)) ex2032
                  have z2101 : q_is (q_z f2091 mo 6) x2033 := Eq.trans (hF.z hmo (by rw [kmo]; rfl)) ex2033
                  have z2102 : q_is (q_z f2091 mo 37) x2034 := Eq.trans (hF.z hmo (by rw [kmo]; rfl)) ex2034
                  have z2103 : q_ir (q_r f2091 mo 13) sr := Eq.trans (hF.r hmo (by rw [kmo]; rfl)) z2015
                  have z2104 : q_ir (q_r f2091 mo 18) nm := Eq.trans (hF.r hmo (by rw [kmo]; rfl)) z2016
                  have z2105 : q_ir (q_r f2091 mo 1) bu := Eq.trans (hF.r hmo (by rw [kmo]; rfl)) z2017
                  have z2106 : q_ir (q_r f2091 mo 29) cs := Eq.trans (hF.r hmo (by rw [kmo]; rfl)) z2018
                  have z2107 : q_ir (q_r f2091 mo 30) c1 := Eq.trans (hF.r hmo (by rw [kmo]; rfl)) z2019
                  have z2108 : q_ir (q_r f2091 mo 31) c2 := Eq.trans (hF.r hmo (by rw [kmo]; rfl)) z2020
                  have z2109 : q_ir (q_r f2091 mo 32) c3 := Eq.trans (hF.r hmo (by rw [kmo]; rfl)) z2021
                  have z2110 : q_ir (q_r f2091 mo 33) bg := Eq.trans (hF.r hmo (by rw [kmo]; rfl)) z2022
                  have z2111 : q_ir (q_r f2091 mo 34) lp := Eq.trans (hF.r hmo (by rw [kmo]; rfl)) z2023
                  have z2112 : q_ir (q_r f2091 mo 24) hp := Eq.trans (hF.r hmo (by rw [kmo]; rfl)) z2024
                  have z2113 : q_ir (q_r f2091 mo 25) dy := Eq.trans (hF.r hmo (by rw [kmo]; rfl)) z2025
                  have z2114 : q_ir (q_r f2091 mo 15) as := Eq.trans (hF.r hmo (by rw [kmo]; rfl)) z2026
                  have z2115 : q_ir (q_r f2091 mo 17) pa := Eq.trans (hF.r hmo (by rw [kmo]; rfl)) z2027
                  have g2116 : q_gr f2091 sr := q_gr_fr g2028 (fun i9 _ => hF.z hsr (by rw [ksr]; rfl))
                  have g2117 : q_pk f2091 mo pa := q_pk_tr g2029 (hF.z hmo (by rw [kmo]; rfl)) (fun i9 => hF.z hpa (by rw [kpa]; rfl))
                  have g2118 : q_pc f2091 mo pa xc := q_pc_tr g2030 (hF.z hmo (by rw [kmo]; rfl)) (fun i9 => hF.z hpa (by rw [kpa]; rfl))
                  subst qy2092
                  refine q_ifne (tgt := 91) cx ⟨by decide, by decide⟩ dX12_runScript_86 (by decide) (fun c2119 => ?_) (fun c2119 => ?_)
                  · exact absurd c2119 (by omega)
                  · refine q_iconst cx dX12_runScript_89 ?_
                    refine q_iret cx hr hlk hB dX12_runScript_90 ⟨by decide, by decide⟩ ?_
                    exact ⟨(by decide), (by decide), (q_isl z2095 (by omega)), (q_isu z2095 (by omega)), (q_isl z2096 (by omega)), (q_isu z2096 (by omega)), z2097, (Eq.trans z2098 (by omega)), g2116, g2117, g2118⟩
                · exact absurd c2090 (by omega)
              · exact absurd c2086 (by omega)
  obtain ⟨H, hH⟩ : ∃ H : Heap, H = s.heap := ⟨_, rfl⟩
  obtain ⟨locs, hlocs⟩ : ∃ z : List Loc, z = [] := ⟨_, rfl⟩
  rw [← hH, ← hlocs] at hB
  rw [← hH, ← hlocs]
  refine q_ald_n cx dX12_runScript_0 rfl (lv_at hl 0 rfl) ?_
  refine q_cVv (As := []) (rest := []) cx hB (fun _ h => h) hN hmo kmo (by decide) rfl (r_beginsText l g hN hB.2.1 mo hmo kmo bu hbu kbu hr2) q_cX12_244 q_dX12_beginsText (by decide) rfl rfl hl.1 rfl (Nat.le_of_ble_eq_true rfl) dX12_runScript_1 (fun H locs f2120 h2122 hF hB => ?_)
  obtain ⟨z2123, z2124⟩ := h2122
  have z2125 : q_is (q_z f2120 sr 3) xt := Eq.trans (hF.z hsr (by rw [ksr]; rfl)) hf0
  have z2126 : q_is (q_z f2120 sr 4) xm := Eq.trans (hF.z hsr (by rw [ksr]; rfl)) hf1
  have z2127 : q_is (q_z f2120 sr 0) xc := Eq.trans (hF.z hsr (by rw [ksr]; rfl)) hf2
  have z2128 : q_ir (q_r f2120 mo 13) sr := Eq.trans (hF.r hmo (by rw [kmo]; rfl)) hr0
  have z2129 : q_ir (q_r f2120 mo 18) nm := Eq.trans (hF.r hmo (by rw [kmo]; rfl)) hr1
  have z2130 : q_ir (q_r f2120 mo 1) bu := Eq.trans (hF.r hmo (by rw [kmo]; rfl)) hr2
  have z2131 : q_ir (q_r f2120 mo 29) cs := Eq.trans (hF.r hmo (by rw [kmo]; rfl)) hr3
  have z2132 : q_ir (q_r f2120 mo 30) c1 := Eq.trans (hF.r hmo (by rw [kmo]; rfl)) hr4
  have z2133 : q_ir (q_r f2120 mo 31) c2 := Eq.trans (hF.r hmo (by rw [kmo]; rfl)) hr5
  have z2134 : q_ir (q_r f2120 mo 32) c3 := Eq.trans (hF.r hmo (by rw [kmo]; rfl)) hr6
  have z2135 : q_ir (q_r f2120 mo 33) bg := Eq.trans (hF.r hmo (by rw [kmo]; rfl)) hr7
  have z2136 : q_ir (q_r f2120 mo 34) lp := Eq.trans (hF.r hmo (by rw [kmo]; rfl)) hr8
  have z2137 : q_ir (q_r f2120 mo 24) hp := Eq.trans (hF.r hmo (by rw [kmo]; rfl)) hr9
  have z2138 : q_ir (q_r f2120 mo 25) dy := Eq.trans (hF.r hmo (by rw [kmo]; rfl)) hr10
  have z2139 : q_ir (q_r f2120 mo 15) as := Eq.trans (hF.r hmo (by rw [kmo]; rfl)) hr11
  have z2140 : q_ir (q_r f2120 mo 17) pa := Eq.trans (hF.r hmo (by rw [kmo]; rfl)) hr12
  have g2141 : q_gr f2120 sr := q_gr_fr hgr (fun i9 _ => hF.z hsr (by rw [ksr]; rfl))
  have g2142 : q_pk f2120 mo pa := q_pk_tr hpk (hF.z hmo (by rw [kmo]; rfl)) (fun i9 => hF.z hpa (by rw [kpa]; rfl))
  have g2143 : q_pc f2120 mo pa xc := q_pc_tr hpc (hF.z hmo (by rw [kmo]; rfl)) (fun i9 => hF.z hpa (by rw [kpa]; rfl))
  obtain ⟨x2144, ex2144⟩ : ∃ zz, q_is (q_z f2120 mo 4) zz := ⟨_, q_isr _⟩
  obtain ⟨lx2144, ux2144⟩ := q_isb ex2144 (q_fib hB.2.1 hmo kmo (by decide) rfl)
  obtain ⟨x2145, ex2145⟩ : ∃ zz, q_is (q_z f2120 mo 6) zz := ⟨_, q_isr _⟩
  obtain ⟨lx2145, ux2145⟩ := q_isb ex2145 (q_fib hB.2.1 hmo kmo (by decide) rfl)
  refine q_ald_n cx dX12_runScript_4 rfl (lv_at hl 0 rfl) ?_
  refine q_iconst cx dX12_runScript_5 ?_
  refine q_pX12_494 cx hB hmo kmo ⟨by decide, by decide⟩ (by decide) (by decide) rfl dX12_runScript_6 (fun H locs f2146 ef2146 z2147 hB => ?_)
  have z2148 : q_is (q_z f2146 sr 3) xt := by rw [ef2146, q_setz (Or.inr (by decide))]; exact z2125
  have z2149 : q_is (q_z f2146 sr 4) xm := by rw [ef2146, q_setz (Or.inr (by decide))]; exact z2126
  have z2150 : q_is (q_z f2146 sr 0) xc := by rw [ef2146, q_setz (Or.inr (by decide))]; exact z2127
  have z2151 : q_is (q_z f2146 mo 8) 0 := by rw [ef2146, q_setz (Or.inr (by decide))]; exact z2123
  have z2152 : q_is (q_z f2146 mo 2) 0 := by rw [ef2146, q_setz (Or.inr (by decide))]; exact z2124
  have z2153 : q_is (q_z f2146 mo 4) x2144 := by rw [ef2146, q_setz (Or.inr (by decide))]; exact ex2144
  have z2154 : q_is (q_z f2146 mo 6) x2145 := by rw [ef2146, q_setz (Or.inr (by decide))]; exact ex2145
  have z2155 : q_ir (q_r f2146 mo 13) sr := by rw [ef2146, q_setr (Or.inr (by decide))]; exact z2128
  have z2156 : q_ir (q_r f2146 mo 18) nm := by rw [ef2146, q_setr (Or.inr (by decide))]; exact z2129
  have z2157 : q_ir (q_r f2146 mo 1) bu := by rw [ef2146, q_setr (Or.inr (by decide))]; exact z2130
  have z2158 : q_ir (q_r f2146 mo 29) cs := by rw [ef2146, q_setr (Or.inr (by decide))]; exact z2131
  have z2159 : q_ir (q_r f2146 mo 30) c1 := by rw [ef2146, q_setr (Or.inr (by decide))]; exact z2132
  have z2160 : q_ir (q_r f2146 mo 31) c2 := by rw [ef2146, q_setr (Or.inr (by decide))]; exact z2133
  have z2161 : q_ir (q_r f2146 mo 32) c3 := by rw [ef2146, q_setr (Or.inr (by decide))]; exact z2134
  have z2162 : q_ir (q_r f2146 mo 33) bg := by rw [ef2146, q_setr (Or.inr (by decide))]; exact z2135
  have z2163 : q_ir (q_r f2146 mo 34) lp := by rw [ef2146, q_setr (Or.inr (by decide))]; exact z2136
  have z2164 : q_ir (q_r f2146 mo 24) hp := by rw [ef2146, q_setr (Or.inr (by decide))]; exact z2137
  have z2165 : q_ir (q_r f2146 mo 25) dy := by rw [ef2146, q_setr (Or.inr (by decide))]; exact z2138
  have z2166 : q_ir (q_r f2146 mo 15) as := by rw [ef2146, q_setr (Or.inr (by decide))]; exact z2139
  have z2167 : q_ir (q_r f2146 mo 17) pa := by rw [ef2146, q_setr (Or.inr (by decide))]; exact z2140
  have g2168 : q_gr f2146 sr := q_gr_ne g2141 ef2146 (fun q => q_kne (k := 151) (k2 := 12) (by decide) ksr kmo q)
  have g2169 : q_pk f2146 mo pa := q_pk_tr g2142 (by rw [ef2146, q_setz (Or.inr (by decide))]) (fun i9 => by rw [ef2146, q_setz (Or.inl (fun q => by rw [q, kmo] at kpa; exact absurd kpa (by decide)))])
  have g2170 : q_pc f2146 mo pa xc := q_pc_tr g2143 (by rw [ef2146, q_setz (Or.inr (by decide))]) (fun i9 => by rw [ef2146, q_setz (Or.inl (fun q => by rw [q, kmo] at kpa; exact absurd kpa (by decide)))])
  refine q_ald_n cx dX12_runScript_9 rfl (lv_at hl 0 rfl) ?_
  refine q_iconst cx dX12_runScript_10 ?_
  refine q_pX12_491 cx hB hmo kmo ⟨by decide, by decide⟩ (by decide) (by decide) rfl dX12_runScript_11 (fun H locs f2171 ef2171 z2172 hB => ?_)
  have z2173 : q_is (q_z f2171 sr 3) xt := by rw [ef2171, q_setz (Or.inr (by decide))]; exact z2148
  have z2174 : q_is (q_z f2171 sr 4) xm := by rw [ef2171, q_setz (Or.inr (by decide))]; exact z2149
  have z2175 : q_is (q_z f2171 sr 0) xc := by rw [ef2171, q_setz (Or.inr (by decide))]; exact z2150
  have z2176 : q_is (q_z f2171 mo 8) 0 := by rw [ef2171, q_setz (Or.inr (by decide))]; exact z2151
  have z2177 : q_is (q_z f2171 mo 2) 0 := by rw [ef2171, q_setz (Or.inr (by decide))]; exact z2152
  have z2178 : q_is (q_z f2171 mo 4) x2144 := by rw [ef2171, q_setz (Or.inr (by decide))]; exact z2153
  have z2179 : q_is (q_z f2171 mo 6) x2145 := by rw [ef2171, q_setz (Or.inr (by decide))]; exact z2154
  have z2180 : q_is (q_z f2171 mo 35) 0 := by rw [ef2171, q_setz (Or.inr (by decide))]; exact z2147
  have z2181 : q_ir (q_r f2171 mo 13) sr := by rw [ef2171, q_setr (Or.inr (by decide))]; exact z2155
  have z2182 : q_ir (q_r f2171 mo 18) nm := by rw [ef2171, q_setr (Or.inr (by decide))]; exact z2156
  have z2183 : q_ir (q_r f2171 mo 1) bu := by rw [ef2171, q_setr (Or.inr (by decide))]; exact z2157
  have z2184 : q_ir (q_r f2171 mo 29) cs := by rw [ef2171, q_setr (Or.inr (by decide))]; exact z2158
  have z2185 : q_ir (q_r f2171 mo 30) c1 := by rw [ef2171, q_setr (Or.inr (by decide))]; exact z2159
  have z2186 : q_ir (q_r f2171 mo 31) c2 := by rw [ef2171, q_setr (Or.inr (by decide))]; exact z2160
  have z2187 : q_ir (q_r f2171 mo 32) c3 := by rw [ef2171, q_setr (Or.inr (by decide))]; exact z2161
  have z2188 : q_ir (q_r f2171 mo 33) bg := by rw [ef2171, q_setr (Or.inr (by decide))]; exact z2162
  have z2189 : q_ir (q_r f2171 mo 34) lp := by rw [ef2171, q_setr (Or.inr (by decide))]; exact z2163
  have z2190 : q_ir (q_r f2171 mo 24) hp := by rw [ef2171, q_setr (Or.inr (by decide))]; exact z2164
  have z2191 : q_ir (q_r f2171 mo 25) dy := by rw [ef2171, q_setr (Or.inr (by decide))]; exact z2165
  have z2192 : q_ir (q_r f2171 mo 15) as := by rw [ef2171, q_setr (Or.inr (by decide))]; exact z2166
  have z2193 : q_ir (q_r f2171 mo 17) pa := by rw [ef2171, q_setr (Or.inr (by decide))]; exact z2167
  have g2194 : q_gr f2171 sr := q_gr_ne g2168 ef2171 (fun q => q_kne (k := 151) (k2 := 12) (by decide) ksr kmo q)
  have g2195 : q_pk f2171 mo pa := q_pk_tr g2169 (by rw [ef2171, q_setz (Or.inr (by decide))]) (fun i9 => by rw [ef2171, q_setz (Or.inl (fun q => by rw [q, kmo] at kpa; exact absurd kpa (by decide)))])
  have g2196 : q_pc f2171 mo pa xc := q_pc_tr g2170 (by rw [ef2171, q_setz (Or.inr (by decide))]) (fun i9 => by rw [ef2171, q_setz (Or.inl (fun q => by rw [q, kmo] at kpa; exact absurd kpa (by decide)))])
  refine q_ald_n cx dX12_runScript_14 rfl (lv_at hl 0 rfl) ?_
  refine q_iconst cx dX12_runScript_15 ?_
  refine q_pX12_488 cx hB hmo kmo ⟨by decide, by decide⟩ (by decide) (by decide) rfl dX12_runScript_16 (fun H locs f2197 ef2197 z2198 hB => ?_)
  have z2199 : q_is (q_z f2197 sr 3) xt := by rw [ef2197, q_setz (Or.inr (by decide))]; exact z2173
  have z2200 : q_is (q_z f2197 sr 4) xm := by rw [ef2197, q_setz (Or.inr (by decide))]; exact z2174
  have z2201 : q_is (q_z f2197 sr 0) xc := by rw [ef2197, q_setz (Or.inr (by decide))]; exact z2175
  have z2202 : q_is (q_z f2197 mo 8) 0 := by rw [ef2197, q_setz (Or.inr (by decide))]; exact z2176
  have z2203 : q_is (q_z f2197 mo 2) 0 := by rw [ef2197, q_setz (Or.inr (by decide))]; exact z2177
  have z2204 : q_is (q_z f2197 mo 4) x2144 := by rw [ef2197, q_setz (Or.inr (by decide))]; exact z2178
  have z2205 : q_is (q_z f2197 mo 6) x2145 := by rw [ef2197, q_setz (Or.inr (by decide))]; exact z2179
  have z2206 : q_is (q_z f2197 mo 35) 0 := by rw [ef2197, q_setz (Or.inr (by decide))]; exact z2180
  have z2207 : q_is (q_z f2197 mo 36) 0 := by rw [ef2197, q_setz (Or.inr (by decide))]; exact z2172
  have z2208 : q_ir (q_r f2197 mo 13) sr := by rw [ef2197, q_setr (Or.inr (by decide))]; exact z2181
  have z2209 : q_ir (q_r f2197 mo 18) nm := by rw [ef2197, q_setr (Or.inr (by decide))]; exact z2182
  have z2210 : q_ir (q_r f2197 mo 1) bu := by rw [ef2197, q_setr (Or.inr (by decide))]; exact z2183
  have z2211 : q_ir (q_r f2197 mo 29) cs := by rw [ef2197, q_setr (Or.inr (by decide))]; exact z2184
  have z2212 : q_ir (q_r f2197 mo 30) c1 := by rw [ef2197, q_setr (Or.inr (by decide))]; exact z2185
  have z2213 : q_ir (q_r f2197 mo 31) c2 := by rw [ef2197, q_setr (Or.inr (by decide))]; exact z2186
  have z2214 : q_ir (q_r f2197 mo 32) c3 := by rw [ef2197, q_setr (Or.inr (by decide))]; exact z2187
  have z2215 : q_ir (q_r f2197 mo 33) bg := by rw [ef2197, q_setr (Or.inr (by decide))]; exact z2188
  have z2216 : q_ir (q_r f2197 mo 34) lp := by rw [ef2197, q_setr (Or.inr (by decide))]; exact z2189
  have z2217 : q_ir (q_r f2197 mo 24) hp := by rw [ef2197, q_setr (Or.inr (by decide))]; exact z2190
  have z2218 : q_ir (q_r f2197 mo 25) dy := by rw [ef2197, q_setr (Or.inr (by decide))]; exact z2191
  have z2219 : q_ir (q_r f2197 mo 15) as := by rw [ef2197, q_setr (Or.inr (by decide))]; exact z2192
  have z2220 : q_ir (q_r f2197 mo 17) pa := by rw [ef2197, q_setr (Or.inr (by decide))]; exact z2193
  have g2221 : q_gr f2197 sr := q_gr_ne g2194 ef2197 (fun q => q_kne (k := 151) (k2 := 12) (by decide) ksr kmo q)
  have g2222 : q_pk f2197 mo pa := q_pk_tr g2195 (by rw [ef2197, q_setz (Or.inr (by decide))]) (fun i9 => by rw [ef2197, q_setz (Or.inl (fun q => by rw [q, kmo] at kpa; exact absurd kpa (by decide)))])
  have g2223 : q_pc f2197 mo pa xc := q_pc_tr g2196 (by rw [ef2197, q_setz (Or.inr (by decide))]) (fun i9 => by rw [ef2197, q_setz (Or.inl (fun q => by rw [q, kmo] at kpa; exact absurd kpa (by decide)))])
  have hsc0 : q_sc f2197 mo cs c1 c2 := k_sc0 z2206 z2207 z2198
  exact J19 ((Int.toNat (601 - x2144)) + 1) f2197 0 (by decide) (by decide) 0 (by decide) (by decide) x2144 (by omega) (by omega) z2199 z2200 z2201 z2203 z2202 z2204 z2208 z2209 z2210 z2211 z2212 z2213 z2214 z2215 z2216 z2217 z2218 z2219 z2220 g2221 g2223 g2222 hsc0 (Nat.lt_succ_self _) H locs hB ls (lv_sub hl [0] rfl)
