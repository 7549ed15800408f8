set_option maxHeartbeats 4000000 in
set_option maxRecDepth 100000 in
theorem r_runScript (l : Launch) (g : q_G) {K : Nat → Nat} {L : List Nat} (hN : L.Nodup) {f : Nat → va_E} (hT : q_Ty g K L f) (mo : Nat) (hmo : mo ∈ L) (kmo : K mo = 12) (sr : Nat) (hsr : sr ∈ L) (ksr : K sr = 151) (nm : Nat) (hnm : nm ∈ L) (knm : K nm = 156) (bu : Nat) (hbu : bu ∈ L) (kbu : K bu = 150) (cs : Nat) (hcs : cs ∈ L) (kcs : K cs = 161) (c1 : Nat) (hc1 : c1 ∈ L) (kc1 : K c1 = 162) (c2 : Nat) (hc2 : c2 ∈ L) (kc2 : K c2 = 163) (c3 : Nat) (hc3 : c3 ∈ L) (kc3 : K c3 = 164) (bg : Nat) (hbg : bg ∈ L) (kbg : K bg = 165) (lp : Nat) (hlp : lp ∈ L) (klp : K lp = 166) (hp : Nat) (hhp : hp ∈ L) (khp : K hp = 159) (dy : Nat) (hdy : dy ∈ L) (kdy : K dy = 160) (as : Nat) (has : as ∈ L) (kas : K as = 153) (pa : Nat) (hpa : pa ∈ L) (kpa : K pa = 155) (xt : Int) (lxt : 0 ≤ xt) (uxt : xt ≤ 9999) (xm : Int) (lxm : 0 ≤ xm) (uxm : xm ≤ 60) (hf0 : q_is (q_z f sr 3) xt) (hf1 : q_is (q_z f sr 4) xm) (hr0 : q_ir (q_r f mo 13) sr) (hr1 : q_ir (q_r f mo 18) nm) (hr2 : q_ir (q_r f mo 1) bu) (hr3 : q_ir (q_r f mo 29) cs) (hr4 : q_ir (q_r f mo 30) c1) (hr5 : q_ir (q_r f mo 31) c2) (hr6 : q_ir (q_r f mo 32) c3) (hr7 : q_ir (q_r f mo 33) bg) (hr8 : q_ir (q_r f mo 34) lp) (hr9 : q_ir (q_r f mo 24) hp) (hr10 : q_ir (q_r f mo 25) dy) (hr11 : q_ir (q_r f mo 15) as) (hr12 : q_ir (q_r f mo 17) pa) (hgr : q_gr f sr) (hpk : q_pk f mo pa) : q_Ct l g K L yX12_runScript cX12_runScript 2 (some .int) 12 276 [.ref mo] f [(12, 0, 0), (12, 2, 12), (12, 21, 21), (12, 26, 28), (12, 35, 37), (151, 3, 4), (151, 9, 9), (151, 11, 89), (151, 92, 657), (153, 0, 657), (155, 0, 3947), (159, 0, 9), (160, 0, 9), (161, 0, 59), (162, 0, 58), (163, 0, 58), (164, 0, 58), (165, 0, 1), (166, 0, 1)] (q_Pi (fun (z : Int) (f1 : Nat → va_E) => 0 ≤ z ∧ z ≤ 40 ∧ 0 ≤ q_z f1 sr 3 ∧ q_z f1 sr 3 ≤ 9999 ∧ 0 ≤ q_z f1 sr 4 ∧ q_z f1 sr 4 ≤ 60 ∧ q_is (q_z f1 mo 2) 0 ∧ q_gr f1 sr ∧ (q_pk f1 mo pa))) := by
  refine q_ofb (by decide +kernel) hN hT (Nat.le_of_ble_eq_true rfl) ?_
  intro p e s m below meth c ls cx hr hlk hB hl
  have hl : lv_has ls 2 [(0, .ref mo)] := hl
  have J19 : ∀ (n : Nat) (f19 : Nat → va_E) (w19_mo_2 : Int) (lw19_mo_2 : 0 ≤ w19_mo_2) (uw19_mo_2 : w19_mo_2 ≤ 0) (w19_mo_8 : Int) (lw19_mo_8 : 0 ≤ w19_mo_8) (uw19_mo_8 : w19_mo_8 ≤ 0) (w19_mo_4 : Int) (lw19_mo_4 : 0 ≤ w19_mo_4) (uw19_mo_4 : w19_mo_4 ≤ 600) (hj_sr_3 : q_is (q_z f19 sr 3) xt) (hj_sr_4 : q_is (q_z f19 sr 4) xm) (hj_mo_2 : q_is (q_z f19 mo 2) w19_mo_2) (hj_mo_8 : q_is (q_z f19 mo 8) w19_mo_8) (hj_mo_4 : q_is (q_z f19 mo 4) w19_mo_4) (hq_mo_13 : q_ir (q_r f19 mo 13) sr) (hq_mo_18 : q_ir (q_r f19 mo 18) nm) (hq_mo_1 : q_ir (q_r f19 mo 1) bu) (hq_mo_29 : q_ir (q_r f19 mo 29) cs) (hq_mo_30 : q_ir (q_r f19 mo 30) c1) (hq_mo_31 : q_ir (q_r f19 mo 31) c2) (hq_mo_32 : q_ir (q_r f19 mo 32) c3) (hq_mo_33 : q_ir (q_r f19 mo 33) bg) (hq_mo_34 : q_ir (q_r f19 mo 34) lp) (hq_mo_24 : q_ir (q_r f19 mo 24) hp) (hq_mo_25 : q_ir (q_r f19 mo 25) dy) (hq_mo_15 : q_ir (q_r f19 mo 15) as) (hq_mo_17 : q_ir (q_r f19 mo 17) pa) (hgr19 : q_gr f19 sr) (hpk19 : q_pk f19 mo pa) (hsc19 : q_sc f19 mo cs c1 c2) (hmu : (Int.toNat (601 - w19_mo_4)) < n) (H : Heap) (locs : List Loc) (hB : q_B g K L (fun q => q ∈ L) [(12, 0, 0), (12, 2, 12), (12, 21, 21), (12, 26, 28), (12, 35, 37), (151, 3, 4), (151, 9, 9), (151, 11, 89), (151, 92, 657), (153, 0, 657), (155, 0, 3947), (159, 0, 9), (160, 0, 9), (161, 0, 59), (162, 0, 58), (163, 0, 58), (164, 0, 58), (165, 0, 1), (166, 0, 1)] f f19 s H locs) (ls : Array Slot) (hl : lv_has ls 2 [(0, .ref mo)]), W p l e { frames := 12, cells := 0, slots := 0, locals := 276 } s m ([.ref mo] : List Value).toArray below meth c H locs 0 0 (MQ below (q_Q g K L [(12, 0, 0), (12, 2, 12), (12, 21, 21), (12, 26, 28), (12, 35, 37), (151, 3, 4), (151, 9, 9), (151, 11, 89), (151, 92, 657), (153, 0, 657), (155, 0, 3947), (159, 0, 9), (160, 0, 9), (161, 0, 59), (162, 0, 58), (163, 0, 58), (164, 0, 58), (165, 0, 1), (166, 0, 1)] f (q_Pi (fun (z : Int) (f1 : Nat → va_E) => 0 ≤ z ∧ z ≤ 40 ∧ 0 ≤ q_z f1 sr 3 ∧ q_z f1 sr 3 ≤ 9999 ∧ 0 ≤ q_z f1 sr 4 ∧ q_z f1 sr 4 ≤ 60 ∧ q_is (q_z f1 mo 2) 0 ∧ q_gr f1 sr ∧ (q_pk f1 mo pa)))) ([.ref mo] : List Value).toArray s 0 0 (fun q => q ∈ L)) (F0 m 19 ls []) := by
    intro n
    induction n with
    | zero =>
      intro f19 w19_mo_2 lw19_mo_2 uw19_mo_2 w19_mo_8 lw19_mo_8 uw19_mo_8 w19_mo_4 lw19_mo_4 uw19_mo_4 hj_sr_3 hj_sr_4 hj_mo_2 hj_mo_8 hj_mo_4 hq_mo_13 hq_mo_18 hq_mo_1 hq_mo_29 hq_mo_30 hq_mo_31 hq_mo_32 hq_mo_33 hq_mo_34 hq_mo_24 hq_mo_25 hq_mo_15 hq_mo_17 hgr19 hpk19 hsc19 hmu
      exact absurd hmu (Nat.not_lt_zero _)
    | succ n ih19 =>
      intro f19 w19_mo_2 lw19_mo_2 uw19_mo_2 w19_mo_8 lw19_mo_8 uw19_mo_8 w19_mo_4 lw19_mo_4 uw19_mo_4 hj_sr_3 hj_sr_4 hj_mo_2 hj_mo_8 hj_mo_4 hq_mo_13 hq_mo_18 hq_mo_1 hq_mo_29 hq_mo_30 hq_mo_31 hq_mo_32 hq_mo_33 hq_mo_34 hq_mo_24 hq_mo_25 hq_mo_15 hq_mo_17 hgr19 hpk19 hsc19 hmu H locs hB ls hl
      refine q_ald_n cx dX12_runScript_19 rfl (lv_at hl 0 rfl) ?_
      refine q_cVi (As := []) (rest := []) cx hB (fun _ h => h) hN hmo kmo (by decide) rfl (r_isGood0 l g hN hB.2.1 mo hmo kmo (Eq.trans hj_mo_8 (by omega))) q_cX12_130 q_dX12_isGood (by decide) rfl rfl hl.1 rfl (Nat.le_of_ble_eq_true rfl) dX12_runScript_20 (fun y1331 H locs f1330 ry1331 h1332 hF hB => ?_)
      obtain ⟨rfl, qy1331⟩ := h1332
      subst qy1331
      refine q_ifeq (tgt := 63) cx ⟨by decide, by decide⟩ dX12_runScript_23 (by decide) (fun c1333 => ?_) (fun c1333 => ?_)
      · exact absurd c1333 (by omega)
      · refine q_ald_n cx dX12_runScript_26 rfl (lv_at hl 0 rfl) ?_
        obtain ⟨x1334, ex1334⟩ : ∃ zz, q_is (q_z f19 mo 6) zz := ⟨_, q_isr _⟩
        refine q_gX12_117 cx hB hmo kmo ex1334 dX12_runScript_27 (fun lb1335 ub1335 => ?_)
        refine q_ifeq (tgt := 63) cx ⟨by omega, by omega⟩ dX12_runScript_30 (by decide) (fun c1336 => ?_) (fun c1336 => ?_)
        · refine q_ald_n cx dX12_runScript_63 rfl (lv_at hl 0 rfl) ?_
          refine q_cVi (As := []) (rest := []) cx hB (fun _ h => h) hN hmo kmo (by decide) rfl (r_isGood0 l g hN hB.2.1 mo hmo kmo (Eq.trans hj_mo_8 (by omega))) q_cX12_130 q_dX12_isGood (by decide) rfl rfl hl.1 rfl (Nat.le_of_ble_eq_true rfl) dX12_runScript_64 (fun y1338 H locs f1337 ry1338 h1339 hF hB => ?_)
          obtain ⟨rfl, qy1338⟩ := h1339
          subst qy1338
          refine q_ifeq (tgt := 82) cx ⟨by decide, by decide⟩ dX12_runScript_67 (by decide) (fun c1340 => ?_) (fun c1340 => ?_)
          · exact absurd c1340 (by omega)
          · refine q_ald_n cx dX12_runScript_70 rfl (lv_at hl 0 rfl) ?_
            obtain ⟨x1341, ex1341⟩ : ∃ zz, q_is (q_z f19 mo 37) zz := ⟨_, q_isr _⟩
            refine q_gX12_488 cx hB hmo kmo ex1341 dX12_runScript_71 (fun lb1342 ub1342 => ?_)
            refine q_ifle (tgt := 82) cx ⟨by omega, by omega⟩ dX12_runScript_74 (by decide) (fun c1343 => ?_) (fun c1343 => ?_)
            · refine q_ald_n cx dX12_runScript_82 rfl (lv_at hl 0 rfl) ?_
              refine q_cVi (As := []) (rest := []) cx hB (fun _ h => h) hN hmo kmo (by decide) rfl (r_endsText0 l g hN hB.2.1 mo hmo kmo (Eq.trans hj_mo_8 (by omega))) q_cX12_253 q_dX12_endsText (by decide) rfl rfl hl.1 rfl (Nat.le_of_ble_eq_true rfl) dX12_runScript_83 (fun y1345 H locs f1344 ry1345 h1346 hF hB => ?_)
              obtain ⟨qy1345, z1347⟩ := h1346
              have z1348 : q_is (q_z f1344 sr 3) xt := Eq.trans (hF.z hsr (by rw [ksr]; rfl)) hj_sr_3
              have z1349 : q_is (q_z f1344 sr 4) xm := Eq.trans (hF.z hsr (by rw [ksr]; rfl)) hj_sr_4
              have z1350 : q_is (q_z f1344 mo 2) w19_mo_2 := Eq.trans (hF.z hmo (by rw [kmo]; rfl)) hj_mo_2
              have z1351 : q_is (q_z f1344 mo 8) w19_mo_8 := Eq.trans (hF.z hmo (by rw [kmo]; rfl)) hj_mo_8
              have z1352 : q_is (q_z f1344 mo 4) w19_mo_4 := Eq.trans (hF.z hmo (by rw [kmo]; rfl)) hj_mo_4
              have z1353 : q_is (q_z f1344 mo 6) x1334 := Eq.trans (hF.z hmo (by rw [kmo]; rfl)) ex1334
              have z1354 : q_is (q_z f1344 mo 37) x1341 := Eq.trans (hF.z hmo (by rw [kmo]; rfl)) ex1341
              have z1355 : q_ir (q_r f1344 mo 13) sr := Eq.trans (hF.r hmo (by rw [kmo]; rfl)) hq_mo_13
              have z1356 : q_ir (q_r f1344 mo 18) nm := Eq.trans (hF.r hmo (by rw [kmo]; rfl)) hq_mo_18
              have z1357 : q_ir (q_r f1344 mo 1) bu := Eq.trans (hF.r hmo (by rw [kmo]; rfl)) hq_mo_1
              have z1358 : q_ir (q_r f1344 mo 29) cs := Eq.trans (hF.r hmo (by rw [kmo]; rfl)) hq_mo_29
              have z1359 : q_ir (q_r f1344 mo 30) c1 := Eq.trans (hF.r hmo (by rw [kmo]; rfl)) hq_mo_30
              have z1360 : q_ir (q_r f1344 mo 31) c2 := Eq.trans (hF.r hmo (by rw [kmo]; rfl)) hq_mo_31
              have z1361 : q_ir (q_r f1344 mo 32) c3 := Eq.trans (hF.r hmo (by rw [kmo]; rfl)) hq_mo_32
              have z1362 : q_ir (q_r f1344 mo 33) bg := Eq.trans (hF.r hmo (by rw [kmo]; rfl)) hq_mo_33
              have z1363 : q_ir (q_r f1344 mo 34) lp := Eq.trans (hF.r hmo (by rw [kmo]; rfl)) hq_mo_34
              have z1364 : q_ir (q_r f1344 mo 24) hp := Eq.trans (hF.r hmo (by rw [kmo]; rfl)) hq_mo_24
              have z1365 : q_ir (q_r f1344 mo 25) dy := Eq.trans (hF.r hmo (by rw [kmo]; rfl)) hq_mo_25
              have z1366 : q_ir (q_r f1344 mo 15) as := Eq.trans (hF.r hmo (by rw [kmo]; rfl)) hq_mo_15
              have z1367 : q_ir (q_r f1344 mo 17) pa := Eq.trans (hF.r hmo (by rw [kmo]; rfl)) hq_mo_17
              have g1368 : q_gr f1344 sr := q_gr_fr hgr19 (fun i9 _ => hF.z hsr (by rw [ksr]; rfl))
              have g1369 : q_pk f1344 mo pa := q_pk_tr hpk19 (hF.z hmo (by rw [kmo]; rfl)) (fun i9 => hF.z hpa (by rw [kpa]; rfl))
              have g1370 : q_sc f1344 mo cs c1 c2 := q_sc_tr hsc19 (hF.z hmo (by rw [kmo]; rfl)) (hF.z hmo (by rw [kmo]; rfl)) (hF.z hmo (by rw [kmo]; rfl)) (fun i9 => hF.z hcs (by rw [kcs]; rfl)) (fun i9 => hF.z hc1 (by rw [kc1]; rfl)) (fun i9 => hF.z hc2 (by rw [kc2]; rfl))
              subst qy1345
              refine q_ifne (tgt := 91) cx ⟨by decide, by decide⟩ dX12_runScript_86 (by decide) (fun c1371 => ?_) (fun c1371 => ?_)
              · refine q_ald_n cx dX12_runScript_91 rfl (lv_at hl 0 rfl) ?_
                refine q_cVv (As := []) (rest := []) cx hB (fun _ h => h) hN hmo kmo (by decide) rfl (r_laysAside l g hN hB.2.1 mo hmo kmo sr hsr ksr as has kas xt (by omega) (by omega) xm (by omega) (by omega) z1348 z1349 z1355 z1366 g1368) q_cX12_247 q_dX12_laysAside (by decide) rfl rfl hl.1 rfl (Nat.le_of_ble_eq_true rfl) dX12_runScript_92 (fun H locs f1372 h1374 hF hB => ?_)
                obtain ⟨lz1375, uz1375⟩ := h1374
                have z1376 : q_is (q_z f1372 sr 3) xt := Eq.trans (hF.z hsr (by rw [ksr]; rfl)) z1348
                have z1377 : q_is (q_z f1372 sr 4) xm := Eq.trans (hF.z hsr (by rw [ksr]; rfl)) z1349
                have z1378 : q_is (q_z f1372 mo 2) w19_mo_2 := Eq.trans (hF.z hmo (by rw [kmo]; rfl)) z1350
                have z1379 : q_is (q_z f1372 mo 8) w19_mo_8 := Eq.trans (hF.z hmo (by rw [kmo]; rfl)) z1351
                have z1380 : q_is (q_z f1372 mo 4) w19_mo_4 := Eq.trans (hF.z hmo (by rw [kmo]; rfl)) z1352
                have z1381 : q_is (q_z f1372 mo 6) x1334 := Eq.trans (hF.z hmo (by rw [kmo]; rfl)) z1353
                have z1382 : q_is (q_z f1372 mo 37) x1341 := Eq.trans (hF.z hmo (by rw [kmo]; rfl)) z1354
                have z1383 : q_is (q_z f1372 mo 0) 0 := Eq.trans (hF.z hmo (by rw [kmo]; rfl)) z1347
                have z1384 : q_ir (q_r f1372 mo 13) sr := Eq.trans (hF.r hmo (by rw [kmo]; rfl)) z1355
                have z1385 : q_ir (q_r f1372 mo 18) nm := Eq.trans (hF.r hmo (by rw [kmo]; rfl)) z1356
                have z1386 : q_ir (q_r f1372 mo 1) bu := Eq.trans (hF.r hmo (by rw [kmo]; rfl)) z1357
                have z1387 : q_ir (q_r f1372 mo 29) cs := Eq.trans (hF.r hmo (by rw [kmo]; rfl)) z1358
                have z1388 : q_ir (q_r f1372 mo 30) c1 := Eq.trans (hF.r hmo (by rw [kmo]; rfl)) z1359
                have z1389 : q_ir (q_r f1372 mo 31) c2 := Eq.trans (hF.r hmo (by rw [kmo]; rfl)) z1360
                have z1390 : q_ir (q_r f1372 mo 32) c3 := Eq.trans (hF.r hmo (by rw [kmo]; rfl)) z1361
                have z1391 : q_ir (q_r f1372 mo 33) bg := Eq.trans (hF.r hmo (by rw [kmo]; rfl)) z1362
                have z1392 : q_ir (q_r f1372 mo 34) lp := Eq.trans (hF.r hmo (by rw [kmo]; rfl)) z1363
                have z1393 : q_ir (q_r f1372 mo 24) hp := Eq.trans (hF.r hmo (by rw [kmo]; rfl)) z1364
                have z1394 : q_ir (q_r f1372 mo 25) dy := Eq.trans (hF.r hmo (by rw [kmo]; rfl)) z1365
                have z1395 : q_ir (q_r f1372 mo 15) as := Eq.trans (hF.r hmo (by rw [kmo]; rfl)) z1366
                have z1396 : q_ir (q_r f1372 mo 17) pa := Eq.trans (hF.r hmo (by rw [kmo]; rfl)) z1367
                have g1397 : q_gr f1372 sr := q_gr_fr g1368 (fun i9 _ => hF.z hsr (by rw [ksr]; rfl))
                have g1398 : q_pk f1372 mo pa := q_pk_tr g1369 (hF.z hmo (by rw [kmo]; rfl)) (fun i9 => hF.z hpa (by rw [kpa]; rfl))
                have g1399 : q_sc f1372 mo cs c1 c2 := q_sc_tr g1370 (hF.z hmo (by rw [kmo]; rfl)) (hF.z hmo (by rw [kmo]; rfl)) (hF.z hmo (by rw [kmo]; rfl)) (fun i9 => hF.z hcs (by rw [kcs]; rfl)) (fun i9 => hF.z hc1 (by rw [kc1]; rfl)) (fun i9 => hF.z hc2 (by rw [kc2]; rfl))
                obtain ⟨x1400, ex1400⟩ : ∃ zz, q_is (q_z f1372 as 2) zz := ⟨_, q_isr _⟩
                obtain ⟨lx1400, ux1400⟩ := q_isb ex1400 ⟨lz1375, uz1375⟩
                refine q_ald_n cx dX12_runScript_95 rfl (lv_at hl 0 rfl) ?_
                obtain ⟨x1401, ex1401⟩ : ∃ zz, q_is (q_z f1372 mo 35) zz := ⟨_, q_isr _⟩
                obtain ⟨lx1401, ux1401⟩ := q_isb ex1401 (q_fib hB.2.1 hmo kmo (by decide) rfl)
                refine q_cVi (As := []) (rest := []) cx hB (fun _ h => h) hN hmo kmo (by decide) rfl (r_runs l g hN hB.2.1 mo hmo kmo sr hsr ksr hp hhp khp dy hdy kdy cs hcs kcs c1 hc1 kc1 c2 hc2 kc2 c3 hc3 kc3 bg hbg kbg lp hlp klp xt (by omega) (by omega) xm (by omega) (by omega) x1401 (by omega) (by omega) z1376 z1377 ex1401 z1384 z1393 z1394 z1387 z1388 z1389 z1390 z1391 z1392 g1397 g1399) q_cX12_506 q_dX12_runs (by decide) rfl rfl hl.1 rfl (Nat.le_of_ble_eq_true rfl) dX12_runScript_96 (fun y1403 H locs f1402 ry1403 h1404 hF hB => ?_)
                obtain ⟨ly1403, uy1403, lz1405, uz1405, lz1406, uz1406, g1407⟩ := h1404
                have z1408 : q_is (q_z f1402 mo 2) w19_mo_2 := Eq.trans (hF.z hmo (by rw [kmo]; rfl)) z1378
                have z1409 : q_is (q_z f1402 mo 8) w19_mo_8 := Eq.trans (hF.z hmo (by rw [kmo]; rfl)) z1379
                have z1410 : q_is (q_z f1402 mo 4) w19_mo_4 := Eq.trans (hF.z hmo (by rw [kmo]; rfl)) z1380
                have z1411 : q_is (q_z f1402 mo 6) x1334 := Eq.trans (hF.z hmo (by rw [kmo]; rfl)) z1381
                have z1412 : q_is (q_z f1402 mo 37) x1341 := Eq.trans (hF.z hmo (by rw [kmo]; rfl)) z1382
                have z1413 : q_is (q_z f1402 mo 0) 0 := Eq.trans (hF.z hmo (by rw [kmo]; rfl)) z1383
                have z1414 : q_is (q_z f1402 as 2) x1400 := Eq.trans (hF.z has (by rw [kas]; rfl)) ex1400
                have z1415 : q_is (q_z f1402 mo 35) x1401 := Eq.trans (hF.z hmo (by rw [kmo]; rfl)) ex1401
                have z1416 : q_ir (q_r f1402 mo 13) sr := Eq.trans (hF.r hmo (by rw [kmo]; rfl)) z1384
                have z1417 : q_ir (q_r f1402 mo 18) nm := Eq.trans (hF.r hmo (by rw [kmo]; rfl)) z1385
                have z1418 : q_ir (q_r f1402 mo 1) bu := Eq.trans (hF.r hmo (by rw [kmo]; rfl)) z1386
                have z1419 : q_ir (q_r f1402 mo 29) cs := Eq.trans (hF.r hmo (by rw [kmo]; rfl)) z1387
                have z1420 : q_ir (q_r f1402 mo 30) c1 := Eq.trans (hF.r hmo (by rw [kmo]; rfl)) z1388
                have z1421 : q_ir (q_r f1402 mo 31) c2 := Eq.trans (hF.r hmo (by rw [kmo]; rfl)) z1389
                have z1422 : q_ir (q_r f1402 mo 32) c3 := Eq.trans (hF.r hmo (by rw [kmo]; rfl)) z1390
                have z1423 : q_ir (q_r f1402 mo 33) bg := Eq.trans (hF.r hmo (by rw [kmo]; rfl)) z1391
                have z1424 : q_ir (q_r f1402 mo 34) lp := Eq.trans (hF.r hmo (by rw [kmo]; rfl)) z1392
                have z1425 : q_ir (q_r f1402 mo 24) hp := Eq.trans (hF.r hmo (by rw [kmo]; rfl)) z1393
                have z1426 : q_ir (q_r f1402 mo 25) dy := Eq.trans (hF.r hmo (by rw [kmo]; rfl)) z1394
                have z1427 : q_ir (q_r f1402 mo 15) as := Eq.trans (hF.r hmo (by rw [kmo]; rfl)) z1395
                have z1428 : q_ir (q_r f1402 mo 17) pa := Eq.trans (hF.r hmo (by rw [kmo]; rfl)) z1396
                have g1429 : q_pk f1402 mo pa := q_pk_tr g1398 (hF.z hmo (by rw [kmo]; rfl)) (fun i9 => hF.z hpa (by rw [kpa]; rfl))
                have g1430 : q_sc f1402 mo cs c1 c2 := q_sc_tr g1399 (hF.z hmo (by rw [kmo]; rfl)) (hF.z hmo (by rw [kmo]; rfl)) (hF.z hmo (by rw [kmo]; rfl)) (fun i9 => hF.z hcs (by rw [kcs]; rfl)) (fun i9 => hF.z hc1 (by rw [kc1]; rfl)) (fun i9 => hF.z hc2 (by rw [kc2]; rfl))
                obtain ⟨x1431, ex1431⟩ : ∃ zz, q_is (q_z f1402 sr 3) zz := ⟨_, q_isr _⟩
                obtain ⟨lx1431, ux1431⟩ := q_isb ex1431 ⟨lz1405, uz1405⟩
                obtain ⟨x1432, ex1432⟩ : ∃ zz, q_is (q_z f1402 sr 4) zz := ⟨_, q_isr _⟩
                obtain ⟨lx1432, ux1432⟩ := q_isb ex1432 ⟨lz1406, uz1406⟩
                refine lv_istore_n (lv' := [(1, .int (q_i y1403)), (0, .ref mo)]) cx.1 cx.2.1 dX12_runScript_99 rfl hl (by decide) rfl (fun ls hl => ?_)
                refine q_ald_n cx dX12_runScript_100 rfl (lv_at hl 1 rfl) ?_
                obtain ⟨x1433, ex1433⟩ : ∃ zz, q_is (q_z f1402 mo 21) zz := ⟨_, q_isr _⟩
                obtain ⟨lx1433, ux1433⟩ := q_isb ex1433 (q_fib hB.2.1 hmo kmo (by decide) rfl)
                by_cases c1434 : x1433 ≤ 5
                · refine q_cVv (As := []) (rest := []) cx hB (fun _ h => h) hN hmo kmo (by decide) rfl (r_keeps0 l g hN hB.2.1 mo hmo kmo as has kas pa hpa kpa x1400 (by omega) (by omega) x1433 (by omega) (by omega) z1414 ex1433 z1427 z1428 g1429) q_cX12_161 q_dX12_keeps (by decide) rfl rfl hl.1 rfl (Nat.le_of_ble_eq_true rfl) dX12_runScript_101 (fun H locs f1435 h1437 hF hB => ?_)
                  have g1438 := h1437
                  have z1439 : q_is (q_z f1435 mo 2) w19_mo_2 := Eq.trans (hF.z hmo (by rw [kmo]; rfl)) z1408
                  have z1440 : q_is (q_z f1435 mo 8) w19_mo_8 := Eq.trans (hF.z hmo (by rw [kmo]; rfl)) z1409
                  have z1441 : q_is (q_z f1435 mo 4) w19_mo_4 := Eq.trans (hF.z hmo (by rw [kmo]; rfl)) z1410
                  have z1442 : q_is (q_z f1435 mo 6) x1334 := Eq.trans (hF.z hmo (by rw [kmo]; rfl)) z1411
                  have z1443 : q_is (q_z f1435 mo 37) x1341 := Eq.trans (hF.z hmo (by rw [kmo]; rfl)) z1412
                  have z1444 : q_is (q_z f1435 mo 0) 0 := Eq.trans (hF.z hmo (by rw [kmo]; rfl)) z1413
                  have z1445 : q_is (q_z f1435 as 2) x1400 := Eq.trans (hF.z has (by rw [kas]; rfl)) z1414
                  have z1446 : q_is (q_z f1435 mo 35) x1401 := Eq.trans (hF.z hmo (by rw [kmo]; rfl)) z1415
                  have z1447 : q_is (q_z f1435 sr 3) x1431 := Eq.trans (hF.z hsr (by rw [ksr]; rfl)) ex1431
                  have z1448 : q_is (q_z f1435 sr 4) x1432 := Eq.trans (hF.z hsr (by rw [ksr]; rfl)) ex1432
                  have z1449 : q_ir (q_r f1435 mo 13) sr := Eq.trans (hF.r hmo (by rw [kmo]; rfl)) z1416
                  have z1450 : q_ir (q_r f1435 mo 18) nm := Eq.trans (hF.r hmo (by rw [kmo]; rfl)) z1417
                  have z1451 : q_ir (q_r f1435 mo 1) bu := Eq.trans (hF.r hmo (by rw [kmo]; rfl)) z1418
                  have z1452 : q_ir (q_r f1435 mo 29) cs := Eq.trans (hF.r hmo (by rw [kmo]; rfl)) z1419
                  have z1453 : q_ir (q_r f1435 mo 30) c1 := Eq.trans (hF.r hmo (by rw [kmo]; rfl)) z1420
                  have z1454 : q_ir (q_r f1435 mo 31) c2 := Eq.trans (hF.r hmo (by rw [kmo]; rfl)) z1421
                  have z1455 : q_ir (q_r f1435 mo 32) c3 := Eq.trans (hF.r hmo (by rw [kmo]; rfl)) z1422
                  have z1456 : q_ir (q_r f1435 mo 33) bg := Eq.trans (hF.r hmo (by rw [kmo]; rfl)) z1423
                  have z1457 : q_ir (q_r f1435 mo 34) lp := Eq.trans (hF.r hmo (by rw [kmo]; rfl)) z1424
                  have z1458 : q_ir (q_r f1435 mo 24) hp := Eq.trans (hF.r hmo (by rw [kmo]; rfl)) z1425
                  have z1459 : q_ir (q_r f1435 mo 25) dy := Eq.trans (hF.r hmo (by rw [kmo]; rfl)) z1426
                  have z1460 : q_ir (q_r f1435 mo 15) as := Eq.trans (hF.r hmo (by rw [kmo]; rfl)) z1427
                  have z1461 : q_ir (q_r f1435 mo 17) pa := Eq.trans (hF.r hmo (by rw [kmo]; rfl)) z1428
                  have g1462 : q_gr f1435 sr := q_gr_fr g1407 (fun i9 _ => hF.z hsr (by rw [ksr]; rfl))
                  have g1463 : q_sc f1435 mo cs c1 c2 := q_sc_tr g1430 (hF.z hmo (by rw [kmo]; rfl)) (hF.z hmo (by rw [kmo]; rfl)) (hF.z hmo (by rw [kmo]; rfl)) (fun i9 => hF.z hcs (by rw [kcs]; rfl)) (fun i9 => hF.z hc1 (by rw [kc1]; rfl)) (fun i9 => hF.z hc2 (by rw [kc2]; rfl))
                  refine q_ild_n cx dX12_runScript_104 rfl (lv_at hl 0 rfl) ?_
                  refine q_iret cx hr hlk hB dX12_runScript_105 ⟨by omega, by omega⟩ ?_
                  exact ⟨(by omega), (by omega), (q_isl z1447 (by omega)), (q_isu z1447 (by omega)), (q_isl z1448 (by omega)), (q_isu z1448 (by omega)), (Eq.trans z1439 (by omega)), g1462, g1438⟩
                · refine q_cVv (As := []) (rest := []) cx hB (fun _ h => h) hN hmo kmo (by decide) rfl (r_keeps6 l g hN hB.2.1 mo hmo kmo as has kas pa hpa kpa x1400 (by omega) (by omega) z1414 (Eq.trans ex1433 (by omega)) z1427 z1428 g1429) q_cX12_161 q_dX12_keeps (by decide) rfl rfl hl.1 rfl (Nat.le_of_ble_eq_true rfl) dX12_runScript_101 (fun H locs f1464 h1466 hF hB => ?_)
                  have g1467 := h1466
                  have z1468 : q_is (q_z f1464 mo 2) w19_mo_2 := Eq.trans (hF.z hmo (by rw [kmo]; rfl)) z1408
                  have z1469 : q_is (q_z f1464 mo 8) w19_mo_8 := Eq.trans (hF.z hmo (by rw [kmo]; rfl)) z1409
                  have z1470 : q_is (q_z f1464 mo 4) w19_mo_4 := Eq.trans (hF.z hmo (by rw [kmo]; rfl)) z1410
                  have z1471 : q_is (q_z f1464 mo 6) x1334 := Eq.trans (hF.z hmo (by rw [kmo]; rfl)) z1411
                  have z1472 : q_is (q_z f1464 mo 37) x1341 := Eq.trans (hF.z hmo (by rw [kmo]; rfl)) z1412
                  have z1473 : q_is (q_z f1464 mo 0) 0 := Eq.trans (hF.z hmo (by rw [kmo]; rfl)) z1413
                  have z1474 : q_is (q_z f1464 as 2) x1400 := Eq.trans (hF.z has (by rw [kas]; rfl)) z1414
                  have z1475 : q_is (q_z f1464 mo 35) x1401 := Eq.trans (hF.z hmo (by rw [kmo]; rfl)) z1415
                  have z1476 : q_is (q_z f1464 sr 3) x1431 := Eq.trans (hF.z hsr (by rw [ksr]; rfl)) ex1431
                  have z1477 : q_is (q_z f1464 sr 4) x1432 := Eq.trans (hF.z hsr (by rw [ksr]; rfl)) ex1432
                  have z1478 : q_ir (q_r f1464 mo 13) sr := Eq.trans (hF.r hmo (by rw [kmo]; rfl)) z1416
                  have z1479 : q_ir (q_r f1464 mo 18) nm := Eq.trans (hF.r hmo (by rw [kmo]; rfl)) z1417
                  have z1480 : q_ir (q_r f1464 mo 1) bu := Eq.trans (hF.r hmo (by rw [kmo]; rfl)) z1418
                  have z1481 : q_ir (q_r f1464 mo 29) cs := Eq.trans (hF.r hmo (by rw [kmo]; rfl)) z1419
                  have z1482 : q_ir (q_r f1464 mo 30) c1 := Eq.trans (hF.r hmo (by rw [kmo]; rfl)) z1420
                  have z1483 : q_ir (q_r f1464 mo 31) c2 := Eq.trans (hF.r hmo (by rw [kmo]; rfl)) z1421
                  have z1484 : q_ir (q_r f1464 mo 32) c3 := Eq.trans (hF.r hmo (by rw [kmo]; rfl)) z1422
                  have z1485 : q_ir (q_r f1464 mo 33) bg := Eq.trans (hF.r hmo (by rw [kmo]; rfl)) z1423
                  have z1486 : q_ir (q_r f1464 mo 34) lp := Eq.trans (hF.r hmo (by rw [kmo]; rfl)) z1424
                  have z1487 : q_ir (q_r f1464 mo 24) hp := Eq.trans (hF.r hmo (by rw [kmo]; rfl)) z1425
                  have z1488 : q_ir (q_r f1464 mo 25) dy := Eq.trans (hF.r hmo (by rw [kmo]; rfl)) z1426
                  have z1489 : q_ir (q_r f1464 mo 15) as := Eq.trans (hF.r hmo (by rw [kmo]; rfl)) z1427
                  have z1490 : q_ir (q_r f1464 mo 17) pa := Eq.trans (hF.r hmo (by rw [kmo]; rfl)) z1428
                  have g1491 : q_gr f1464 sr := q_gr_fr g1407 (fun i9 _ => hF.z hsr (by rw [ksr]; rfl))
                  have g1492 : q_sc f1464 mo cs c1 c2 := q_sc_tr g1430 (hF.z hmo (by rw [kmo]; rfl)) (hF.z hmo (by rw [kmo]; rfl)) (hF.z hmo (by rw [kmo]; rfl)) (fun i9 => hF.z hcs (by rw [kcs]; rfl)) (fun i9 => hF.z hc1 (by rw [kc1]; rfl)) (fun i9 => hF.z hc2 (by rw [kc2]; rfl))
                  refine q_ild_n cx dX12_runScript_104 rfl (lv_at hl 0 rfl) ?_
                  refine q_iret cx hr hlk hB dX12_runScript_105 ⟨by omega, by omega⟩ ?_
                  exact ⟨(by omega), (by omega), (q_isl z1476 (by omega)), (q_isu z1476 (by omega)), (q_isl z1477 (by omega)), (q_isu z1477 (by omega)), (Eq.trans z1468 (by omega)), g1491, g1467⟩
              · exact absurd c1371 (by omega)
            · refine q_ald_n cx dX12_runScript_77 rfl (lv_at hl 0 rfl) ?_
              refine q_iconst cx dX12_runScript_78 ?_
              refine q_cVv (As := [.int (q_i 1)]) (rest := []) cx hB (fun _ h => h) hN hmo kmo (by decide) rfl (r_wrong0 l g hN hB.2.1 mo hmo kmo 1 (by decide) (by decide) (Eq.trans hj_mo_8 (by omega))) q_cX12_137 q_dX12_wrong (by decide) rfl rfl hl.1 rfl (Nat.le_of_ble_eq_true rfl) dX12_runScript_79 (fun H locs f1493 h1495 hF hB => ?_)
              obtain ⟨lz1496, uz1496⟩ := h1495
              have z1497 : q_is (q_z f1493 sr 3) xt := Eq.trans (hF.z hsr (by rw [ksr]; rfl)) hj_sr_3
              have z1498 : q_is (q_z f1493 sr 4) xm := Eq.trans (hF.z hsr (by rw [ksr]; rfl)) hj_sr_4
              have z1499 : q_is (q_z f1493 mo 2) w19_mo_2 := Eq.trans (hF.z hmo (by rw [kmo]; rfl)) hj_mo_2
              have z1500 : q_is (q_z f1493 mo 4) w19_mo_4 := Eq.trans (hF.z hmo (by rw [kmo]; rfl)) hj_mo_4
              have z1501 : q_is (q_z f1493 mo 6) x1334 := Eq.trans (hF.z hmo (by rw [kmo]; rfl)) ex1334
              have z1502 : q_is (q_z f1493 mo 37) x1341 := Eq.trans (hF.z hmo (by rw [kmo]; rfl)) ex1341
              have z1503 : q_ir (q_r f1493 mo 13) sr := Eq.trans (hF.r hmo (by rw [kmo]; rfl)) hq_mo_13
              have z1504 : q_ir (q_r f1493 mo 18) nm := Eq.trans (hF.r hmo (by rw [kmo]; rfl)) hq_mo_18
              have z1505 : q_ir (q_r f1493 mo 1) bu := Eq.trans (hF.r hmo (by rw [kmo]; rfl)) hq_mo_1
              have z1506 : q_ir (q_r f1493 mo 29) cs := Eq.trans (hF.r hmo (by rw [kmo]; rfl)) hq_mo_29
              have z1507 : q_ir (q_r f1493 mo 30) c1 := Eq.trans (hF.r hmo (by rw [kmo]; rfl)) hq_mo_30
              have z1508 : q_ir (q_r f1493 mo 31) c2 := Eq.trans (hF.r hmo (by rw [kmo]; rfl)) hq_mo_31
              have z1509 : q_ir (q_r f1493 mo 32) c3 := Eq.trans (hF.r hmo (by rw [kmo]; rfl)) hq_mo_32
              have z1510 : q_ir (q_r f1493 mo 33) bg := Eq.trans (hF.r hmo (by rw [kmo]; rfl)) hq_mo_33
              have z1511 : q_ir (q_r f1493 mo 34) lp := Eq.trans (hF.r hmo (by rw [kmo]; rfl)) hq_mo_34
              have z1512 : q_ir (q_r f1493 mo 24) hp := Eq.trans (hF.r hmo (by rw [kmo]; rfl)) hq_mo_24
              have z1513 : q_ir (q_r f1493 mo 25) dy := Eq.trans (hF.r hmo (by rw [kmo]; rfl)) hq_mo_25
              have z1514 : q_ir (q_r f1493 mo 15) as := Eq.trans (hF.r hmo (by rw [kmo]; rfl)) hq_mo_15
              have z1515 : q_ir (q_r f1493 mo 17) pa := Eq.trans (hF.r hmo (by rw [kmo]; rfl)) hq_mo_17
              have g1516 : q_gr f1493 sr := q_gr_fr hgr19 (fun i9 _ => hF.z hsr (by rw [ksr]; rfl))
              have g1517 : q_pk f1493 mo pa := q_pk_tr hpk19 (hF.z hmo (by rw [kmo]; rfl)) (fun i9 => hF.z hpa (by rw [kpa]; rfl))
              have g1518 : q_sc f1493 mo cs c1 c2 := q_sc_tr hsc19 (hF.z hmo (by rw [kmo]; rfl)) (hF.z hmo (by rw [kmo]; rfl)) (hF.z hmo (by rw [kmo]; rfl)) (fun i9 => hF.z hcs (by rw [kcs]; rfl)) (fun i9 => hF.z hc1 (by rw [kc1]; rfl)) (fun i9 => hF.z hc2 (by rw [kc2]; rfl))
              obtain ⟨x1519, ex1519⟩ : ∃ zz, q_is (q_z f1493 mo 8) zz := ⟨_, q_isr _⟩
              obtain ⟨lx1519, ux1519⟩ := q_isb ex1519 ⟨lz1496, uz1496⟩
              refine q_ald_n cx dX12_runScript_82 rfl (lv_at hl 0 rfl) ?_
              refine q_cVi (As := []) (rest := []) cx hB (fun _ h => h) hN hmo kmo (by decide) rfl (r_endsText1 l g hN hB.2.1 mo hmo kmo x1519 (by omega) (by omega) ex1519) q_cX12_253 q_dX12_endsText (by decide) rfl rfl hl.1 rfl (Nat.le_of_ble_eq_true rfl) dX12_runScript_83 (fun y1521 H locs f1520 ry1521 h1522 hF hB => ?_)
              obtain ⟨qy1521, z1523⟩ := h1522
              have z1524 : q_is (q_z f1520 sr 3) xt := Eq.trans (hF.z hsr (by rw [ksr]; rfl)) z1497
              have z1525 : q_is (q_z f1520 sr 4) xm := Eq.trans (hF.z hsr (by rw [ksr]; rfl)) z1498
              have z1526 : q_is (q_z f1520 mo 2) w19_mo_2 := Eq.trans (hF.z hmo (by rw [kmo]; rfl)) z1499
              have z1527 : q_is (q_z f1520 mo 4) w19_mo_4 := Eq.trans (hF.z hmo (by rw [kmo]; rfl)) z1500
              have z1528 : q_is (q_z f1520 mo 6) x1334 := Eq.trans (hF.z hmo (by rw [kmo]; rfl)) z1501
              have z1529 : q_is (q_z f1520 mo 37) x1341 := Eq.trans (hF.z hmo (by rw [kmo]; rfl)) z1502
              have z1530 : q_is (q_z f1520 mo 8) x1519 := Eq.trans (hF.z hmo (by rw [kmo]; rfl)) ex1519
              have z1531 : q_ir (q_r f1520 mo 13) sr := Eq.trans (hF.r hmo (by rw [kmo]; rfl)) z1503
              have z1532 : q_ir (q_r f1520 mo 18) nm := Eq.trans (hF.r hmo (by rw [kmo]; rfl)) z1504
              have z1533 : q_ir (q_r f1520 mo 1) bu := Eq.trans (hF.r hmo (by rw [kmo]; rfl)) z1505
              have z1534 : q_ir (q_r f1520 mo 29) cs := Eq.trans (hF.r hmo (by rw [kmo]; rfl)) z1506
              have z1535 : q_ir (q_r f1520 mo 30) c1 := Eq.trans (hF.r hmo (by rw [kmo]; rfl)) z1507
              have z1536 : q_ir (q_r f1520 mo 31) c2 := Eq.trans (hF.r hmo (by rw [kmo]; rfl)) z1508
              have z1537 : q_ir (q_r f1520 mo 32) c3 := Eq.trans (hF.r hmo (by rw [kmo]; rfl)) z1509
              have z1538 : q_ir (q_r f1520 mo 33) bg := Eq.trans (hF.r hmo (by rw [kmo]; rfl)) z1510
              have z1539 : q_ir (q_r f1520 mo 34) lp := Eq.trans (hF.r hmo (by rw [kmo]; rfl)) z1511
              have z1540 : q_ir (q_r f1520 mo 24) hp := Eq.trans (hF.r hmo (by rw [kmo]; rfl)) z1512
              have z1541 : q_ir (q_r f1520 mo 25) dy := Eq.trans (hF.r hmo (by rw [kmo]; rfl)) z1513
              have z1542 : q_ir (q_r f1520 mo 15) as := Eq.trans (hF.r hmo (by rw [kmo]; rfl)) z1514
              have z1543 : q_ir (q_r f1520 mo 17) pa := Eq.trans (hF.r hmo (by rw [kmo]; rfl)) z1515
              have g1544 : q_gr f1520 sr := q_gr_fr g1516 (fun i9 _ => hF.z hsr (by rw [ksr]; rfl))
              have g1545 : q_pk f1520 mo pa := q_pk_tr g1517 (hF.z hmo (by rw [kmo]; rfl)) (fun i9 => hF.z hpa (by rw [kpa]; rfl))
              have g1546 : q_sc f1520 mo cs c1 c2 := q_sc_tr g1518 (hF.z hmo (by rw [kmo]; rfl)) (hF.z hmo (by rw [kmo]; rfl)) (hF.z hmo (by rw [kmo]; rfl)) (fun i9 => hF.z hcs (by rw [kcs]; rfl)) (fun i9 => hF.z hc1 (by rw [kc1]; rfl)) (fun i9 => hF.z hc2 (by rw [kc2]; rfl))
              subst qy1521
              refine q_ifne (tgt := 91) cx ⟨by decide, by decide⟩ dX12_runScript_86 (by decide) (fun c1547 => ?_) (fun c1547 => ?_)
              · exact absurd c1547 (by omega)
              · refine q_iconst cx dX12_runScript_89 ?_
                refine q_iret cx hr hlk hB dX12_runScript_90 ⟨by decide, by decide⟩ ?_
                exact ⟨(by decide), (by decide), (q_isl z1524 (by omega)), (q_isu z1524 (by omega)), (q_isl z1525 (by omega)), (q_isu z1525 (by omega)), (Eq.trans z1526 (by omega)), g1544, g1545⟩
        · refine q_ald_n cx dX12_runScript_33 rfl (lv_at hl 0 rfl) ?_
          obtain ⟨x1548, ex1548⟩ : ∃ zz, q_is (q_z f19 mo 37) zz := ⟨_, q_isr _⟩
          refine q_gX12_488 cx hB hmo kmo ex1548 dX12_runScript_34 (fun lb1549 ub1549 => ?_)
          refine lv_istore_n (lv' := [(1, .int (q_i x1548)), (0, .ref mo)]) cx.1 cx.2.1 dX12_runScript_37 rfl hl (by decide) rfl (fun ls hl => ?_)
          refine q_ald_n cx dX12_runScript_38 rfl (lv_at hl 1 rfl) ?_
          refine q_cVv (As := []) (rest := []) cx hB (fun _ h => h) hN hmo kmo (by decide) rfl (r_command l g hN hB.2.1 mo hmo kmo sr hsr ksr nm hnm knm bu hbu kbu cs hcs kcs c1 hc1 kc1 c2 hc2 kc2 c3 hc3 kc3 w19_mo_4 (by omega) (by omega) x1548 (by omega) (by omega) (Eq.trans hj_mo_8 (by omega)) hj_mo_4 ex1548 hq_mo_13 hq_mo_18 hq_mo_1 hq_mo_29 hq_mo_30 hq_mo_31 hq_mo_32 hsc19) q_cX12_500 q_dX12_command (by decide) rfl rfl hl.1 rfl (Nat.le_of_ble_eq_true rfl) dX12_runScript_39 (fun H locs f1550 h1552 hF hB => ?_)
          rcases h1552 with h1553 | h1554 | h1555
          · obtain ⟨z1556, z1557, t1558, t1559, t1560⟩ := h1553
            have z1561 : q_is (q_z f1550 sr 3) xt := Eq.trans (hF.z hsr (by rw [ksr]; rfl)) hj_sr_3
            have z1562 : q_is (q_z f1550 sr 4) xm := Eq.trans (hF.z hsr (by rw [ksr]; rfl)) hj_sr_4
            have z1563 : q_is (q_z f1550 mo 2) w19_mo_2 := Eq.trans (hF.z hmo (by rw [kmo]; rfl)) hj_mo_2
            have z1564 : q_ir (q_r f1550 mo 13) sr := Eq.trans (hF.r hmo (by rw [kmo]; rfl)) hq_mo_13
            have z1565 : q_ir (q_r f1550 mo 18) nm := Eq.trans (hF.r hmo (by rw [kmo]; rfl)) hq_mo_18
            have z1566 : q_ir (q_r f1550 mo 1) bu := Eq.trans (hF.r hmo (by rw [kmo]; rfl)) hq_mo_1
            have z1567 : q_ir (q_r f1550 mo 29) cs := Eq.trans (hF.r hmo (by rw [kmo]; rfl)) hq_mo_29
            have z1568 : q_ir (q_r f1550 mo 30) c1 := Eq.trans (hF.r hmo (by rw [kmo]; rfl)) hq_mo_30
            have z1569 : q_ir (q_r f1550 mo 31) c2 := Eq.trans (hF.r hmo (by rw [kmo]; rfl)) hq_mo_31
            have z1570 : q_ir (q_r f1550 mo 32) c3 := Eq.trans (hF.r hmo (by rw [kmo]; rfl)) hq_mo_32
            have z1571 : q_ir (q_r f1550 mo 33) bg := Eq.trans (hF.r hmo (by rw [kmo]; rfl)) hq_mo_33
            have z1572 : q_ir (q_r f1550 mo 34) lp := Eq.trans (hF.r hmo (by rw [kmo]; rfl)) hq_mo_34
            have z1573 : q_ir (q_r f1550 mo 24) hp := Eq.trans (hF.r hmo (by rw [kmo]; rfl)) hq_mo_24
            have z1574 : q_ir (q_r f1550 mo 25) dy := Eq.trans (hF.r hmo (by rw [kmo]; rfl)) hq_mo_25
            have z1575 : q_ir (q_r f1550 mo 15) as := Eq.trans (hF.r hmo (by rw [kmo]; rfl)) hq_mo_15
            have z1576 : q_ir (q_r f1550 mo 17) pa := Eq.trans (hF.r hmo (by rw [kmo]; rfl)) hq_mo_17
            have g1577 : q_gr f1550 sr := q_gr_fr hgr19 (fun i9 _ => hF.z hsr (by rw [ksr]; rfl))
            have g1578 : q_pk f1550 mo pa := q_pk_tr hpk19 (hF.z hmo (by rw [kmo]; rfl)) (fun i9 => hF.z hpa (by rw [kpa]; rfl))
            obtain ⟨x1579, ex1579⟩ : ∃ zz, q_is (q_z f1550 mo 4) zz := ⟨_, q_isr _⟩
            obtain ⟨lx1579, ux1579⟩ := q_isb ex1579 (q_fib hB.2.1 hmo kmo (by decide) rfl)
            obtain ⟨x1580, ex1580⟩ : ∃ zz, q_is (q_z f1550 mo 6) zz := ⟨_, q_isr _⟩
            obtain ⟨lx1580, ux1580⟩ := q_isb ex1580 (q_fib hB.2.1 hmo kmo (by decide) rfl)
            replace t1558 := q_isl9 ex1579 t1558
            replace t1559 := k_po_si ex1580 ex1579 t1559
            refine q_ald_n cx dX12_runScript_42 rfl (lv_at hl 1 rfl) ?_
            refine q_gX12_488 cx hB hmo kmo z1557 dX12_runScript_43 (fun lb1581 ub1581 => ?_)
            refine q_ild_n cx dX12_runScript_46 rfl (lv_at hl 0 rfl) ?_
            refine q_icne (tgt := 56) cx ⟨by omega, by omega⟩ ⟨by omega, by omega⟩ dX12_runScript_47 (by decide) (fun c1582 => ?_) (fun c1582 => ?_)
            · exact absurd c1582 (by omega)
            · refine q_ald_n cx dX12_runScript_50 rfl (lv_at hl 1 rfl) ?_
              refine q_bipush cx dX12_runScript_51 rfl ?_
              refine q_cVv (As := [.int (q_i 59)]) (rest := []) cx hB (fun _ h => h) hN hmo kmo (by decide) rfl (r_mustSign0 l g hN hB.2.1 mo hmo kmo 59 (by decide) (by decide) bu hbu kbu x1579 (by omega) (by omega) z1556 ex1579 z1566) q_cX12_241 q_dX12_mustSign (by decide) rfl rfl hl.1 rfl (Nat.le_of_ble_eq_true rfl) dX12_runScript_53 (fun H locs f1583 h1585 hF hB => ?_)
              rcases h1585 with h1586 | h1587
              · obtain ⟨z1588, t1589, t1590, t1591⟩ := h1586
                have z1592 : q_is (q_z f1583 sr 3) xt := Eq.trans (hF.z hsr (by rw [ksr]; rfl)) z1561
                have z1593 : q_is (q_z f1583 sr 4) xm := Eq.trans (hF.z hsr (by rw [ksr]; rfl)) z1562
                have z1594 : q_is (q_z f1583 mo 2) w19_mo_2 := Eq.trans (hF.z hmo (by rw [kmo]; rfl)) z1563
                have z1595 : q_is (q_z f1583 mo 37) x1548 := Eq.trans (hF.z hmo (by rw [kmo]; rfl)) z1557
                have z1596 : q_ir (q_r f1583 mo 13) sr := Eq.trans (hF.r hmo (by rw [kmo]; rfl)) z1564
                have z1597 : q_ir (q_r f1583 mo 18) nm := Eq.trans (hF.r hmo (by rw [kmo]; rfl)) z1565
                have z1598 : q_ir (q_r f1583 mo 1) bu := Eq.trans (hF.r hmo (by rw [kmo]; rfl)) z1566
                have z1599 : q_ir (q_r f1583 mo 29) cs := Eq.trans (hF.r hmo (by rw [kmo]; rfl)) z1567
                have z1600 : q_ir (q_r f1583 mo 30) c1 := Eq.trans (hF.r hmo (by rw [kmo]; rfl)) z1568
                have z1601 : q_ir (q_r f1583 mo 31) c2 := Eq.trans (hF.r hmo (by rw [kmo]; rfl)) z1569
                have z1602 : q_ir (q_r f1583 mo 32) c3 := Eq.trans (hF.r hmo (by rw [kmo]; rfl)) z1570
                have z1603 : q_ir (q_r f1583 mo 33) bg := Eq.trans (hF.r hmo (by rw [kmo]; rfl)) z1571
                have z1604 : q_ir (q_r f1583 mo 34) lp := Eq.trans (hF.r hmo (by rw [kmo]; rfl)) z1572
                have z1605 : q_ir (q_r f1583 mo 24) hp := Eq.trans (hF.r hmo (by rw [kmo]; rfl)) z1573
                have z1606 : q_ir (q_r f1583 mo 25) dy := Eq.trans (hF.r hmo (by rw [kmo]; rfl)) z1574
                have z1607 : q_ir (q_r f1583 mo 15) as := Eq.trans (hF.r hmo (by rw [kmo]; rfl)) z1575
                have z1608 : q_ir (q_r f1583 mo 17) pa := Eq.trans (hF.r hmo (by rw [kmo]; rfl)) z1576
                have g1609 : q_gr f1583 sr := q_gr_fr g1577 (fun i9 _ => hF.z hsr (by rw [ksr]; rfl))
                have g1610 : q_pk f1583 mo pa := q_pk_tr g1578 (hF.z hmo (by rw [kmo]; rfl)) (fun i9 => hF.z hpa (by rw [kpa]; rfl))
                have g1611 : q_sc f1583 mo cs c1 c2 := q_sc_tr t1560 (hF.z hmo (by rw [kmo]; rfl)) (hF.z hmo (by rw [kmo]; rfl)) (hF.z hmo (by rw [kmo]; rfl)) (fun i9 => hF.z hcs (by rw [kcs]; rfl)) (fun i9 => hF.z hc1 (by rw [kc1]; rfl)) (fun i9 => hF.z hc2 (by rw [kc2]; rfl))
                obtain ⟨x1612, ex1612⟩ : ∃ zz, q_is (q_z f1583 mo 4) zz := ⟨_, q_isr _⟩
                obtain ⟨lx1612, ux1612⟩ := q_isb ex1612 (q_fib hB.2.1 hmo kmo (by decide) rfl)
                obtain ⟨x1613, ex1613⟩ : ∃ zz, q_is (q_z f1583 mo 6) zz := ⟨_, q_isr _⟩
                obtain ⟨lx1613, ux1613⟩ := q_isb ex1613 (q_fib hB.2.1 hmo kmo (by decide) rfl)
                replace t1589 := q_isl9 ex1612 t1589
                replace t1590 := k_po_si ex1613 ex1612 t1590
                have hpo9 := k_po_lt t1559 (k_ne0 ex1580 t1591)
                refine q_ald_n cx dX12_runScript_56 rfl (lv_at hl 1 rfl) ?_
                refine q_cVv (As := []) (rest := []) cx hB (fun _ h => h) hN hmo kmo (by decide) rfl (r_closes0 l g hN hB.2.1 mo hmo kmo bu hbu kbu cs hcs kcs c1 hc1 kc1 c2 hc2 kc2 x1612 (by omega) (by omega) x1548 (by omega) (by omega) z1588 ex1612 z1595 z1598 z1599 z1600 z1601 g1611) q_cX12_503 q_dX12_closes (by decide) rfl rfl hl.1 rfl (Nat.le_of_ble_eq_true rfl) dX12_runScript_57 (fun H locs f1614 h1616 hF hB => ?_)
                rcases h1616 with h1617 | h1618
                · obtain ⟨z1619, t1620, t1621⟩ := h1617
                  have z1622 : q_is (q_z f1614 sr 3) xt := Eq.trans (hF.z hsr (by rw [ksr]; rfl)) z1592
                  have z1623 : q_is (q_z f1614 sr 4) xm := Eq.trans (hF.z hsr (by rw [ksr]; rfl)) z1593
                  have z1624 : q_is (q_z f1614 mo 2) w19_mo_2 := Eq.trans (hF.z hmo (by rw [kmo]; rfl)) z1594
                  have z1625 : q_ir (q_r f1614 mo 13) sr := Eq.trans (hF.r hmo (by rw [kmo]; rfl)) z1596
                  have z1626 : q_ir (q_r f1614 mo 18) nm := Eq.trans (hF.r hmo (by rw [kmo]; rfl)) z1597
                  have z1627 : q_ir (q_r f1614 mo 1) bu := Eq.trans (hF.r hmo (by rw [kmo]; rfl)) z1598
                  have z1628 : q_ir (q_r f1614 mo 29) cs := Eq.trans (hF.r hmo (by rw [kmo]; rfl)) z1599
                  have z1629 : q_ir (q_r f1614 mo 30) c1 := Eq.trans (hF.r hmo (by rw [kmo]; rfl)) z1600
                  have z1630 : q_ir (q_r f1614 mo 31) c2 := Eq.trans (hF.r hmo (by rw [kmo]; rfl)) z1601
                  have z1631 : q_ir (q_r f1614 mo 32) c3 := Eq.trans (hF.r hmo (by rw [kmo]; rfl)) z1602
                  have z1632 : q_ir (q_r f1614 mo 33) bg := Eq.trans (hF.r hmo (by rw [kmo]; rfl)) z1603
                  have z1633 : q_ir (q_r f1614 mo 34) lp := Eq.trans (hF.r hmo (by rw [kmo]; rfl)) z1604
                  have z1634 : q_ir (q_r f1614 mo 24) hp := Eq.trans (hF.r hmo (by rw [kmo]; rfl)) z1605
                  have z1635 : q_ir (q_r f1614 mo 25) dy := Eq.trans (hF.r hmo (by rw [kmo]; rfl)) z1606
                  have z1636 : q_ir (q_r f1614 mo 15) as := Eq.trans (hF.r hmo (by rw [kmo]; rfl)) z1607
                  have z1637 : q_ir (q_r f1614 mo 17) pa := Eq.trans (hF.r hmo (by rw [kmo]; rfl)) z1608
                  have g1638 : q_gr f1614 sr := q_gr_fr g1609 (fun i9 _ => hF.z hsr (by rw [ksr]; rfl))
                  have g1639 : q_pk f1614 mo pa := q_pk_tr g1610 (hF.z hmo (by rw [kmo]; rfl)) (fun i9 => hF.z hpa (by rw [kpa]; rfl))
                  obtain ⟨x1640, ex1640⟩ : ∃ zz, q_is (q_z f1614 mo 4) zz := ⟨_, q_isr _⟩
                  obtain ⟨lx1640, ux1640⟩ := q_isb ex1640 (q_fib hB.2.1 hmo kmo (by decide) rfl)
                  obtain ⟨x1641, ex1641⟩ : ∃ zz, q_is (q_z f1614 mo 6) zz := ⟨_, q_isr _⟩
                  obtain ⟨lx1641, ux1641⟩ := q_isb ex1641 (q_fib hB.2.1 hmo kmo (by decide) rfl)
                  replace t1620 := q_isl9 ex1640 t1620
                  refine lv_goto (tgt := 19) cx.1 cx.2.1 dX12_runScript_60 (by decide) ?_
                  exact ih19 f1614 w19_mo_2 (by omega) (by omega) 0 (by decide) (by decide) x1640 (by omega) (by omega) z1622 z1623 z1624 z1619 ex1640 z1625 z1626 z1627 z1628 z1629 z1630 z1631 z1632 z1633 z1634 z1635 z1636 z1637 g1638 g1639 t1621 (by omega) H locs hB ls (lv_sub hl [1] rfl)
                · obtain ⟨lz1642, uz1642⟩ := h1618
                  have z1643 : q_is (q_z f1614 sr 3) xt := Eq.trans (hF.z hsr (by rw [ksr]; rfl)) z1592
                  have z1644 : q_is (q_z f1614 sr 4) xm := Eq.trans (hF.z hsr (by rw [ksr]; rfl)) z1593
                  have z1645 : q_is (q_z f1614 mo 2) w19_mo_2 := Eq.trans (hF.z hmo (by rw [kmo]; rfl)) z1594
                  have z1646 : q_ir (q_r f1614 mo 13) sr := Eq.trans (hF.r hmo (by rw [kmo]; rfl)) z1596
                  have z1647 : q_ir (q_r f1614 mo 18) nm := Eq.trans (hF.r hmo (by rw [kmo]; rfl)) z1597
                  have z1648 : q_ir (q_r f1614 mo 1) bu := Eq.trans (hF.r hmo (by rw [kmo]; rfl)) z1598
                  have z1649 : q_ir (q_r f1614 mo 29) cs := Eq.trans (hF.r hmo (by rw [kmo]; rfl)) z1599
                  have z1650 : q_ir (q_r f1614 mo 30) c1 := Eq.trans (hF.r hmo (by rw [kmo]; rfl)) z1600
                  have z1651 : q_ir (q_r f1614 mo 31) c2 := Eq.trans (hF.r hmo (by rw [kmo]; rfl)) z1601
                  have z1652 : q_ir (q_r f1614 mo 32) c3 := Eq.trans (hF.r hmo (by rw [kmo]; rfl)) z1602
                  have z1653 : q_ir (q_r f1614 mo 33) bg := Eq.trans (hF.r hmo (by rw [kmo]; rfl)) z1603
                  have z1654 : q_ir (q_r f1614 mo 34) lp := Eq.trans (hF.r hmo (by rw [kmo]; rfl)) z1604
                  have z1655 : q_ir (q_r f1614 mo 24) hp := Eq.trans (hF.r hmo (by rw [kmo]; rfl)) z1605
                  have z1656 : q_ir (q_r f1614 mo 25) dy := Eq.trans (hF.r hmo (by rw [kmo]; rfl)) z1606
                  have z1657 : q_ir (q_r f1614 mo 15) as := Eq.trans (hF.r hmo (by rw [kmo]; rfl)) z1607
                  have z1658 : q_ir (q_r f1614 mo 17) pa := Eq.trans (hF.r hmo (by rw [kmo]; rfl)) z1608
                  have g1659 : q_gr f1614 sr := q_gr_fr g1609 (fun i9 _ => hF.z hsr (by rw [ksr]; rfl))
                  have g1660 : q_pk f1614 mo pa := q_pk_tr g1610 (hF.z hmo (by rw [kmo]; rfl)) (fun i9 => hF.z hpa (by rw [kpa]; rfl))
                  obtain ⟨x1661, ex1661⟩ : ∃ zz, q_is (q_z f1614 mo 8) zz := ⟨_, q_isr _⟩
                  obtain ⟨lx1661, ux1661⟩ := q_isb ex1661 ⟨lz1642, uz1642⟩
                  obtain ⟨x1662, ex1662⟩ : ∃ zz, q_is (q_z f1614 mo 4) zz := ⟨_, q_isr _⟩
                  obtain ⟨lx1662, ux1662⟩ := q_isb ex1662 (q_fib hB.2.1 hmo kmo (by decide) rfl)
                  obtain ⟨x1663, ex1663⟩ : ∃ zz, q_is (q_z f1614 mo 6) zz := ⟨_, q_isr _⟩
                  obtain ⟨lx1663, ux1663⟩ := q_isb ex1663 (q_fib hB.2.1 hmo kmo (by decide) rfl)
                  refine lv_goto (tgt := 19) cx.1 cx.2.1 dX12_runScript_60 (by decide) ?_
                  refine q_ald_n cx dX12_runScript_19 rfl (lv_at hl 1 rfl) ?_
                  refine q_cVi (As := []) (rest := []) cx hB (fun _ h => h) hN hmo kmo (by decide) rfl (r_isGood1 l g hN hB.2.1 mo hmo kmo x1661 (by omega) (by omega) ex1661) q_cX12_130 q_dX12_isGood (by decide) rfl rfl hl.1 rfl (Nat.le_of_ble_eq_true rfl) dX12_runScript_20 (fun y1665 H locs f1664 ry1665 h1666 hF hB => ?_)
                  obtain ⟨rfl, qy1665⟩ := h1666
                  subst qy1665
                  refine q_ifeq (tgt := 63) cx ⟨by decide, by decide⟩ dX12_runScript_23 (by decide) (fun c1667 => ?_) (fun c1667 => ?_)
                  · refine q_ald_n cx dX12_runScript_63 rfl (lv_at hl 1 rfl) ?_
                    refine q_cVi (As := []) (rest := []) cx hB (fun _ h => h) hN hmo kmo (by decide) rfl (r_isGood1 l g hN hB.2.1 mo hmo kmo x1661 (by omega) (by omega) ex1661) q_cX12_130 q_dX12_isGood (by decide) rfl rfl hl.1 rfl (Nat.le_of_ble_eq_true rfl) dX12_runScript_64 (fun y1669 H locs f1668 ry1669 h1670 hF hB => ?_)
                    obtain ⟨rfl, qy1669⟩ := h1670
                    subst qy1669
                    refine q_ifeq (tgt := 82) cx ⟨by decide, by decide⟩ dX12_runScript_67 (by decide) (fun c1671 => ?_) (fun c1671 => ?_)
                    · refine q_ald_n cx dX12_runScript_82 rfl (lv_at hl 1 rfl) ?_
                      refine q_cVi (As := []) (rest := []) cx hB (fun _ h => h) hN hmo kmo (by decide) rfl (r_endsText1 l g hN hB.2.1 mo hmo kmo x1661 (by omega) (by omega) ex1661) q_cX12_253 q_dX12_endsText (by decide) rfl rfl hl.1 rfl (Nat.le_of_ble_eq_true rfl) dX12_runScript_83 (fun y1673 H locs f1672 ry1673 h1674 hF hB => ?_)
                      obtain ⟨qy1673, z1675⟩ := h1674
                      have z1676 : q_is (q_z f1672 sr 3) xt := Eq.trans (hF.z hsr (by rw [ksr]; rfl)) z1643
                      have z1677 : q_is (q_z f1672 sr 4) xm := Eq.trans (hF.z hsr (by rw [ksr]; rfl)) z1644
                      have z1678 : q_is (q_z f1672 mo 2) w19_mo_2 := Eq.trans (hF.z hmo (by rw [kmo]; rfl)) z1645
                      have z1679 : q_is (q_z f1672 mo 8) x1661 := Eq.trans (hF.z hmo (by rw [kmo]; rfl)) ex1661
                      have z1680 : q_is (q_z f1672 mo 4) x1662 := Eq.trans (hF.z hmo (by rw [kmo]; rfl)) ex1662
                      have z1681 : q_is (q_z f1672 mo 6) x1663 := Eq.trans (hF.z hmo (by rw [kmo]; rfl)) ex1663
                      have z1682 : q_ir (q_r f1672 mo 13) sr := Eq.trans (hF.r hmo (by rw [kmo]; rfl)) z1646
                      have z1683 : q_ir (q_r f1672 mo 18) nm := Eq.trans (hF.r hmo (by rw [kmo]; rfl)) z1647
                      have z1684 : q_ir (q_r f1672 mo 1) bu := Eq.trans (hF.r hmo (by rw [kmo]; rfl)) z1648
                      have z1685 : q_ir (q_r f1672 mo 29) cs := Eq.trans (hF.r hmo (by rw [kmo]; rfl)) z1649
                      have z1686 : q_ir (q_r f1672 mo 30) c1 := Eq.trans (hF.r hmo (by rw [kmo]; rfl)) z1650
                      have z1687 : q_ir (q_r f1672 mo 31) c2 := Eq.trans (hF.r hmo (by rw [kmo]; rfl)) z1651
                      have z1688 : q_ir (q_r f1672 mo 32) c3 := Eq.trans (hF.r hmo (by rw [kmo]; rfl)) z1652
                      have z1689 : q_ir (q_r f1672 mo 33) bg := Eq.trans (hF.r hmo (by rw [kmo]; rfl)) z1653
                      have z1690 : q_ir (q_r f1672 mo 34) lp := Eq.trans (hF.r hmo (by rw [kmo]; rfl)) z1654
                      have z1691 : q_ir (q_r f1672 mo 24) hp := Eq.trans (hF.r hmo (by rw [kmo]; rfl)) z1655
                      have z1692 : q_ir (q_r f1672 mo 25) dy := Eq.trans (hF.r hmo (by rw [kmo]; rfl)) z1656
                      have z1693 : q_ir (q_r f1672 mo 15) as := Eq.trans (hF.r hmo (by rw [kmo]; rfl)) z1657
                      have z1694 : q_ir (q_r f1672 mo 17) pa := Eq.trans (hF.r hmo (by rw [kmo]; rfl)) z1658
                      have g1695 : q_gr f1672 sr := q_gr_fr g1659 (fun i9 _ => hF.z hsr (by rw [ksr]; rfl))
                      have g1696 : q_pk f1672 mo pa := q_pk_tr g1660 (hF.z hmo (by rw [kmo]; rfl)) (fun i9 => hF.z hpa (by rw [kpa]; rfl))
                      subst qy1673
                      refine q_ifne (tgt := 91) cx ⟨by decide, by decide⟩ dX12_runScript_86 (by decide) (fun c1697 => ?_) (fun c1697 => ?_)
                      · exact absurd c1697 (by omega)
                      · refine q_iconst cx dX12_runScript_89 ?_
                        refine q_iret cx hr hlk hB dX12_runScript_90 ⟨by decide, by decide⟩ ?_
                        exact ⟨(by decide), (by decide), (q_isl z1676 (by omega)), (q_isu z1676 (by omega)), (q_isl z1677 (by omega)), (q_isu z1677 (by omega)), (Eq.trans z1678 (by omega)), g1695, g1696⟩
                    · exact absurd c1671 (by omega)
                  · exact absurd c1667 (by omega)
              · obtain ⟨lz1698, uz1698⟩ := h1587
                have z1699 : q_is (q_z f1583 sr 3) xt := Eq.trans (hF.z hsr (by rw [ksr]; rfl)) z1561
                have z1700 : q_is (q_z f1583 sr 4) xm := Eq.trans (hF.z hsr (by rw [ksr]; rfl)) z1562
                have z1701 : q_is (q_z f1583 mo 2) w19_mo_2 := Eq.trans (hF.z hmo (by rw [kmo]; rfl)) z1563
                have z1702 : q_is (q_z f1583 mo 37) x1548 := Eq.trans (hF.z hmo (by rw [kmo]; rfl)) z1557
                have z1703 : q_ir (q_r f1583 mo 13) sr := Eq.trans (hF.r hmo (by rw [kmo]; rfl)) z1564
                have z1704 : q_ir (q_r f1583 mo 18) nm := Eq.trans (hF.r hmo (by rw [kmo]; rfl)) z1565
                have z1705 : q_ir (q_r f1583 mo 1) bu := Eq.trans (hF.r hmo (by rw [kmo]; rfl)) z1566
                have z1706 : q_ir (q_r f1583 mo 29) cs := Eq.trans (hF.r hmo (by rw [kmo]; rfl)) z1567
                have z1707 : q_ir (q_r f1583 mo 30) c1 := Eq.trans (hF.r hmo (by rw [kmo]; rfl)) z1568
                have z1708 : q_ir (q_r f1583 mo 31) c2 := Eq.trans (hF.r hmo (by rw [kmo]; rfl)) z1569
                have z1709 : q_ir (q_r f1583 mo 32) c3 := Eq.trans (hF.r hmo (by rw [kmo]; rfl)) z1570
                have z1710 : q_ir (q_r f1583 mo 33) bg := Eq.trans (hF.r hmo (by rw [kmo]; rfl)) z1571
                have z1711 : q_ir (q_r f1583 mo 34) lp := Eq.trans (hF.r hmo (by rw [kmo]; rfl)) z1572
                have z1712 : q_ir (q_r f1583 mo 24) hp := Eq.trans (hF.r hmo (by rw [kmo]; rfl)) z1573
                have z1713 : q_ir (q_r f1583 mo 25) dy := Eq.trans (hF.r hmo (by rw [kmo]; rfl)) z1574
                have z1714 : q_ir (q_r f1583 mo 15) as := Eq.trans (hF.r hmo (by rw [kmo]; rfl)) z1575
                have z1715 : q_ir (q_r f1583 mo 17) pa := Eq.trans (hF.r hmo (by rw [kmo]; rfl)) z1576
                have g1716 : q_gr f1583 sr := q_gr_fr g1577 (fun i9 _ => hF.z hsr (by rw [ksr]; rfl))
                have g1717 : q_pk f1583 mo pa := q_pk_tr g1578 (hF.z hmo (by rw [kmo]; rfl)) (fun i9 => hF.z hpa (by rw [kpa]; rfl))
                have g1718 : q_sc f1583 mo cs c1 c2 := q_sc_tr t1560 (hF.z hmo (by rw [kmo]; rfl)) (hF.z hmo (by rw [kmo]; rfl)) (hF.z hmo (by rw [kmo]; rfl)) (fun i9 => hF.z hcs (by rw [kcs]; rfl)) (fun i9 => hF.z hc1 (by rw [kc1]; rfl)) (fun i9 => hF.z hc2 (by rw [kc2]; rfl))
                obtain ⟨x1719, ex1719⟩ : ∃ zz, q_is (q_z f1583 mo 8) zz := ⟨_, q_isr _⟩
                obtain ⟨lx1719, ux1719⟩ := q_isb ex1719 ⟨lz1698, uz1698⟩
                obtain ⟨x1720, ex1720⟩ : ∃ zz, q_is (q_z f1583 mo 4) zz := ⟨_, q_isr _⟩
                obtain ⟨lx1720, ux1720⟩ := q_isb ex1720 (q_fib hB.2.1 hmo kmo (by decide) rfl)
                obtain ⟨x1721, ex1721⟩ : ∃ zz, q_is (q_z f1583 mo 6) zz := ⟨_, q_isr _⟩
                obtain ⟨lx1721, ux1721⟩ := q_isb ex1721 (q_fib hB.2.1 hmo kmo (by decide) rfl)
                refine q_ald_n cx dX12_runScript_56 rfl (lv_at hl 1 rfl) ?_
                refine q_cVv (As := []) (rest := []) cx hB (fun _ h => h) hN hmo kmo (by decide) rfl (r_closes1 l g hN hB.2.1 mo hmo kmo x1719 (by omega) (by omega) ex1719) q_cX12_503 q_dX12_closes (by decide) rfl rfl hl.1 rfl (Nat.le_of_ble_eq_true rfl) dX12_runScript_57 (fun H locs f1722 h1724 hF hB => ?_)
                obtain rfl := h1724
                refine lv_goto (tgt := 19) cx.1 cx.2.1 dX12_runScript_60 (by decide) ?_
                refine q_ald_n cx dX12_runScript_19 rfl (lv_at hl 1 rfl) ?_
                refine q_cVi (As := []) (rest := []) cx hB (fun _ h => h) hN hmo kmo (by decide) rfl (r_isGood1 l g hN hB.2.1 mo hmo kmo x1719 (by omega) (by omega) ex1719) q_cX12_130 q_dX12_isGood (by decide) rfl rfl hl.1 rfl (Nat.le_of_ble_eq_true rfl) dX12_runScript_20 (fun y1726 H locs f1725 ry1726 h1727 hF hB => ?_)
                obtain ⟨rfl, qy1726⟩ := h1727
                subst qy1726
                refine q_ifeq (tgt := 63) cx ⟨by decide, by decide⟩ dX12_runScript_23 (by decide) (fun c1728 => ?_) (fun c1728 => ?_)
                · refine q_ald_n cx dX12_runScript_63 rfl (lv_at hl 1 rfl) ?_
                  refine q_cVi (As := []) (rest := []) cx hB (fun _ h => h) hN hmo kmo (by decide) rfl (r_isGood1 l g hN hB.2.1 mo hmo kmo x1719 (by omega) (by omega) ex1719) q_cX12_130 q_dX12_isGood (by decide) rfl rfl hl.1 rfl (Nat.le_of_ble_eq_true rfl) dX12_runScript_64 (fun y1730 H locs f1729 ry1730 h1731 hF hB => ?_)
                  obtain ⟨rfl, qy1730⟩ := h1731
                  subst qy1730
                  refine q_ifeq (tgt := 82) cx ⟨by decide, by decide⟩ dX12_runScript_67 (by decide) (fun c1732 => ?_) (fun c1732 => ?_)
                  · refine q_ald_n cx dX12_runScript_82 rfl (lv_at hl 1 rfl) ?_
                    refine q_cVi (As := []) (rest := []) cx hB (fun _ h => h) hN hmo kmo (by decide) rfl (r_endsText1 l g hN hB.2.1 mo hmo kmo x1719 (by omega) (by omega) ex1719) q_cX12_253 q_dX12_endsText (by decide) rfl rfl hl.1 rfl (Nat.le_of_ble_eq_true rfl) dX12_runScript_83 (fun y1734 H locs f1733 ry1734 h1735 hF hB => ?_)
                    obtain ⟨qy1734, z1736⟩ := h1735
                    have z1737 : q_is (q_z f1733 sr 3) xt := Eq.trans (hF.z hsr (by rw [ksr]; rfl)) z1699
                    have z1738 : q_is (q_z f1733 sr 4) xm := Eq.trans (hF.z hsr (by rw [ksr]; rfl)) z1700
                    have z1739 : q_is (q_z f1733 mo 2) w19_mo_2 := Eq.trans (hF.z hmo (by rw [kmo]; rfl)) z1701
                    have z1740 : q_is (q_z f1733 mo 37) x1548 := Eq.trans (hF.z hmo (by rw [kmo]; rfl)) z1702
                    have z1741 : q_is (q_z f1733 mo 8) x1719 := Eq.trans (hF.z hmo (by rw [kmo]; rfl)) ex1719
                    have z1742 : q_is (q_z f1733 mo 4) x1720 := Eq.trans (hF.z hmo (by rw [kmo]; rfl)) ex1720
                    have z1743 : q_is (q_z f1733 mo 6) x1721 := Eq.trans (hF.z hmo (by rw [kmo]; rfl)) ex1721
                    have z1744 : q_ir (q_r f1733 mo 13) sr := Eq.trans (hF.r hmo (by rw [kmo]; rfl)) z1703
                    have z1745 : q_ir (q_r f1733 mo 18) nm := Eq.trans (hF.r hmo (by rw [kmo]; rfl)) z1704
                    have z1746 : q_ir (q_r f1733 mo 1) bu := Eq.trans (hF.r hmo (by rw [kmo]; rfl)) z1705
                    have z1747 : q_ir (q_r f1733 mo 29) cs := Eq.trans (hF.r hmo (by rw [kmo]; rfl)) z1706
                    have z1748 : q_ir (q_r f1733 mo 30) c1 := Eq.trans (hF.r hmo (by rw [kmo]; rfl)) z1707
                    have z1749 : q_ir (q_r f1733 mo 31) c2 := Eq.trans (hF.r hmo (by rw [kmo]; rfl)) z1708
                    have z1750 : q_ir (q_r f1733 mo 32) c3 := Eq.trans (hF.r hmo (by rw [kmo]; rfl)) z1709
                    have z1751 : q_ir (q_r f1733 mo 33) bg := Eq.trans (hF.r hmo (by rw [kmo]; rfl)) z1710
                    have z1752 : q_ir (q_r f1733 mo 34) lp := Eq.trans (hF.r hmo (by rw [kmo]; rfl)) z1711
                    have z1753 : q_ir (q_r f1733 mo 24) hp := Eq.trans (hF.r hmo (by rw [kmo]; rfl)) z1712
                    have z1754 : q_ir (q_r f1733 mo 25) dy := Eq.trans (hF.r hmo (by rw [kmo]; rfl)) z1713
                    have z1755 : q_ir (q_r f1733 mo 15) as := Eq.trans (hF.r hmo (by rw [kmo]; rfl)) z1714
                    have z1756 : q_ir (q_r f1733 mo 17) pa := Eq.trans (hF.r hmo (by rw [kmo]; rfl)) z1715
                    have g1757 : q_gr f1733 sr := q_gr_fr g1716 (fun i9 _ => hF.z hsr (by rw [ksr]; rfl))
                    have g1758 : q_pk f1733 mo pa := q_pk_tr g1717 (hF.z hmo (by rw [kmo]; rfl)) (fun i9 => hF.z hpa (by rw [kpa]; rfl))
                    have g1759 : q_sc f1733 mo cs c1 c2 := q_sc_tr g1718 (hF.z hmo (by rw [kmo]; rfl)) (hF.z hmo (by rw [kmo]; rfl)) (hF.z hmo (by rw [kmo]; rfl)) (fun i9 => hF.z hcs (by rw [kcs]; rfl)) (fun i9 => hF.z hc1 (by rw [kc1]; rfl)) (fun i9 => hF.z hc2 (by rw [kc2]; rfl))
                    subst qy1734
                    refine q_ifne (tgt := 91) cx ⟨by decide, by decide⟩ dX12_runScript_86 (by decide) (fun c1760 => ?_) (fun c1760 => ?_)
                    · exact absurd c1760 (by omega)
                    · refine q_iconst cx dX12_runScript_89 ?_
                      refine q_iret cx hr hlk hB dX12_runScript_90 ⟨by decide, by decide⟩ ?_
                      exact ⟨(by decide), (by decide), (q_isl z1737 (by omega)), (q_isu z1737 (by omega)), (q_isl z1738 (by omega)), (q_isu z1738 (by omega)), (Eq.trans z1739 (by omega)), g1757, g1758⟩
                  · exact absurd c1732 (by omega)
                · exact absurd c1728 (by omega)
          · obtain ⟨z1761, z1762, t1763, t1764⟩ := h1554
            have z1765 : q_is (q_z f1550 sr 3) xt := Eq.trans (hF.z hsr (by rw [ksr]; rfl)) hj_sr_3
            have z1766 : q_is (q_z f1550 sr 4) xm := Eq.trans (hF.z hsr (by rw [ksr]; rfl)) hj_sr_4
            have z1767 : q_is (q_z f1550 mo 2) w19_mo_2 := Eq.trans (hF.z hmo (by rw [kmo]; rfl)) hj_mo_2
            have z1768 : q_ir (q_r f1550 mo 13) sr := Eq.trans (hF.r hmo (by rw [kmo]; rfl)) hq_mo_13
            have z1769 : q_ir (q_r f1550 mo 18) nm := Eq.trans (hF.r hmo (by rw [kmo]; rfl)) hq_mo_18
            have z1770 : q_ir (q_r f1550 mo 1) bu := Eq.trans (hF.r hmo (by rw [kmo]; rfl)) hq_mo_1
            have z1771 : q_ir (q_r f1550 mo 29) cs := Eq.trans (hF.r hmo (by rw [kmo]; rfl)) hq_mo_29
            have z1772 : q_ir (q_r f1550 mo 30) c1 := Eq.trans (hF.r hmo (by rw [kmo]; rfl)) hq_mo_30
            have z1773 : q_ir (q_r f1550 mo 31) c2 := Eq.trans (hF.r hmo (by rw [kmo]; rfl)) hq_mo_31
            have z1774 : q_ir (q_r f1550 mo 32) c3 := Eq.trans (hF.r hmo (by rw [kmo]; rfl)) hq_mo_32
            have z1775 : q_ir (q_r f1550 mo 33) bg := Eq.trans (hF.r hmo (by rw [kmo]; rfl)) hq_mo_33
            have z1776 : q_ir (q_r f1550 mo 34) lp := Eq.trans (hF.r hmo (by rw [kmo]; rfl)) hq_mo_34
            have z1777 : q_ir (q_r f1550 mo 24) hp := Eq.trans (hF.r hmo (by rw [kmo]; rfl)) hq_mo_24
            have z1778 : q_ir (q_r f1550 mo 25) dy := Eq.trans (hF.r hmo (by rw [kmo]; rfl)) hq_mo_25
            have z1779 : q_ir (q_r f1550 mo 15) as := Eq.trans (hF.r hmo (by rw [kmo]; rfl)) hq_mo_15
            have z1780 : q_ir (q_r f1550 mo 17) pa := Eq.trans (hF.r hmo (by rw [kmo]; rfl)) hq_mo_17
            have g1781 : q_gr f1550 sr := q_gr_fr hgr19 (fun i9 _ => hF.z hsr (by rw [ksr]; rfl))
            have g1782 : q_pk f1550 mo pa := q_pk_tr hpk19 (hF.z hmo (by rw [kmo]; rfl)) (fun i9 => hF.z hpa (by rw [kpa]; rfl))
            obtain ⟨x1783, ex1783⟩ : ∃ zz, q_is (q_z f1550 mo 4) zz := ⟨_, q_isr _⟩
            obtain ⟨lx1783, ux1783⟩ := q_isb ex1783 (q_fib hB.2.1 hmo kmo (by decide) rfl)
            obtain ⟨x1784, ex1784⟩ : ∃ zz, q_is (q_z f1550 mo 6) zz := ⟨_, q_isr _⟩
            obtain ⟨lx1784, ux1784⟩ := q_isb ex1784 (q_fib hB.2.1 hmo kmo (by decide) rfl)
            replace t1763 := q_islt9 ex1783 t1763
            refine q_ald_n cx dX12_runScript_42 rfl (lv_at hl 1 rfl) ?_
            refine q_gX12_488 cx hB hmo kmo z1762 dX12_runScript_43 (fun lb1785 ub1785 => ?_)
            refine q_ild_n cx dX12_runScript_46 rfl (lv_at hl 0 rfl) ?_
            refine q_icne (tgt := 56) cx ⟨by omega, by omega⟩ ⟨by omega, by omega⟩ dX12_runScript_47 (by decide) (fun c1786 => ?_) (fun c1786 => ?_)
            · refine q_ald_n cx dX12_runScript_56 rfl (lv_at hl 1 rfl) ?_
              refine q_cVv (As := []) (rest := []) cx hB (fun _ h => h) hN hmo kmo (by decide) rfl (r_closes0 l g hN hB.2.1 mo hmo kmo bu hbu kbu cs hcs kcs c1 hc1 kc1 c2 hc2 kc2 x1783 (by omega) (by omega) (x1548 + 1) (by omega) (by omega) z1761 ex1783 z1762 z1770 z1771 z1772 z1773 t1764) q_cX12_503 q_dX12_closes (by decide) rfl rfl hl.1 rfl (Nat.le_of_ble_eq_true rfl) dX12_runScript_57 (fun H locs f1787 h1789 hF hB => ?_)
              rcases h1789 with h1790 | h1791
              · obtain ⟨z1792, t1793, t1794⟩ := h1790
                have z1795 : q_is (q_z f1787 sr 3) xt := Eq.trans (hF.z hsr (by rw [ksr]; rfl)) z1765
                have z1796 : q_is (q_z f1787 sr 4) xm := Eq.trans (hF.z hsr (by rw [ksr]; rfl)) z1766
                have z1797 : q_is (q_z f1787 mo 2) w19_mo_2 := Eq.trans (hF.z hmo (by rw [kmo]; rfl)) z1767
                have z1798 : q_ir (q_r f1787 mo 13) sr := Eq.trans (hF.r hmo (by rw [kmo]; rfl)) z1768
                have z1799 : q_ir (q_r f1787 mo 18) nm := Eq.trans (hF.r hmo (by rw [kmo]; rfl)) z1769
                have z1800 : q_ir (q_r f1787 mo 1) bu := Eq.trans (hF.r hmo (by rw [kmo]; rfl)) z1770
                have z1801 : q_ir (q_r f1787 mo 29) cs := Eq.trans (hF.r hmo (by rw [kmo]; rfl)) z1771
                have z1802 : q_ir (q_r f1787 mo 30) c1 := Eq.trans (hF.r hmo (by rw [kmo]; rfl)) z1772
                have z1803 : q_ir (q_r f1787 mo 31) c2 := Eq.trans (hF.r hmo (by rw [kmo]; rfl)) z1773
                have z1804 : q_ir (q_r f1787 mo 32) c3 := Eq.trans (hF.r hmo (by rw [kmo]; rfl)) z1774
                have z1805 : q_ir (q_r f1787 mo 33) bg := Eq.trans (hF.r hmo (by rw [kmo]; rfl)) z1775
                have z1806 : q_ir (q_r f1787 mo 34) lp := Eq.trans (hF.r hmo (by rw [kmo]; rfl)) z1776
                have z1807 : q_ir (q_r f1787 mo 24) hp := Eq.trans (hF.r hmo (by rw [kmo]; rfl)) z1777
                have z1808 : q_ir (q_r f1787 mo 25) dy := Eq.trans (hF.r hmo (by rw [kmo]; rfl)) z1778
                have z1809 : q_ir (q_r f1787 mo 15) as := Eq.trans (hF.r hmo (by rw [kmo]; rfl)) z1779
                have z1810 : q_ir (q_r f1787 mo 17) pa := Eq.trans (hF.r hmo (by rw [kmo]; rfl)) z1780
                have g1811 : q_gr f1787 sr := q_gr_fr g1781 (fun i9 _ => hF.z hsr (by rw [ksr]; rfl))
                have g1812 : q_pk f1787 mo pa := q_pk_tr g1782 (hF.z hmo (by rw [kmo]; rfl)) (fun i9 => hF.z hpa (by rw [kpa]; rfl))
                obtain ⟨x1813, ex1813⟩ : ∃ zz, q_is (q_z f1787 mo 4) zz := ⟨_, q_isr _⟩
                obtain ⟨lx1813, ux1813⟩ := q_isb ex1813 (q_fib hB.2.1 hmo kmo (by decide) rfl)
                obtain ⟨x1814, ex1814⟩ : ∃ zz, q_is (q_z f1787 mo 6) zz := ⟨_, q_isr _⟩
                obtain ⟨lx1814, ux1814⟩ := q_isb ex1814 (q_fib hB.2.1 hmo kmo (by decide) rfl)
                replace t1793 := q_isl9 ex1813 t1793
                refine lv_goto (tgt := 19) cx.1 cx.2.1 dX12_runScript_60 (by decide) ?_
                exact ih19 f1787 w19_mo_2 (by omega) (by omega) 0 (by decide) (by decide) x1813 (by omega) (by omega) z1795 z1796 z1797 z1792 ex1813 z1798 z1799 z1800 z1801 z1802 z1803 z1804 z1805 z1806 z1807 z1808 z1809 z1810 g1811 g1812 t1794 (by omega) H locs hB ls (lv_sub hl [1] rfl)
              · obtain ⟨lz1815, uz1815⟩ := h1791
                have z1816 : q_is (q_z f1787 sr 3) xt := Eq.trans (hF.z hsr (by rw [ksr]; rfl)) z1765
                have z1817 : q_is (q_z f1787 sr 4) xm := Eq.trans (hF.z hsr (by rw [ksr]; rfl)) z1766
                have z1818 : q_is (q_z f1787 mo 2) w19_mo_2 := Eq.trans (hF.z hmo (by rw [kmo]; rfl)) z1767
                have z1819 : q_ir (q_r f1787 mo 13) sr := Eq.trans (hF.r hmo (by rw [kmo]; rfl)) z1768
                have z1820 : q_ir (q_r f1787 mo 18) nm := Eq.trans (hF.r hmo (by rw [kmo]; rfl)) z1769
                have z1821 : q_ir (q_r f1787 mo 1) bu := Eq.trans (hF.r hmo (by rw [kmo]; rfl)) z1770
                have z1822 : q_ir (q_r f1787 mo 29) cs := Eq.trans (hF.r hmo (by rw [kmo]; rfl)) z1771
                have z1823 : q_ir (q_r f1787 mo 30) c1 := Eq.trans (hF.r hmo (by rw [kmo]; rfl)) z1772
                have z1824 : q_ir (q_r f1787 mo 31) c2 := Eq.trans (hF.r hmo (by rw [kmo]; rfl)) z1773
                have z1825 : q_ir (q_r f1787 mo 32) c3 := Eq.trans (hF.r hmo (by rw [kmo]; rfl)) z1774
                have z1826 : q_ir (q_r f1787 mo 33) bg := Eq.trans (hF.r hmo (by rw [kmo]; rfl)) z1775
                have z1827 : q_ir (q_r f1787 mo 34) lp := Eq.trans (hF.r hmo (by rw [kmo]; rfl)) z1776
                have z1828 : q_ir (q_r f1787 mo 24) hp := Eq.trans (hF.r hmo (by rw [kmo]; rfl)) z1777
                have z1829 : q_ir (q_r f1787 mo 25) dy := Eq.trans (hF.r hmo (by rw [kmo]; rfl)) z1778
                have z1830 : q_ir (q_r f1787 mo 15) as := Eq.trans (hF.r hmo (by rw [kmo]; rfl)) z1779
                have z1831 : q_ir (q_r f1787 mo 17) pa := Eq.trans (hF.r hmo (by rw [kmo]; rfl)) z1780
                have g1832 : q_gr f1787 sr := q_gr_fr g1781 (fun i9 _ => hF.z hsr (by rw [ksr]; rfl))
                have g1833 : q_pk f1787 mo pa := q_pk_tr g1782 (hF.z hmo (by rw [kmo]; rfl)) (fun i9 => hF.z hpa (by rw [kpa]; rfl))
                obtain ⟨x1834, ex1834⟩ : ∃ zz, q_is (q_z f1787 mo 8) zz := ⟨_, q_isr _⟩
                obtain ⟨lx1834, ux1834⟩ := q_isb ex1834 ⟨lz1815, uz1815⟩
                obtain ⟨x1835, ex1835⟩ : ∃ zz, q_is (q_z f1787 mo 4) zz := ⟨_, q_isr _⟩
                obtain ⟨lx1835, ux1835⟩ := q_isb ex1835 (q_fib hB.2.1 hmo kmo (by decide) rfl)
                obtain ⟨x1836, ex1836⟩ : ∃ zz, q_is (q_z f1787 mo 6) zz := ⟨_, q_isr _⟩
                obtain ⟨lx1836, ux1836⟩ := q_isb ex1836 (q_fib hB.2.1 hmo kmo (by decide) rfl)
                refine lv_goto (tgt := 19) cx.1 cx.2.1 dX12_runScript_60 (by decide) ?_
                refine q_ald_n cx dX12_runScript_19 rfl (lv_at hl 1 rfl) ?_
                refine q_cVi (As := []) (rest := []) cx hB (fun _ h => h) hN hmo kmo (by decide) rfl (r_isGood1 l g hN hB.2.1 mo hmo kmo x1834 (by omega) (by omega) ex1834) q_cX12_130 q_dX12_isGood (by decide) rfl rfl hl.1 rfl (Nat.le_of_ble_eq_true rfl) dX12_runScript_20 (fun y1838 H locs f1837 ry1838 h1839 hF hB => ?_)
                obtain ⟨rfl, qy1838⟩ := h1839
                subst qy1838
                refine q_ifeq (tgt := 63) cx ⟨by decide, by decide⟩ dX12_runScript_23 (by decide) (fun c1840 => ?_) (fun c1840 => ?_)
                · refine q_ald_n cx dX12_runScript_63 rfl (lv_at hl 1 rfl) ?_
                  refine q_cVi (As := []) (rest := []) cx hB (fun _ h => h) hN hmo kmo (by decide) rfl (r_isGood1 l g hN hB.2.1 mo hmo kmo x1834 (by omega) (by omega) ex1834) q_cX12_130 q_dX12_isGood (by decide) rfl rfl hl.1 rfl (Nat.le_of_ble_eq_true rfl) dX12_runScript_64 (fun y1842 H locs f1841 ry1842 h1843 hF hB => ?_)
                  obtain ⟨rfl, qy1842⟩ := h1843
                  subst qy1842
                  refine q_ifeq (tgt := 82) cx ⟨by decide, by decide⟩ dX12_runScript_67 (by decide) (fun c1844 => ?_) (fun c1844 => ?_)
                  · refine q_ald_n cx dX12_runScript_82 rfl (lv_at hl 1 rfl) ?_
                    refine q_cVi (As := []) (rest := []) cx hB (fun _ h => h) hN hmo kmo (by decide) rfl (r_endsText1 l g hN hB.2.1 mo hmo kmo x1834 (by omega) (by omega) ex1834) q_cX12_253 q_dX12_endsText (by decide) rfl rfl hl.1 rfl (Nat.le_of_ble_eq_true rfl) dX12_runScript_83 (fun y1846 H locs f1845 ry1846 h1847 hF hB => ?_)
                    obtain ⟨qy1846, z1848⟩ := h1847
                    have z1849 : q_is (q_z f1845 sr 3) xt := Eq.trans (hF.z hsr (by rw [ksr]; rfl)) z1816
                    have z1850 : q_is (q_z f1845 sr 4) xm := Eq.trans (hF.z hsr (by rw [ksr]; rfl)) z1817
                    have z1851 : q_is (q_z f1845 mo 2) w19_mo_2 := Eq.trans (hF.z hmo (by rw [kmo]; rfl)) z1818
                    have z1852 : q_is (q_z f1845 mo 8) x1834 := Eq.trans (hF.z hmo (by rw [kmo]; rfl)) ex1834
                    have z1853 : q_is (q_z f1845 mo 4) x1835 := Eq.trans (hF.z hmo (by rw [kmo]; rfl)) ex1835
                    have z1854 : q_is (q_z f1845 mo 6) x1836 := Eq.trans (hF.z hmo (by rw [kmo]; rfl)) ex1836
                    have z1855 : q_ir (q_r f1845 mo 13) sr := Eq.trans (hF.r hmo (by rw [kmo]; rfl)) z1819
                    have z1856 : q_ir (q_r f1845 mo 18) nm := Eq.trans (hF.r hmo (by rw [kmo]; rfl)) z1820
                    have z1857 : q_ir (q_r f1845 mo 1) bu := Eq.trans (hF.r hmo (by rw [kmo]; rfl)) z1821
                    have z1858 : q_ir (q_r f1845 mo 29) cs := Eq.trans (hF.r hmo (by rw [kmo]; rfl)) z1822
                    have z1859 : q_ir (q_r f1845 mo 30) c1 := Eq.trans (hF.r hmo (by rw [kmo]; rfl)) z1823
                    have z1860 : q_ir (q_r f1845 mo 31) c2 := Eq.trans (hF.r hmo (by rw [kmo]; rfl)) z1824
                    have z1861 : q_ir (q_r f1845 mo 32) c3 := Eq.trans (hF.r hmo (by rw [kmo]; rfl)) z1825
                    have z1862 : q_ir (q_r f1845 mo 33) bg := Eq.trans (hF.r hmo (by rw [kmo]; rfl)) z1826
                    have z1863 : q_ir (q_r f1845 mo 34) lp := Eq.trans (hF.r hmo (by rw [kmo]; rfl)) z1827
                    have z1864 : q_ir (q_r f1845 mo 24) hp := Eq.trans (hF.r hmo (by rw [kmo]; rfl)) z1828
                    have z1865 : q_ir (q_r f1845 mo 25) dy := Eq.trans (hF.r hmo (by rw [kmo]; rfl)) z1829
                    have z1866 : q_ir (q_r f1845 mo 15) as := Eq.trans (hF.r hmo (by rw [kmo]; rfl)) z1830
                    have z1867 : q_ir (q_r f1845 mo 17) pa := Eq.trans (hF.r hmo (by rw [kmo]; rfl)) z1831
                    have g1868 : q_gr f1845 sr := q_gr_fr g1832 (fun i9 _ => hF.z hsr (by rw [ksr]; rfl))
                    have g1869 : q_pk f1845 mo pa := q_pk_tr g1833 (hF.z hmo (by rw [kmo]; rfl)) (fun i9 => hF.z hpa (by rw [kpa]; rfl))
                    subst qy1846
                    refine q_ifne (tgt := 91) cx ⟨by decide, by decide⟩ dX12_runScript_86 (by decide) (fun c1870 => ?_) (fun c1870 => ?_)
                    · exact absurd c1870 (by omega)
                    · refine q_iconst cx dX12_runScript_89 ?_
                      refine q_iret cx hr hlk hB dX12_runScript_90 ⟨by decide, by decide⟩ ?_
                      exact ⟨(by decide), (by decide), (q_isl z1849 (by omega)), (q_isu z1849 (by omega)), (q_isl z1850 (by omega)), (q_isu z1850 (by omega)), (Eq.trans z1851 (by omega)), g1868, g1869⟩
                  · exact absurd c1844 (by omega)
                · exact absurd c1840 (by omega)
            · exact absurd c1786 (by omega)
          · obtain ⟨lz1871, uz1871⟩ := h1555
            have z1872 : q_is (q_z f1550 sr 3) xt := Eq.trans (hF.z hsr (by rw [ksr]; rfl)) hj_sr_3
            have z1873 : q_is (q_z f1550 sr 4) xm := Eq.trans (hF.z hsr (by rw [ksr]; rfl)) hj_sr_4
            have z1874 : q_is (q_z f1550 mo 2) w19_mo_2 := Eq.trans (hF.z hmo (by rw [kmo]; rfl)) hj_mo_2
            have z1875 : q_ir (q_r f1550 mo 13) sr := Eq.trans (hF.r hmo (by rw [kmo]; rfl)) hq_mo_13
            have z1876 : q_ir (q_r f1550 mo 18) nm := Eq.trans (hF.r hmo (by rw [kmo]; rfl)) hq_mo_18
            have z1877 : q_ir (q_r f1550 mo 1) bu := Eq.trans (hF.r hmo (by rw [kmo]; rfl)) hq_mo_1
            have z1878 : q_ir (q_r f1550 mo 29) cs := Eq.trans (hF.r hmo (by rw [kmo]; rfl)) hq_mo_29
            have z1879 : q_ir (q_r f1550 mo 30) c1 := Eq.trans (hF.r hmo (by rw [kmo]; rfl)) hq_mo_30
            have z1880 : q_ir (q_r f1550 mo 31) c2 := Eq.trans (hF.r hmo (by rw [kmo]; rfl)) hq_mo_31
            have z1881 : q_ir (q_r f1550 mo 32) c3 := Eq.trans (hF.r hmo (by rw [kmo]; rfl)) hq_mo_32
            have z1882 : q_ir (q_r f1550 mo 33) bg := Eq.trans (hF.r hmo (by rw [kmo]; rfl)) hq_mo_33
            have z1883 : q_ir (q_r f1550 mo 34) lp := Eq.trans (hF.r hmo (by rw [kmo]; rfl)) hq_mo_34
            have z1884 : q_ir (q_r f1550 mo 24) hp := Eq.trans (hF.r hmo (by rw [kmo]; rfl)) hq_mo_24
            have z1885 : q_ir (q_r f1550 mo 25) dy := Eq.trans (hF.r hmo (by rw [kmo]; rfl)) hq_mo_25
            have z1886 : q_ir (q_r f1550 mo 15) as := Eq.trans (hF.r hmo (by rw [kmo]; rfl)) hq_mo_15
            have z1887 : q_ir (q_r f1550 mo 17) pa := Eq.trans (hF.r hmo (by rw [kmo]; rfl)) hq_mo_17
            have g1888 : q_gr f1550 sr := q_gr_fr hgr19 (fun i9 _ => hF.z hsr (by rw [ksr]; rfl))
            have g1889 : q_pk f1550 mo pa := q_pk_tr hpk19 (hF.z hmo (by rw [kmo]; rfl)) (fun i9 => hF.z hpa (by rw [kpa]; rfl))
            obtain ⟨x1890, ex1890⟩ : ∃ zz, q_is (q_z f1550 mo 8) zz := ⟨_, q_isr _⟩
            obtain ⟨lx1890, ux1890⟩ := q_isb ex1890 ⟨lz1871, uz1871⟩
            obtain ⟨x1891, ex1891⟩ : ∃ zz, q_is (q_z f1550 mo 4) zz := ⟨_, q_isr _⟩
            obtain ⟨lx1891, ux1891⟩ := q_isb ex1891 (q_fib hB.2.1 hmo kmo (by decide) rfl)
            obtain ⟨x1892, ex1892⟩ : ∃ zz, q_is (q_z f1550 mo 6) zz := ⟨_, q_isr _⟩
            obtain ⟨lx1892, ux1892⟩ := q_isb ex1892 (q_fib hB.2.1 hmo kmo (by decide) rfl)
            obtain ⟨x1893, ex1893⟩ : ∃ zz, q_is (q_z f1550 mo 37) zz := ⟨_, q_isr _⟩
            obtain ⟨lx1893, ux1893⟩ := q_isb ex1893 (q_fib hB.2.1 hmo kmo (by decide) rfl)
            refine q_ald_n cx dX12_runScript_42 rfl (lv_at hl 1 rfl) ?_
            refine q_gX12_488 cx hB hmo kmo ex1893 dX12_runScript_43 (fun lb1894 ub1894 => ?_)
            refine q_ild_n cx dX12_runScript_46 rfl (lv_at hl 0 rfl) ?_
            refine q_icne (tgt := 56) cx ⟨by omega, by omega⟩ ⟨by omega, by omega⟩ dX12_runScript_47 (by decide) (fun c1895 => ?_) (fun c1895 => ?_)
            · refine q_ald_n cx dX12_runScript_56 rfl (lv_at hl 1 rfl) ?_
              refine q_cVv (As := []) (rest := []) cx hB (fun _ h => h) hN hmo kmo (by decide) rfl (r_closes1 l g hN hB.2.1 mo hmo kmo x1890 (by omega) (by omega) ex1890) q_cX12_503 q_dX12_closes (by decide) rfl rfl hl.1 rfl (Nat.le_of_ble_eq_true rfl) dX12_runScript_57 (fun H locs f1896 h1898 hF hB => ?_)
              obtain rfl := h1898
              refine lv_goto (tgt := 19) cx.1 cx.2.1 dX12_runScript_60 (by decide) ?_
              refine q_ald_n cx dX12_runScript_19 rfl (lv_at hl 1 rfl) ?_
              refine q_cVi (As := []) (rest := []) cx hB (fun _ h => h) hN hmo kmo (by decide) rfl (r_isGood1 l g hN hB.2.1 mo hmo kmo x1890 (by omega) (by omega) ex1890) q_cX12_130 q_dX12_isGood (by decide) rfl rfl hl.1 rfl (Nat.le_of_ble_eq_true rfl) dX12_runScript_20 (fun y1900 H locs f1899 ry1900 h1901 hF hB => ?_)
              obtain ⟨rfl, qy1900⟩ := h1901
              subst qy1900
              refine q_ifeq (tgt := 63) cx ⟨by decide, by decide⟩ dX12_runScript_23 (by decide) (fun c1902 => ?_) (fun c1902 => ?_)
              · refine q_ald_n cx dX12_runScript_63 rfl (lv_at hl 1 rfl) ?_
                refine q_cVi (As := []) (rest := []) cx hB (fun _ h => h) hN hmo kmo (by decide) rfl (r_isGood1 l g hN hB.2.1 mo hmo kmo x1890 (by omega) (by omega) ex1890) q_cX12_130 q_dX12_isGood (by decide) rfl rfl hl.1 rfl (Nat.le_of_ble_eq_true rfl) dX12_runScript_64 (fun y1904 H locs f1903 ry1904 h1905 hF hB => ?_)
                obtain ⟨rfl, qy1904⟩ := h1905
                subst qy1904
                refine q_ifeq (tgt := 82) cx ⟨by decide, by decide⟩ dX12_runScript_67 (by decide) (fun c1906 => ?_) (fun c1906 => ?_)
                · refine q_ald_n cx dX12_runScript_82 rfl (lv_at hl 1 rfl) ?_
                  refine q_cVi (As := []) (rest := []) cx hB (fun _ h => h) hN hmo kmo (by decide) rfl (r_endsText1 l g hN hB.2.1 mo hmo kmo x1890 (by omega) (by omega) ex1890) q_cX12_253 q_dX12_endsText (by decide) rfl rfl hl.1 rfl (Nat.le_of_ble_eq_true rfl) dX12_runScript_83 (fun y1908 H locs f1907 ry1908 h1909 hF hB => ?_)
                  obtain ⟨qy1908, z1910⟩ := h1909
                  have z1911 : q_is (q_z f1907 sr 3) xt := Eq.trans (hF.z hsr (by rw [ksr]; rfl)) z1872
                  have z1912 : q_is (q_z f1907 sr 4) xm := Eq.trans (hF.z hsr (by rw [ksr]; rfl)) z1873
                  have z1913 : q_is (q_z f1907 mo 2) w19_mo_2 := Eq.trans (hF.z hmo (by rw [kmo]; rfl)) z1874
                  have z1914 : q_is (q_z f1907 mo 8) x1890 := Eq.trans (hF.z hmo (by rw [kmo]; rfl)) ex1890
                  have z1915 : q_is (q_z f1907 mo 4) x1891 := Eq.trans (hF.z hmo (by rw [kmo]; rfl)) ex1891
                  have z1916 : q_is (q_z f1907 mo 6) x1892 := Eq.trans (hF.z hmo (by rw [kmo]; rfl)) ex1892
                  have z1917 : q_is (q_z f1907 mo 37) x1893 := Eq.trans (hF.z hmo (by rw [kmo]; rfl)) ex1893
                  have z1918 : q_ir (q_r f1907 mo 13) sr := Eq.trans (hF.r hmo (by rw [kmo]; rfl)) z1875
                  have z1919 : q_ir (q_r f1907 mo 18) nm := Eq.trans (hF.r hmo (by rw [kmo]; rfl)) z1876
                  have z1920 : q_ir (q_r f1907 mo 1) bu := Eq.trans (hF.r hmo (by rw [kmo]; rfl)) z1877
                  have z1921 : q_ir (q_r f1907 mo 29) cs := Eq.trans (hF.r hmo (by rw [kmo]; rfl)) z1878
                  have z1922 : q_ir (q_r f1907 mo 30) c1 := Eq.trans (hF.r hmo (by rw [kmo]; rfl)) z1879
                  have z1923 : q_ir (q_r f1907 mo 31) c2 := Eq.trans (hF.r hmo (by rw [kmo]; rfl)) z1880
                  have z1924 : q_ir (q_r f1907 mo 32) c3 := Eq.trans (hF.r hmo (by rw [kmo]; rfl)) z1881
                  have z1925 : q_ir (q_r f1907 mo 33) bg := Eq.trans (hF.r hmo (by rw [kmo]; rfl)) z1882
                  have z1926 : q_ir (q_r f1907 mo 34) lp := Eq.trans (hF.r hmo (by rw [kmo]; rfl)) z1883
                  have z1927 : q_ir (q_r f1907 mo 24) hp := Eq.trans (hF.r hmo (by rw [kmo]; rfl)) z1884
                  have z1928 : q_ir (q_r f1907 mo 25) dy := Eq.trans (hF.r hmo (by rw [kmo]; rfl)) z1885
                  have z1929 : q_ir (q_r f1907 mo 15) as := Eq.trans (hF.r hmo (by rw [kmo]; rfl)) z1886
                  have z1930 : q_ir (q_r f1907 mo 17) pa := Eq.trans (hF.r hmo (by rw [kmo]; rfl)) z1887
                  have g1931 : q_gr f1907 sr := q_gr_fr g1888 (fun i9 _ => hF.z hsr (by rw [ksr]; rfl))
                  have g1932 : q_pk f1907 mo pa := q_pk_tr g1889 (hF.z hmo (by rw [kmo]; rfl)) (fun i9 => hF.z hpa (by rw [kpa]; rfl))
                  subst qy1908
                  refine q_ifne (tgt := 91) cx ⟨by decide, by decide⟩ dX12_runScript_86 (by decide) (fun c1933 => ?_) (fun c1933 => ?_)
                  · exact absurd c1933 (by omega)
                  · refine q_iconst cx dX12_runScript_89 ?_
                    refine q_iret cx hr hlk hB dX12_runScript_90 ⟨by decide, by decide⟩ ?_
                    exact ⟨(by decide), (by decide), (q_isl z1911 (by omega)), (q_isu z1911 (by omega)), (q_isl z1912 (by omega)), (q_isu z1912 (by omega)), (Eq.trans z1913 (by omega)), g1931, g1932⟩
                · exact absurd c1906 (by omega)
              · exact absurd c1902 (by omega)
            · refine q_ald_n cx dX12_runScript_50 rfl (lv_at hl 1 rfl) ?_
              refine q_bipush cx dX12_runScript_51 rfl ?_
              refine q_cVv (As := [.int (q_i 59)]) (rest := []) cx hB (fun _ h => h) hN hmo kmo (by decide) rfl (r_mustSign1 l g hN hB.2.1 mo hmo kmo 59 (by decide) (by decide) x1890 (by omega) (by omega) ex1890) q_cX12_241 q_dX12_mustSign (by decide) rfl rfl hl.1 rfl (Nat.le_of_ble_eq_true rfl) dX12_runScript_53 (fun H locs f1934 h1936 hF hB => ?_)
              obtain rfl := h1936
              refine q_ald_n cx dX12_runScript_56 rfl (lv_at hl 1 rfl) ?_
              refine q_cVv (As := []) (rest := []) cx hB (fun _ h => h) hN hmo kmo (by decide) rfl (r_closes1 l g hN hB.2.1 mo hmo kmo x1890 (by omega) (by omega) ex1890) q_cX12_503 q_dX12_closes (by decide) rfl rfl hl.1 rfl (Nat.le_of_ble_eq_true rfl) dX12_runScript_57 (fun H locs f1937 h1939 hF hB => ?_)
              obtain rfl := h1939
              refine lv_goto (tgt := 19) cx.1 cx.2.1 dX12_runScript_60 (by decide) ?_
              refine q_ald_n cx dX12_runScript_19 rfl (lv_at hl 1 rfl) ?_
              refine q_cVi (As := []) (rest := []) cx hB (fun _ h => h) hN hmo kmo (by decide) rfl (r_isGood1 l g hN hB.2.1 mo hmo kmo x1890 (by omega) (by omega) ex1890) q_cX12_130 q_dX12_isGood (by decide) rfl rfl hl.1 rfl (Nat.le_of_ble_eq_true rfl) dX12_runScript_20 (fun y1941 H locs f1940 ry1941 h1942 hF hB => ?_)
              obtain ⟨rfl, qy1941⟩ := h1942
              subst qy1941
              refine q_ifeq (tgt := 63) cx ⟨by decide, by decide⟩ dX12_runScript_23 (by decide) (fun c1943 => ?_) (fun c1943 => ?_)
              · refine q_ald_n cx dX12_runScript_63 rfl (lv_at hl 1 rfl) ?_
                refine q_cVi (As := []) (rest := []) cx hB (fun _ h => h) hN hmo kmo (by decide) rfl (r_isGood1 l g hN hB.2.1 mo hmo kmo x1890 (by omega) (by omega) ex1890) q_cX12_130 q_dX12_isGood (by decide) rfl rfl hl.1 rfl (Nat.le_of_ble_eq_true rfl) dX12_runScript_64 (fun y1945 H locs f1944 ry1945 h1946 hF hB => ?_)
                obtain ⟨rfl, qy1945⟩ := h1946
                subst qy1945
                refine q_ifeq (tgt := 82) cx ⟨by decide, by decide⟩ dX12_runScript_67 (by decide) (fun c1947 => ?_) (fun c1947 => ?_)
                · refine q_ald_n cx dX12_runScript_82 rfl (lv_at hl 1 rfl) ?_
                  refine q_cVi (As := []) (rest := []) cx hB (fun _ h => h) hN hmo kmo (by decide) rfl (r_endsText1 l g hN hB.2.1 mo hmo kmo x1890 (by omega) (by omega) ex1890) q_cX12_253 q_dX12_endsText (by decide) rfl rfl hl.1 rfl (Nat.le_of_ble_eq_true rfl) dX12_runScript_83 (fun y1949 H locs f1948 ry1949 h1950 hF hB => ?_)
                  obtain ⟨qy1949, z1951⟩ := h1950
                  have z1952 : q_is (q_z f1948 sr 3) xt := Eq.trans (hF.z hsr (by rw [ksr]; rfl)) z1872
                  have z1953 : q_is (q_z f1948 sr 4) xm := Eq.trans (hF.z hsr (by rw [ksr]; rfl)) z1873
                  have z1954 : q_is (q_z f1948 mo 2) w19_mo_2 := Eq.trans (hF.z hmo (by rw [kmo]; rfl)) z1874
                  have z1955 : q_is (q_z f1948 mo 8) x1890 := Eq.trans (hF.z hmo (by rw [kmo]; rfl)) ex1890
                  have z1956 : q_is (q_z f1948 mo 4) x1891 := Eq.trans (hF.z hmo (by rw [kmo]; rfl)) ex1891
                  have z1957 : q_is (q_z f1948 mo 6) x1892 := Eq.trans (hF.z hmo (by rw [kmo]; rfl)) ex1892
                  have z1958 : q_is (q_z f1948 mo 37) x1893 := Eq.trans (hF.z hmo (by rw [kmo]; rfl)) ex1893
                  have z1959 : q_ir (q_r f1948 mo 13) sr := Eq.trans (hF.r hmo (by rw [kmo]; rfl)) z1875
                  have z1960 : q_ir (q_r f1948 mo 18) nm := Eq.trans (hF.r hmo (by rw [kmo]; rfl)) z1876
                  have z1961 : q_ir (q_r f1948 mo 1) bu := Eq.trans (hF.r hmo (by rw [kmo]; rfl)) z1877
                  have z1962 : q_ir (q_r f1948 mo 29) cs := Eq.trans (hF.r hmo (by rw [kmo]; rfl)) z1878
                  have z1963 : q_ir (q_r f1948 mo 30) c1 := Eq.trans (hF.r hmo (by rw [kmo]; rfl)) z1879
                  have z1964 : q_ir (q_r f1948 mo 31) c2 := Eq.trans (hF.r hmo (by rw [kmo]; rfl)) z1880
                  have z1965 : q_ir (q_r f1948 mo 32) c3 := Eq.trans (hF.r hmo (by rw [kmo]; rfl)) z1881
                  have z1966 : q_ir (q_r f1948 mo 33) bg := Eq.trans (hF.r hmo (by rw [kmo]; rfl)) z1882
                  have z1967 : q_ir (q_r f1948 mo 34) lp := Eq.trans (hF.r hmo (by rw [kmo]; rfl)) z1883
                  have z1968 : q_ir (q_r f1948 mo 24) hp := Eq.trans (hF.r hmo (by rw [kmo]; rfl)) z1884
                  have z1969 : q_ir (q_r f1948 mo 25) dy := Eq.trans (hF.r hmo (by rw [kmo]; rfl)) z1885
                  have z1970 : q_ir (q_r f1948 mo 15) as := Eq.trans (hF.r hmo (by rw [kmo]; rfl)) z1886
                  have z1971 : q_ir (q_r f1948 mo 17) pa := Eq.trans (hF.r hmo (by rw [kmo]; rfl)) z1887
                  have g1972 : q_gr f1948 sr := q_gr_fr g1888 (fun i9 _ => hF.z hsr (by rw [ksr]; rfl))
                  have g1973 : q_pk f1948 mo pa := q_pk_tr g1889 (hF.z hmo (by rw [kmo]; rfl)) (fun i9 => hF.z hpa (by rw [kpa]; rfl))
                  subst qy1949
                  refine q_ifne (tgt := 91) cx ⟨by decide, by decide⟩ dX12_runScript_86 (by decide) (fun c1974 => ?_) (fun c1974 => ?_)
                  · exact absurd c1974 (by omega)
                  · refine q_iconst cx dX12_runScript_89 ?_
                    refine q_iret cx hr hlk hB dX12_runScript_90 ⟨by decide, by decide⟩ ?_
                    exact ⟨(by decide), (by decide), (q_isl z1952 (by omega)), (q_isu z1952 (by omega)), (q_isl z1953 (by omega)), (q_isu z1953 (by omega)), (Eq.trans z1954 (by omega)), g1972, g1973⟩
                · exact absurd c1947 (by omega)
              · exact absurd c1943 (by omega)
  obtain ⟨H, hH⟩ : ∃ H : Heap, H = s.heap := ⟨_, rfl⟩
  obtain ⟨locs, hlocs⟩ : ∃ z : List Loc, z = [] := ⟨_, rfl⟩
  rw [← hH, ← hlocs] at hB
  rw [← hH, ← hlocs]
  refine q_ald_n cx dX12_runScript_0 rfl (lv_at hl 0 rfl) ?_
  refine q_cVv (As := []) (rest := []) cx hB (fun _ h => h) hN hmo kmo (by decide) rfl (r_beginsText l g hN hB.2.1 mo hmo kmo bu hbu kbu hr2) q_cX12_244 q_dX12_beginsText (by decide) rfl rfl hl.1 rfl (Nat.le_of_ble_eq_true rfl) dX12_runScript_1 (fun H locs f1975 h1977 hF hB => ?_)
  obtain ⟨z1978, z1979⟩ := h1977
  have z1980 : q_is (q_z f1975 sr 3) xt := Eq.trans (hF.z hsr (by rw [ksr]; rfl)) hf0
  have z1981 : q_is (q_z f1975 sr 4) xm := Eq.trans (hF.z hsr (by rw [ksr]; rfl)) hf1
  have z1982 : q_ir (q_r f1975 mo 13) sr := Eq.trans (hF.r hmo (by rw [kmo]; rfl)) hr0
  have z1983 : q_ir (q_r f1975 mo 18) nm := Eq.trans (hF.r hmo (by rw [kmo]; rfl)) hr1
  have z1984 : q_ir (q_r f1975 mo 1) bu := Eq.trans (hF.r hmo (by rw [kmo]; rfl)) hr2
  have z1985 : q_ir (q_r f1975 mo 29) cs := Eq.trans (hF.r hmo (by rw [kmo]; rfl)) hr3
  have z1986 : q_ir (q_r f1975 mo 30) c1 := Eq.trans (hF.r hmo (by rw [kmo]; rfl)) hr4
  have z1987 : q_ir (q_r f1975 mo 31) c2 := Eq.trans (hF.r hmo (by rw [kmo]; rfl)) hr5
  have z1988 : q_ir (q_r f1975 mo 32) c3 := Eq.trans (hF.r hmo (by rw [kmo]; rfl)) hr6
  have z1989 : q_ir (q_r f1975 mo 33) bg := Eq.trans (hF.r hmo (by rw [kmo]; rfl)) hr7
  have z1990 : q_ir (q_r f1975 mo 34) lp := Eq.trans (hF.r hmo (by rw [kmo]; rfl)) hr8
  have z1991 : q_ir (q_r f1975 mo 24) hp := Eq.trans (hF.r hmo (by rw [kmo]; rfl)) hr9
  have z1992 : q_ir (q_r f1975 mo 25) dy := Eq.trans (hF.r hmo (by rw [kmo]; rfl)) hr10
  have z1993 : q_ir (q_r f1975 mo 15) as := Eq.trans (hF.r hmo (by rw [kmo]; rfl)) hr11
  have z1994 : q_ir (q_r f1975 mo 17) pa := Eq.trans (hF.r hmo (by rw [kmo]; rfl)) hr12
  have g1995 : q_gr f1975 sr := q_gr_fr hgr (fun i9 _ => hF.z hsr (by rw [ksr]; rfl))
  have g1996 : q_pk f1975 mo pa := q_pk_tr hpk (hF.z hmo (by rw [kmo]; rfl)) (fun i9 => hF.z hpa (by rw [kpa]; rfl))
  obtain ⟨x1997, ex1997⟩ : ∃ zz, q_is (q_z f1975 mo 4) zz := ⟨_, q_isr _⟩
  obtain ⟨lx1997, ux1997⟩ := q_isb ex1997 (q_fib hB.2.1 hmo kmo (by decide) rfl)
  obtain ⟨x1998, ex1998⟩ : ∃ zz, q_is (q_z f1975 mo 6) zz := ⟨_, q_isr _⟩
  obtain ⟨lx1998, ux1998⟩ := q_isb ex1998 (q_fib hB.2.1 hmo kmo (by decide) rfl)
  refine q_ald_n cx dX12_runScript_4 rfl (lv_at hl 0 rfl) ?_
  refine q_iconst cx dX12_runScript_5 ?_
  refine q_pX12_494 cx hB hmo kmo ⟨by decide, by decide⟩ (by decide) (by decide) rfl dX12_runScript_6 (fun H locs f1999 ef1999 z2000 hB => ?_)
  have z2001 : q_is (q_z f1999 sr 3) xt := by rw [ef1999, q_setz (Or.inr (by decide))]; exact z1980
  have z2002 : q_is (q_z f1999 sr 4) xm := by rw [ef1999, q_setz (Or.inr (by decide))]; exact z1981
  have z2003 : q_is (q_z f1999 mo 8) 0 := by rw [ef1999, q_setz (Or.inr (by decide))]; exact z1978
  have z2004 : q_is (q_z f1999 mo 2) 0 := by rw [ef1999, q_setz (Or.inr (by decide))]; exact z1979
  have z2005 : q_is (q_z f1999 mo 4) x1997 := by rw [ef1999, q_setz (Or.inr (by decide))]; exact ex1997
  have z2006 : q_is (q_z f1999 mo 6) x1998 := by rw [ef1999, q_setz (Or.inr (by decide))]; exact ex1998
  have z2007 : q_ir (q_r f1999 mo 13) sr := by rw [ef1999, q_setr (Or.inr (by decide))]; exact z1982
  have z2008 : q_ir (q_r f1999 mo 18) nm := by rw [ef1999, q_setr (Or.inr (by decide))]; exact z1983
  have z2009 : q_ir (q_r f1999 mo 1) bu := by rw [ef1999, q_setr (Or.inr (by decide))]; exact z1984
  have z2010 : q_ir (q_r f1999 mo 29) cs := by rw [ef1999, q_setr (Or.inr (by decide))]; exact z1985
  have z2011 : q_ir (q_r f1999 mo 30) c1 := by rw [ef1999, q_setr (Or.inr (by decide))]; exact z1986
  have z2012 : q_ir (q_r f1999 mo 31) c2 := by rw [ef1999, q_setr (Or.inr (by decide))]; exact z1987
  have z2013 : q_ir (q_r f1999 mo 32) c3 := by rw [ef1999, q_setr (Or.inr (by decide))]; exact z1988
  have z2014 : q_ir (q_r f1999 mo 33) bg := by rw [ef1999, q_setr (Or.inr (by decide))]; exact z1989
  have z2015 : q_ir (q_r f1999 mo 34) lp := by rw [ef1999, q_setr (Or.inr (by decide))]; exact z1990
  have z2016 : q_ir (q_r f1999 mo 24) hp := by rw [ef1999, q_setr (Or.inr (by decide))]; exact z1991
  have z2017 : q_ir (q_r f1999 mo 25) dy := by rw [ef1999, q_setr (Or.inr (by decide))]; exact z1992
  have z2018 : q_ir (q_r f1999 mo 15) as := by rw [ef1999, q_setr (Or.inr (by decide))]; exact z1993
  have z2019 : q_ir (q_r f1999 mo 17) pa := by rw [ef1999, q_setr (Or.inr (by decide))]; exact z1994
  have g2020 : q_gr f1999 sr := q_gr_ne g1995 ef1999 (fun q => q_kne (k := 151) (k2 := 12) (by decide) ksr kmo q)
  have g2021 : q_pk f1999 mo pa := q_pk_tr g1996 (by rw [ef1999, q_setz (Or.inr (by decide))]) (fun i9 => by rw [ef1999, q_setz (Or.inl (fun q => by rw [q, kmo] at kpa; exact absurd kpa (by decide)))])
  refine q_ald_n cx dX12_runScript_9 rfl (lv_at hl 0 rfl) ?_
  refine q_iconst cx dX12_runScript_10 ?_
  refine q_pX12_491 cx hB hmo kmo ⟨by decide, by decide⟩ (by decide) (by decide) rfl dX12_runScript_11 (fun H locs f2022 ef2022 z2023 hB => ?_)
  have z2024 : q_is (q_z f2022 sr 3) xt := by rw [ef2022, q_setz (Or.inr (by decide))]; exact z2001
  have z2025 : q_is (q_z f2022 sr 4) xm := by rw [ef2022, q_setz (Or.inr (by decide))]; exact z2002
  have z2026 : q_is (q_z f2022 mo 8) 0 := by rw [ef2022, q_setz (Or.inr (by decide))]; exact z2003
  have z2027 : q_is (q_z f2022 mo 2) 0 := by rw [ef2022, q_setz (Or.inr (by decide))]; exact z2004
  have z2028 : q_is (q_z f2022 mo 4) x1997 := by rw [ef2022, q_setz (Or.inr (by decide))]; exact z2005
  have z2029 : q_is (q_z f2022 mo 6) x1998 := by rw [ef2022, q_setz (Or.inr (by decide))]; exact z2006
  have z2030 : q_is (q_z f2022 mo 35) 0 := by rw [ef2022, q_setz (Or.inr (by decide))]; exact z2000
  have z2031 : q_ir (q_r f2022 mo 13) sr := by rw [ef2022, q_setr (Or.inr (by decide))]; exact z2007
  have z2032 : q_ir (q_r f2022 mo 18) nm := by rw [ef2022, q_setr (Or.inr (by decide))]; exact z2008
  have z2033 : q_ir (q_r f2022 mo 1) bu := by rw [ef2022, q_setr (Or.inr (by decide))]; exact z2009
  have z2034 : q_ir (q_r f2022 mo 29) cs := by rw [ef2022, q_setr (Or.inr (by decide))]; exact z2010
  have z2035 : q_ir (q_r f2022 mo 30) c1 := by rw [ef2022, q_setr (Or.inr (by decide))]; exact z2011
  have z2036 : q_ir (q_r f2022 mo 31) c2 := by rw [ef2022, q_setr (Or.inr (by decide))]; exact z2012
  have z2037 : q_ir (q_r f2022 mo 32) c3 := by rw [ef2022, q_setr (Or.inr (by decide))]; exact z2013
  have z2038 : q_ir (q_r f2022 mo 33) bg := by rw [ef2022, q_setr (Or.inr (by decide))]; exact z2014
  have z2039 : q_ir (q_r f2022 mo 34) lp := by rw [ef2022, q_setr (Or.inr (by decide))]; exact z2015
  have z2040 : q_ir (q_r f2022 mo 24) hp := by rw [ef2022, q_setr (Or.inr (by decide))]; exact z2016
  have z2041 : q_ir (q_r f2022 mo 25) dy := by rw [ef2022, q_setr (Or.inr (by decide))]; exact z2017
  have z2042 : q_ir (q_r f2022 mo 15) as := by rw [ef2022, q_setr (Or.inr (by decide))]; exact z2018
  have z2043 : q_ir (q_r f2022 mo 17) pa := by rw [ef2022, q_setr (Or.inr (by decide))]; exact z2019
  have g2044 : q_gr f2022 sr := q_gr_ne g2020 ef2022 (fun q => q_kne (k := 151) (k2 := 12) (by decide) ksr kmo q)
  have g2045 : q_pk f2022 mo pa := q_pk_tr g2021 (by rw [ef2022, q_setz (Or.inr (by decide))]) (fun i9 => by rw [ef2022, q_setz (Or.inl (fun q => by rw [q, kmo] at kpa; exact absurd kpa (by decide)))])
  refine q_ald_n cx dX12_runScript_14 rfl (lv_at hl 0 rfl) ?_
  refine q_iconst cx dX12_runScript_15 ?_
  refine q_pX12_488 cx hB hmo kmo ⟨by decide, by decide⟩ (by decide) (by decide) rfl dX12_runScript_16 (fun H locs f2046 ef2046 z2047 hB => ?_)
  have z2048 : q_is (q_z f2046 sr 3) xt := by rw [ef2046, q_setz (Or.inr (by decide))]; exact z2024
  have z2049 : q_is (q_z f2046 sr 4) xm := by rw [ef2046, q_setz (Or.inr (by decide))]; exact z2025
  have z2050 : q_is (q_z f2046 mo 8) 0 := by rw [ef2046, q_setz (Or.inr (by decide))]; exact z2026
  have z2051 : q_is (q_z f2046 mo 2) 0 := by rw [ef2046, q_setz (Or.inr (by decide))]; exact z2027
  have z2052 : q_is (q_z f2046 mo 4) x1997 := by rw [ef2046, q_setz (Or.inr (by decide))]; exact z2028
  have z2053 : q_is (q_z f2046 mo 6) x1998 := by rw [ef2046, q_setz (Or.inr (by decide))]; exact z2029
  have z2054 : q_is (q_z f2046 mo 35) 0 := by rw [ef2046, q_setz (Or.inr (by decide))]; exact z2030
  have z2055 : q_is (q_z f2046 mo 36) 0 := by rw [ef2046, q_setz (Or.inr (by decide))]; exact z2023
  have z2056 : q_ir (q_r f2046 mo 13) sr := by rw [ef2046, q_setr (Or.inr (by decide))]; exact z2031
  have z2057 : q_ir (q_r f2046 mo 18) nm := by rw [ef2046, q_setr (Or.inr (by decide))]; exact z2032
  have z2058 : q_ir (q_r f2046 mo 1) bu := by rw [ef2046, q_setr (Or.inr (by decide))]; exact z2033
  have z2059 : q_ir (q_r f2046 mo 29) cs := by rw [ef2046, q_setr (Or.inr (by decide))]; exact z2034
  have z2060 : q_ir (q_r f2046 mo 30) c1 := by rw [ef2046, q_setr (Or.inr (by decide))]; exact z2035
  have z2061 : q_ir (q_r f2046 mo 31) c2 := by rw [ef2046, q_setr (Or.inr (by decide))]; exact z2036
  have z2062 : q_ir (q_r f2046 mo 32) c3 := by rw [ef2046, q_setr (Or.inr (by decide))]; exact z2037
  have z2063 : q_ir (q_r f2046 mo 33) bg := by rw [ef2046, q_setr (Or.inr (by decide))]; exact z2038
  have z2064 : q_ir (q_r f2046 mo 34) lp := by rw [ef2046, q_setr (Or.inr (by decide))]; exact z2039
  have z2065 : q_ir (q_r f2046 mo 24) hp := by rw [ef2046, q_setr (Or.inr (by decide))]; exact z2040
  have z2066 : q_ir (q_r f2046 mo 25) dy := by rw [ef2046, q_setr (Or.inr (by decide))]; exact z2041
  have z2067 : q_ir (q_r f2046 mo 15) as := by rw [ef2046, q_setr (Or.inr (by decide))]; exact z2042
  have z2068 : q_ir (q_r f2046 mo 17) pa := by rw [ef2046, q_setr (Or.inr (by decide))]; exact z2043
  have g2069 : q_gr f2046 sr := q_gr_ne g2044 ef2046 (fun q => q_kne (k := 151) (k2 := 12) (by decide) ksr kmo q)
  have g2070 : q_pk f2046 mo pa := q_pk_tr g2045 (by rw [ef2046, q_setz (Or.inr (by decide))]) (fun i9 => by rw [ef2046, q_setz (Or.inl (fun q => by rw [q, kmo] at kpa; exact absurd kpa (by decide)))])
  have hsc0 : q_sc f2046 mo cs c1 c2 := k_sc0 z2054 z2055 z2047
  exact J19 ((Int.toNat (601 - x1997)) + 1) f2046 0 (by decide) (by decide) 0 (by decide) (by decide) x1997 (by omega) (by omega) z2048 z2049 z2051 z2050 z2052 z2056 z2057 z2058 z2059 z2060 z2061 z2062 z2063 z2064 z2065 z2066 z2067 z2068 g2069 g2070 hsc0 (Nat.lt_succ_self _) H locs hB ls (lv_sub hl [0] rfl)
