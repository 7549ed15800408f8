set_option maxHeartbeats 4000000 in
set_option maxRecDepth 100000 in
theorem r_runScript (l : Launch) (g : q_G) {K : Nat → Nat} {L : List Nat} (hN : L.Nodup) {f : Nat → va_E} (hT : q_Ty g K L f) (mo : Nat) (hmo : mo ∈ L) (kmo : K mo = 12) (sr : Nat) (hsr : sr ∈ L) (ksr : K sr = 151) (nm : Nat) (hnm : nm ∈ L) (knm : K nm = 156) (bu : Nat) (hbu : bu ∈ L) (kbu : K bu = 150) (cs : Nat) (hcs : cs ∈ L) (kcs : K cs = 161) (c1 : Nat) (hc1 : c1 ∈ L) (kc1 : K c1 = 162) (c2 : Nat) (hc2 : c2 ∈ L) (kc2 : K c2 = 163) (c3 : Nat) (hc3 : c3 ∈ L) (kc3 : K c3 = 164) (bg : Nat) (hbg : bg ∈ L) (kbg : K bg = 165) (lp : Nat) (hlp : lp ∈ L) (klp : K lp = 166) (hp : Nat) (hhp : hp ∈ L) (khp : K hp = 159) (dy : Nat) (hdy : dy ∈ L) (kdy : K dy = 160) (as : Nat) (has : as ∈ L) (kas : K as = 153) (pa : Nat) (hpa : pa ∈ L) (kpa : K pa = 155) (xt : Int) (lxt : 0 ≤ xt) (uxt : xt ≤ 9999) (xm : Int) (lxm : 0 ≤ xm) (uxm : xm ≤ 60) (hf0 : q_is (q_z f sr 3) xt) (hf1 : q_is (q_z f sr 4) xm) (hr0 : q_ir (q_r f mo 13) sr) (hr1 : q_ir (q_r f mo 18) nm) (hr2 : q_ir (q_r f mo 1) bu) (hr3 : q_ir (q_r f mo 29) cs) (hr4 : q_ir (q_r f mo 30) c1) (hr5 : q_ir (q_r f mo 31) c2) (hr6 : q_ir (q_r f mo 32) c3) (hr7 : q_ir (q_r f mo 33) bg) (hr8 : q_ir (q_r f mo 34) lp) (hr9 : q_ir (q_r f mo 24) hp) (hr10 : q_ir (q_r f mo 25) dy) (hr11 : q_ir (q_r f mo 15) as) (hr12 : q_ir (q_r f mo 17) pa) (hgr : q_gr f sr) (hpk : q_pk f mo pa) : q_Ct l g K L yX12_runScript cX12_runScript 2 (some .int) 12 276 [.ref mo] f [(12, 0, 0), (12, 2, 12), (12, 21, 21), (12, 26, 28), (12, 35, 37), (151, 3, 4), (151, 9, 9), (151, 11, 89), (151, 92, 657), (153, 0, 657), (155, 0, 3947), (159, 0, 9), (160, 0, 9), (161, 0, 59), (162, 0, 58), (163, 0, 58), (164, 0, 58), (165, 0, 1), (166, 0, 1)] (q_Pi (fun (z : Int) (f1 : Nat → va_E) => 0 ≤ z ∧ z ≤ 40 ∧ 0 ≤ q_z f1 sr 3 ∧ q_z f1 sr 3 ≤ 9999 ∧ 0 ≤ q_z f1 sr 4 ∧ q_z f1 sr 4 ≤ 60 ∧ q_is (q_z f1 mo 2) 0 ∧ q_gr f1 sr ∧ (q_pk f1 mo pa))) := by
  refine q_ofb (by decide +kernel) hN hT (Nat.le_of_ble_eq_true rfl) ?_
  intro p e s m below meth c ls cx hr hlk hB hl
  have hl : lv_has ls 2 [(0, .ref mo)] := hl
  have J19 : ∀ (n : Nat) (f19 : Nat → va_E) (w19_mo_2 : Int) (lw19_mo_2 : 0 ≤ w19_mo_2) (uw19_mo_2 : w19_mo_2 ≤ 0) (w19_mo_8 : Int) (lw19_mo_8 : 0 ≤ w19_mo_8) (uw19_mo_8 : w19_mo_8 ≤ 0) (hj_sr_3 : q_is (q_z f19 sr 3) xt) (hj_sr_4 : q_is (q_z f19 sr 4) xm) (hj_mo_2 : q_is (q_z f19 mo 2) w19_mo_2) (hj_mo_8 : q_is (q_z f19 mo 8) w19_mo_8) (hq_mo_13 : q_ir (q_r f19 mo 13) sr) (hq_mo_18 : q_ir (q_r f19 mo 18) nm) (hq_mo_1 : q_ir (q_r f19 mo 1) bu) (hq_mo_29 : q_ir (q_r f19 mo 29) cs) (hq_mo_30 : q_ir (q_r f19 mo 30) c1) (hq_mo_31 : q_ir (q_r f19 mo 31) c2) (hq_mo_32 : q_ir (q_r f19 mo 32) c3) (hq_mo_33 : q_ir (q_r f19 mo 33) bg) (hq_mo_34 : q_ir (q_r f19 mo 34) lp) (hq_mo_24 : q_ir (q_r f19 mo 24) hp) (hq_mo_25 : q_ir (q_r f19 mo 25) dy) (hq_mo_15 : q_ir (q_r f19 mo 15) as) (hq_mo_17 : q_ir (q_r f19 mo 17) pa) (hgr19 : q_gr f19 sr) (hpk19 : q_pk f19 mo pa) (hsc19 : q_sc f19 mo cs c1 c2) (hmu : (Int.toNat (601 - w19_mo_4)) < n) (H : Heap) (locs : List Loc) (hB : q_B g K L (fun q => q ∈ L) [(12, 0, 0), (12, 2, 12), (12, 21, 21), (12, 26, 28), (12, 35, 37), (151, 3, 4), (151, 9, 9), (151, 11, 89), (151, 92, 657), (153, 0, 657), (155, 0, 3947), (159, 0, 9), (160, 0, 9), (161, 0, 59), (162, 0, 58), (163, 0, 58), (164, 0, 58), (165, 0, 1), (166, 0, 1)] f f19 s H locs) (ls : Array Slot) (hl : lv_has ls 2 [(0, .ref mo)]), W p l e { frames := 12, cells := 0, slots := 0, locals := 276 } s m ([.ref mo] : List Value).toArray below meth c H locs 0 0 (MQ below (q_Q g K L [(12, 0, 0), (12, 2, 12), (12, 21, 21), (12, 26, 28), (12, 35, 37), (151, 3, 4), (151, 9, 9), (151, 11, 89), (151, 92, 657), (153, 0, 657), (155, 0, 3947), (159, 0, 9), (160, 0, 9), (161, 0, 59), (162, 0, 58), (163, 0, 58), (164, 0, 58), (165, 0, 1), (166, 0, 1)] f (q_Pi (fun (z : Int) (f1 : Nat → va_E) => 0 ≤ z ∧ z ≤ 40 ∧ 0 ≤ q_z f1 sr 3 ∧ q_z f1 sr 3 ≤ 9999 ∧ 0 ≤ q_z f1 sr 4 ∧ q_z f1 sr 4 ≤ 60 ∧ q_is (q_z f1 mo 2) 0 ∧ q_gr f1 sr ∧ (q_pk f1 mo pa)))) ([.ref mo] : List Value).toArray s 0 0 (fun q => q ∈ L)) (F0 m 19 ls []) := by
    intro n
    induction n with
    | zero =>
      intro f19 w19_mo_2 lw19_mo_2 uw19_mo_2 w19_mo_8 lw19_mo_8 uw19_mo_8 hj_sr_3 hj_sr_4 hj_mo_2 hj_mo_8 hq_mo_13 hq_mo_18 hq_mo_1 hq_mo_29 hq_mo_30 hq_mo_31 hq_mo_32 hq_mo_33 hq_mo_34 hq_mo_24 hq_mo_25 hq_mo_15 hq_mo_17 hgr19 hpk19 hsc19 hmu
      exact absurd hmu (Nat.not_lt_zero _)
    | succ n ih19 =>
      intro f19 w19_mo_2 lw19_mo_2 uw19_mo_2 w19_mo_8 lw19_mo_8 uw19_mo_8 hj_sr_3 hj_sr_4 hj_mo_2 hj_mo_8 hq_mo_13 hq_mo_18 hq_mo_1 hq_mo_29 hq_mo_30 hq_mo_31 hq_mo_32 hq_mo_33 hq_mo_34 hq_mo_24 hq_mo_25 hq_mo_15 hq_mo_17 hgr19 hpk19 hsc19 hmu H locs hB ls hl
      refine q_ald_n cx dX12_runScript_19 rfl (lv_at hl 0 rfl) ?_
      refine q_cVi (As := []) (rest := []) cx hB (fun _ h => h) hN hmo kmo (by decide) rfl (r_isGood0 l g hN hB.2.1 mo hmo kmo (Eq.trans hj_mo_8 (by omega))) q_cX12_130 q_dX12_isGood (by decide) rfl rfl hl.1 rfl (Nat.le_of_ble_eq_true rfl) dX12_runScript_20 (fun y1313 H locs f1312 ry1313 h1314 hF hB => ?_)
      obtain ⟨rfl, qy1313⟩ := h1314
      subst qy1313
      refine q_ifeq (tgt := 63) cx ⟨by decide, by decide⟩ dX12_runScript_23 (by decide) (fun c1315 => ?_) (fun c1315 => ?_)
      · exact absurd c1315 (by omega)
      · refine q_ald_n cx dX12_runScript_26 rfl (lv_at hl 0 rfl) ?_
        obtain ⟨x1316, ex1316⟩ : ∃ zz, q_is (q_z f19 mo 6) zz := ⟨_, q_isr _⟩
        refine q_gX12_117 cx hB hmo kmo ex1316 dX12_runScript_27 (fun lb1317 ub1317 => ?_)
        refine q_ifeq (tgt := 63) cx ⟨by omega, by omega⟩ dX12_runScript_30 (by decide) (fun c1318 => ?_) (fun c1318 => ?_)
        · refine q_ald_n cx dX12_runScript_63 rfl (lv_at hl 0 rfl) ?_
          refine q_cVi (As := []) (rest := []) cx hB (fun _ h => h) hN hmo kmo (by decide) rfl (r_isGood0 l g hN hB.2.1 mo hmo kmo (Eq.trans hj_mo_8 (by omega))) q_cX12_130 q_dX12_isGood (by decide) rfl rfl hl.1 rfl (Nat.le_of_ble_eq_true rfl) dX12_runScript_64 (fun y1320 H locs f1319 ry1320 h1321 hF hB => ?_)
          obtain ⟨rfl, qy1320⟩ := h1321
          subst qy1320
          refine q_ifeq (tgt := 82) cx ⟨by decide, by decide⟩ dX12_runScript_67 (by decide) (fun c1322 => ?_) (fun c1322 => ?_)
          · exact absurd c1322 (by omega)
          · refine q_ald_n cx dX12_runScript_70 rfl (lv_at hl 0 rfl) ?_
            obtain ⟨x1323, ex1323⟩ : ∃ zz, q_is (q_z f19 mo 37) zz := ⟨_, q_isr _⟩
            refine q_gX12_488 cx hB hmo kmo ex1323 dX12_runScript_71 (fun lb1324 ub1324 => ?_)
            refine q_ifle (tgt := 82) cx ⟨by omega, by omega⟩ dX12_runScript_74 (by decide) (fun c1325 => ?_) (fun c1325 => ?_)
            · refine q_ald_n cx dX12_runScript_82 rfl (lv_at hl 0 rfl) ?_
              refine q_cVi (As := []) (rest := []) cx hB (fun _ h => h) hN hmo kmo (by decide) rfl (r_endsText0 l g hN hB.2.1 mo hmo kmo (Eq.trans hj_mo_8 (by omega))) q_cX12_253 q_dX12_endsText (by decide) rfl rfl hl.1 rfl (Nat.le_of_ble_eq_true rfl) dX12_runScript_83 (fun y1327 H locs f1326 ry1327 h1328 hF hB => ?_)
              obtain ⟨qy1327, z1329⟩ := h1328
              have z1330 : q_is (q_z f1326 sr 3) xt := Eq.trans (hF.z hsr (by rw [ksr]; rfl)) hj_sr_3
              have z1331 : q_is (q_z f1326 sr 4) xm := Eq.trans (hF.z hsr (by rw [ksr]; rfl)) hj_sr_4
              have z1332 : q_is (q_z f1326 mo 2) w19_mo_2 := Eq.trans (hF.z hmo (by rw [kmo]; rfl)) hj_mo_2
              have z1333 : q_is (q_z f1326 mo 8) w19_mo_8 := Eq.trans (hF.z hmo (by rw [kmo]; rfl)) hj_mo_8
              have z1334 : q_is (q_z f1326 mo 6) x1316 := Eq.trans (hF.z hmo (by rw [kmo]; rfl)) ex1316
              have z1335 : q_is (q_z f1326 mo 37) x1323 := Eq.trans (hF.z hmo (by rw [kmo]; rfl)) ex1323
              have z1336 : q_ir (q_r f1326 mo 13) sr := Eq.trans (hF.r hmo (by rw [kmo]; rfl)) hq_mo_13
              have z1337 : q_ir (q_r f1326 mo 18) nm := Eq.trans (hF.r hmo (by rw [kmo]; rfl)) hq_mo_18
              have z1338 : q_ir (q_r f1326 mo 1) bu := Eq.trans (hF.r hmo (by rw [kmo]; rfl)) hq_mo_1
              have z1339 : q_ir (q_r f1326 mo 29) cs := Eq.trans (hF.r hmo (by rw [kmo]; rfl)) hq_mo_29
              have z1340 : q_ir (q_r f1326 mo 30) c1 := Eq.trans (hF.r hmo (by rw [kmo]; rfl)) hq_mo_30
              have z1341 : q_ir (q_r f1326 mo 31) c2 := Eq.trans (hF.r hmo (by rw [kmo]; rfl)) hq_mo_31
              have z1342 : q_ir (q_r f1326 mo 32) c3 := Eq.trans (hF.r hmo (by rw [kmo]; rfl)) hq_mo_32
              have z1343 : q_ir (q_r f1326 mo 33) bg := Eq.trans (hF.r hmo (by rw [kmo]; rfl)) hq_mo_33
              have z1344 : q_ir (q_r f1326 mo 34) lp := Eq.trans (hF.r hmo (by rw [kmo]; rfl)) hq_mo_34
              have z1345 : q_ir (q_r f1326 mo 24) hp := Eq.trans (hF.r hmo (by rw [kmo]; rfl)) hq_mo_24
              have z1346 : q_ir (q_r f1326 mo 25) dy := Eq.trans (hF.r hmo (by rw [kmo]; rfl)) hq_mo_25
              have z1347 : q_ir (q_r f1326 mo 15) as := Eq.trans (hF.r hmo (by rw [kmo]; rfl)) hq_mo_15
              have z1348 : q_ir (q_r f1326 mo 17) pa := Eq.trans (hF.r hmo (by rw [kmo]; rfl)) hq_mo_17
              have g1349 : q_gr f1326 sr := q_gr_fr hgr19 (fun i9 _ => hF.z hsr (by rw [ksr]; rfl))
              have g1350 : q_pk f1326 mo pa := q_pk_tr hpk19 (hF.z hmo (by rw [kmo]; rfl)) (fun i9 => hF.z hpa (by rw [kpa]; rfl))
              have g1351 : q_sc f1326 mo cs c1 c2 := q_sc_tr hsc19 (hF.z hmo (by rw [kmo]; rfl)) (hF.z hmo (by rw [kmo]; rfl)) (hF.z hmo (by rw [kmo]; rfl)) (fun i9 => hF.z hcs (by rw [kcs]; rfl)) (fun i9 => hF.z hc1 (by rw [kc1]; rfl)) (fun i9 => hF.z hc2 (by rw [kc2]; rfl))
              subst qy1327
              refine q_ifne (tgt := 91) cx ⟨by decide, by decide⟩ dX12_runScript_86 (by decide) (fun c1352 => ?_) (fun c1352 => ?_)
              · refine q_ald_n cx dX12_runScript_91 rfl (lv_at hl 0 rfl) ?_
                refine q_cVv (As := []) (rest := []) cx hB (fun _ h => h) hN hmo kmo (by decide) rfl (r_laysAside l g hN hB.2.1 mo hmo kmo sr hsr ksr as has kas xt (by omega) (by omega) xm (by omega) (by omega) z1330 z1331 z1336 z1347 g1349) q_cX12_247 q_dX12_laysAside (by decide) rfl rfl hl.1 rfl (Nat.le_of_ble_eq_true rfl) dX12_runScript_92 (fun H locs f1353 h1355 hF hB => ?_)
                obtain ⟨lz1356, uz1356⟩ := h1355
                have z1357 : q_is (q_z f1353 sr 3) xt := Eq.trans (hF.z hsr (by rw [ksr]; rfl)) z1330
                have z1358 : q_is (q_z f1353 sr 4) xm := Eq.trans (hF.z hsr (by rw [ksr]; rfl)) z1331
                have z1359 : q_is (q_z f1353 mo 2) w19_mo_2 := Eq.trans (hF.z hmo (by rw [kmo]; rfl)) z1332
                have z1360 : q_is (q_z f1353 mo 8) w19_mo_8 := Eq.trans (hF.z hmo (by rw [kmo]; rfl)) z1333
                have z1361 : q_is (q_z f1353 mo 6) x1316 := Eq.trans (hF.z hmo (by rw [kmo]; rfl)) z1334
                have z1362 : q_is (q_z f1353 mo 37) x1323 := Eq.trans (hF.z hmo (by rw [kmo]; rfl)) z1335
                have z1363 : q_is (q_z f1353 mo 0) 0 := Eq.trans (hF.z hmo (by rw [kmo]; rfl)) z1329
                have z1364 : q_ir (q_r f1353 mo 13) sr := Eq.trans (hF.r hmo (by rw [kmo]; rfl)) z1336
                have z1365 : q_ir (q_r f1353 mo 18) nm := Eq.trans (hF.r hmo (by rw [kmo]; rfl)) z1337
                have z1366 : q_ir (q_r f1353 mo 1) bu := Eq.trans (hF.r hmo (by rw [kmo]; rfl)) z1338
                have z1367 : q_ir (q_r f1353 mo 29) cs := Eq.trans (hF.r hmo (by rw [kmo]; rfl)) z1339
                have z1368 : q_ir (q_r f1353 mo 30) c1 := Eq.trans (hF.r hmo (by rw [kmo]; rfl)) z1340
                have z1369 : q_ir (q_r f1353 mo 31) c2 := Eq.trans (hF.r hmo (by rw [kmo]; rfl)) z1341
                have z1370 : q_ir (q_r f1353 mo 32) c3 := Eq.trans (hF.r hmo (by rw [kmo]; rfl)) z1342
                have z1371 : q_ir (q_r f1353 mo 33) bg := Eq.trans (hF.r hmo (by rw [kmo]; rfl)) z1343
                have z1372 : q_ir (q_r f1353 mo 34) lp := Eq.trans (hF.r hmo (by rw [kmo]; rfl)) z1344
                have z1373 : q_ir (q_r f1353 mo 24) hp := Eq.trans (hF.r hmo (by rw [kmo]; rfl)) z1345
                have z1374 : q_ir (q_r f1353 mo 25) dy := Eq.trans (hF.r hmo (by rw [kmo]; rfl)) z1346
                have z1375 : q_ir (q_r f1353 mo 15) as := Eq.trans (hF.r hmo (by rw [kmo]; rfl)) z1347
                have z1376 : q_ir (q_r f1353 mo 17) pa := Eq.trans (hF.r hmo (by rw [kmo]; rfl)) z1348
                have g1377 : q_gr f1353 sr := q_gr_fr g1349 (fun i9 _ => hF.z hsr (by rw [ksr]; rfl))
                have g1378 : q_pk f1353 mo pa := q_pk_tr g1350 (hF.z hmo (by rw [kmo]; rfl)) (fun i9 => hF.z hpa (by rw [kpa]; rfl))
                have g1379 : q_sc f1353 mo cs c1 c2 := q_sc_tr g1351 (hF.z hmo (by rw [kmo]; rfl)) (hF.z hmo (by rw [kmo]; rfl)) (hF.z hmo (by rw [kmo]; rfl)) (fun i9 => hF.z hcs (by rw [kcs]; rfl)) (fun i9 => hF.z hc1 (by rw [kc1]; rfl)) (fun i9 => hF.z hc2 (by rw [kc2]; rfl))
                obtain ⟨x1380, ex1380⟩ : ∃ zz, q_is (q_z f1353 as 2) zz := ⟨_, q_isr _⟩
                obtain ⟨lx1380, ux1380⟩ := q_isb ex1380 ⟨lz1356, uz1356⟩
                refine q_ald_n cx dX12_runScript_95 rfl (lv_at hl 0 rfl) ?_
                obtain ⟨x1381, ex1381⟩ : ∃ zz, q_is (q_z f1353 mo 35) zz := ⟨_, q_isr _⟩
                obtain ⟨lx1381, ux1381⟩ := q_isb ex1381 (q_fib hB.2.1 hmo kmo (by decide) rfl)
                refine q_cVi (As := []) (rest := []) cx hB (fun _ h => h) hN hmo kmo (by decide) rfl (r_runs l g hN hB.2.1 mo hmo kmo sr hsr ksr hp hhp khp dy hdy kdy cs hcs kcs c1 hc1 kc1 c2 hc2 kc2 c3 hc3 kc3 bg hbg kbg lp hlp klp xt (by omega) (by omega) xm (by omega) (by omega) x1381 (by omega) (by omega) z1357 z1358 ex1381 z1364 z1373 z1374 z1367 z1368 z1369 z1370 z1371 z1372 g1377 g1379) q_cX12_506 q_dX12_runs (by decide) rfl rfl hl.1 rfl (Nat.le_of_ble_eq_true rfl) dX12_runScript_96 (fun y1383 H locs f1382 ry1383 h1384 hF hB => ?_)
                obtain ⟨ly1383, uy1383, lz1385, uz1385, lz1386, uz1386, g1387⟩ := h1384
                have z1388 : q_is (q_z f1382 mo 2) w19_mo_2 := Eq.trans (hF.z hmo (by rw [kmo]; rfl)) z1359
                have z1389 : q_is (q_z f1382 mo 8) w19_mo_8 := Eq.trans (hF.z hmo (by rw [kmo]; rfl)) z1360
                have z1390 : q_is (q_z f1382 mo 6) x1316 := Eq.trans (hF.z hmo (by rw [kmo]; rfl)) z1361
                have z1391 : q_is (q_z f1382 mo 37) x1323 := Eq.trans (hF.z hmo (by rw [kmo]; rfl)) z1362
                have z1392 : q_is (q_z f1382 mo 0) 0 := Eq.trans (hF.z hmo (by rw [kmo]; rfl)) z1363
                have z1393 : q_is (q_z f1382 as 2) x1380 := Eq.trans (hF.z has (by rw [kas]; rfl)) ex1380
                have z1394 : q_is (q_z f1382 mo 35) x1381 := Eq.trans (hF.z hmo (by rw [kmo]; rfl)) ex1381
                have z1395 : q_ir (q_r f1382 mo 13) sr := Eq.trans (hF.r hmo (by rw [kmo]; rfl)) z1364
                have z1396 : q_ir (q_r f1382 mo 18) nm := Eq.trans (hF.r hmo (by rw [kmo]; rfl)) z1365
                have z1397 : q_ir (q_r f1382 mo 1) bu := Eq.trans (hF.r hmo (by rw [kmo]; rfl)) z1366
                have z1398 : q_ir (q_r f1382 mo 29) cs := Eq.trans (hF.r hmo (by rw [kmo]; rfl)) z1367
                have z1399 : q_ir (q_r f1382 mo 30) c1 := Eq.trans (hF.r hmo (by rw [kmo]; rfl)) z1368
                have z1400 : q_ir (q_r f1382 mo 31) c2 := Eq.trans (hF.r hmo (by rw [kmo]; rfl)) z1369
                have z1401 : q_ir (q_r f1382 mo 32) c3 := Eq.trans (hF.r hmo (by rw [kmo]; rfl)) z1370
                have z1402 : q_ir (q_r f1382 mo 33) bg := Eq.trans (hF.r hmo (by rw [kmo]; rfl)) z1371
                have z1403 : q_ir (q_r f1382 mo 34) lp := Eq.trans (hF.r hmo (by rw [kmo]; rfl)) z1372
                have z1404 : q_ir (q_r f1382 mo 24) hp := Eq.trans (hF.r hmo (by rw [kmo]; rfl)) z1373
                have z1405 : q_ir (q_r f1382 mo 25) dy := Eq.trans (hF.r hmo (by rw [kmo]; rfl)) z1374
                have z1406 : q_ir (q_r f1382 mo 15) as := Eq.trans (hF.r hmo (by rw [kmo]; rfl)) z1375
                have z1407 : q_ir (q_r f1382 mo 17) pa := Eq.trans (hF.r hmo (by rw [kmo]; rfl)) z1376
                have g1408 : q_pk f1382 mo pa := q_pk_tr g1378 (hF.z hmo (by rw [kmo]; rfl)) (fun i9 => hF.z hpa (by rw [kpa]; rfl))
                have g1409 : q_sc f1382 mo cs c1 c2 := q_sc_tr g1379 (hF.z hmo (by rw [kmo]; rfl)) (hF.z hmo (by rw [kmo]; rfl)) (hF.z hmo (by rw [kmo]; rfl)) (fun i9 => hF.z hcs (by rw [kcs]; rfl)) (fun i9 => hF.z hc1 (by rw [kc1]; rfl)) (fun i9 => hF.z hc2 (by rw [kc2]; rfl))
                obtain ⟨x1410, ex1410⟩ : ∃ zz, q_is (q_z f1382 sr 3) zz := ⟨_, q_isr _⟩
                obtain ⟨lx1410, ux1410⟩ := q_isb ex1410 ⟨lz1385, uz1385⟩
                obtain ⟨x1411, ex1411⟩ : ∃ zz, q_is (q_z f1382 sr 4) zz := ⟨_, q_isr _⟩
                obtain ⟨lx1411, ux1411⟩ := q_isb ex1411 ⟨lz1386, uz1386⟩
                refine lv_istore_n (lv' := [(1, .int (q_i y1383)), (0, .ref mo)]) cx.1 cx.2.1 dX12_runScript_99 rfl hl (by decide) rfl (fun ls hl => ?_)
                refine q_ald_n cx dX12_runScript_100 rfl (lv_at hl 1 rfl) ?_
                obtain ⟨x1412, ex1412⟩ : ∃ zz, q_is (q_z f1382 mo 21) zz := ⟨_, q_isr _⟩
                obtain ⟨lx1412, ux1412⟩ := q_isb ex1412 (q_fib hB.2.1 hmo kmo (by decide) rfl)
                by_cases c1413 : x1412 ≤ 5
                · refine q_cVv (As := []) (rest := []) cx hB (fun _ h => h) hN hmo kmo (by decide) rfl (r_keeps0 l g hN hB.2.1 mo hmo kmo as has kas pa hpa kpa x1380 (by omega) (by omega) x1412 (by omega) (by omega) z1393 ex1412 z1406 z1407 g1408) q_cX12_161 q_dX12_keeps (by decide) rfl rfl hl.1 rfl (Nat.le_of_ble_eq_true rfl) dX12_runScript_101 (fun H locs f1414 h1416 hF hB => ?_)
                  have g1417 := h1416
                  have z1418 : q_is (q_z f1414 mo 2) w19_mo_2 := Eq.trans (hF.z hmo (by rw [kmo]; rfl)) z1388
                  have z1419 : q_is (q_z f1414 mo 8) w19_mo_8 := Eq.trans (hF.z hmo (by rw [kmo]; rfl)) z1389
                  have z1420 : q_is (q_z f1414 mo 6) x1316 := Eq.trans (hF.z hmo (by rw [kmo]; rfl)) z1390
                  have z1421 : q_is (q_z f1414 mo 37) x1323 := Eq.trans (hF.z hmo (by rw [kmo]; rfl)) z1391
                  have z1422 : q_is (q_z f1414 mo 0) 0 := Eq.trans (hF.z hmo (by rw [kmo]; rfl)) z1392
                  have z1423 : q_is (q_z f1414 as 2) x1380 := Eq.trans (hF.z has (by rw [kas]; rfl)) z1393
                  have z1424 : q_is (q_z f1414 mo 35) x1381 := Eq.trans (hF.z hmo (by rw [kmo]; rfl)) z1394
                  have z1425 : q_is (q_z f1414 sr 3) x1410 := Eq.trans (hF.z hsr (by rw [ksr]; rfl)) ex1410
                  have z1426 : q_is (q_z f1414 sr 4) x1411 := Eq.trans (hF.z hsr (by rw [ksr]; rfl)) ex1411
                  have z1427 : q_ir (q_r f1414 mo 13) sr := Eq.trans (hF.r hmo (by rw [kmo]; rfl)) z1395
                  have z1428 : q_ir (q_r f1414 mo 18) nm := Eq.trans (hF.r hmo (by rw [kmo]; rfl)) z1396
                  have z1429 : q_ir (q_r f1414 mo 1) bu := Eq.trans (hF.r hmo (by rw [kmo]; rfl)) z1397
                  have z1430 : q_ir (q_r f1414 mo 29) cs := Eq.trans (hF.r hmo (by rw [kmo]; rfl)) z1398
                  have z1431 : q_ir (q_r f1414 mo 30) c1 := Eq.trans (hF.r hmo (by rw [kmo]; rfl)) z1399
                  have z1432 : q_ir (q_r f1414 mo 31) c2 := Eq.trans (hF.r hmo (by rw [kmo]; rfl)) z1400
                  have z1433 : q_ir (q_r f1414 mo 32) c3 := Eq.trans (hF.r hmo (by rw [kmo]; rfl)) z1401
                  have z1434 : q_ir (q_r f1414 mo 33) bg := Eq.trans (hF.r hmo (by rw [kmo]; rfl)) z1402
                  have z1435 : q_ir (q_r f1414 mo 34) lp := Eq.trans (hF.r hmo (by rw [kmo]; rfl)) z1403
                  have z1436 : q_ir (q_r f1414 mo 24) hp := Eq.trans (hF.r hmo (by rw [kmo]; rfl)) z1404
                  have z1437 : q_ir (q_r f1414 mo 25) dy := Eq.trans (hF.r hmo (by rw [kmo]; rfl)) z1405
                  have z1438 : q_ir (q_r f1414 mo 15) as := Eq.trans (hF.r hmo (by rw [kmo]; rfl)) z1406
                  have z1439 : q_ir (q_r f1414 mo 17) pa := Eq.trans (hF.r hmo (by rw [kmo]; rfl)) z1407
                  have g1440 : q_gr f1414 sr := q_gr_fr g1387 (fun i9 _ => hF.z hsr (by rw [ksr]; rfl))
                  have g1441 : q_sc f1414 mo cs c1 c2 := q_sc_tr g1409 (hF.z hmo (by rw [kmo]; rfl)) (hF.z hmo (by rw [kmo]; rfl)) (hF.z hmo (by rw [kmo]; rfl)) (fun i9 => hF.z hcs (by rw [kcs]; rfl)) (fun i9 => hF.z hc1 (by rw [kc1]; rfl)) (fun i9 => hF.z hc2 (by rw [kc2]; rfl))
                  refine q_ild_n cx dX12_runScript_104 rfl (lv_at hl 0 rfl) ?_
                  refine q_iret cx hr hlk hB dX12_runScript_105 ⟨by omega, by omega⟩ ?_
                  exact ⟨(by omega), (by omega), (q_isl z1425 (by omega)), (q_isu z1425 (by omega)), (q_isl z1426 (by omega)), (q_isu z1426 (by omega)), (Eq.trans z1418 (by omega)), g1440, g1417⟩
                · refine q_cVv (As := []) (rest := []) cx hB (fun _ h => h) hN hmo kmo (by decide) rfl (r_keeps6 l g hN hB.2.1 mo hmo kmo as has kas pa hpa kpa x1380 (by omega) (by omega) z1393 (Eq.trans ex1412 (by omega)) z1406 z1407 g1408) q_cX12_161 q_dX12_keeps (by decide) rfl rfl hl.1 rfl (Nat.le_of_ble_eq_true rfl) dX12_runScript_101 (fun H locs f1442 h1444 hF hB => ?_)
                  have g1445 := h1444
                  have z1446 : q_is (q_z f1442 mo 2) w19_mo_2 := Eq.trans (hF.z hmo (by rw [kmo]; rfl)) z1388
                  have z1447 : q_is (q_z f1442 mo 8) w19_mo_8 := Eq.trans (hF.z hmo (by rw [kmo]; rfl)) z1389
                  have z1448 : q_is (q_z f1442 mo 6) x1316 := Eq.trans (hF.z hmo (by rw [kmo]; rfl)) z1390
                  have z1449 : q_is (q_z f1442 mo 37) x1323 := Eq.trans (hF.z hmo (by rw [kmo]; rfl)) z1391
                  have z1450 : q_is (q_z f1442 mo 0) 0 := Eq.trans (hF.z hmo (by rw [kmo]; rfl)) z1392
                  have z1451 : q_is (q_z f1442 as 2) x1380 := Eq.trans (hF.z has (by rw [kas]; rfl)) z1393
                  have z1452 : q_is (q_z f1442 mo 35) x1381 := Eq.trans (hF.z hmo (by rw [kmo]; rfl)) z1394
                  have z1453 : q_is (q_z f1442 sr 3) x1410 := Eq.trans (hF.z hsr (by rw [ksr]; rfl)) ex1410
                  have z1454 : q_is (q_z f1442 sr 4) x1411 := Eq.trans (hF.z hsr (by rw [ksr]; rfl)) ex1411
                  have z1455 : q_ir (q_r f1442 mo 13) sr := Eq.trans (hF.r hmo (by rw [kmo]; rfl)) z1395
                  have z1456 : q_ir (q_r f1442 mo 18) nm := Eq.trans (hF.r hmo (by rw [kmo]; rfl)) z1396
                  have z1457 : q_ir (q_r f1442 mo 1) bu := Eq.trans (hF.r hmo (by rw [kmo]; rfl)) z1397
                  have z1458 : q_ir (q_r f1442 mo 29) cs := Eq.trans (hF.r hmo (by rw [kmo]; rfl)) z1398
                  have z1459 : q_ir (q_r f1442 mo 30) c1 := Eq.trans (hF.r hmo (by rw [kmo]; rfl)) z1399
                  have z1460 : q_ir (q_r f1442 mo 31) c2 := Eq.trans (hF.r hmo (by rw [kmo]; rfl)) z1400
                  have z1461 : q_ir (q_r f1442 mo 32) c3 := Eq.trans (hF.r hmo (by rw [kmo]; rfl)) z1401
                  have z1462 : q_ir (q_r f1442 mo 33) bg := Eq.trans (hF.r hmo (by rw [kmo]; rfl)) z1402
                  have z1463 : q_ir (q_r f1442 mo 34) lp := Eq.trans (hF.r hmo (by rw [kmo]; rfl)) z1403
                  have z1464 : q_ir (q_r f1442 mo 24) hp := Eq.trans (hF.r hmo (by rw [kmo]; rfl)) z1404
                  have z1465 : q_ir (q_r f1442 mo 25) dy := Eq.trans (hF.r hmo (by rw [kmo]; rfl)) z1405
                  have z1466 : q_ir (q_r f1442 mo 15) as := Eq.trans (hF.r hmo (by rw [kmo]; rfl)) z1406
                  have z1467 : q_ir (q_r f1442 mo 17) pa := Eq.trans (hF.r hmo (by rw [kmo]; rfl)) z1407
                  have g1468 : q_gr f1442 sr := q_gr_fr g1387 (fun i9 _ => hF.z hsr (by rw [ksr]; rfl))
                  have g1469 : q_sc f1442 mo cs c1 c2 := q_sc_tr g1409 (hF.z hmo (by rw [kmo]; rfl)) (hF.z hmo (by rw [kmo]; rfl)) (hF.z hmo (by rw [kmo]; rfl)) (fun i9 => hF.z hcs (by rw [kcs]; rfl)) (fun i9 => hF.z hc1 (by rw [kc1]; rfl)) (fun i9 => hF.z hc2 (by rw [kc2]; rfl))
                  refine q_ild_n cx dX12_runScript_104 rfl (lv_at hl 0 rfl) ?_
                  refine q_iret cx hr hlk hB dX12_runScript_105 ⟨by omega, by omega⟩ ?_
                  exact ⟨(by omega), (by omega), (q_isl z1453 (by omega)), (q_isu z1453 (by omega)), (q_isl z1454 (by omega)), (q_isu z1454 (by omega)), (Eq.trans z1446 (by omega)), g1468, g1445⟩
              · exact absurd c1352 (by omega)
            · refine q_ald_n cx dX12_runScript_77 rfl (lv_at hl 0 rfl) ?_
              refine q_iconst cx dX12_runScript_78 ?_
              refine q_cVv (As := [.int (q_i 1)]) (rest := []) cx hB (fun _ h => h) hN hmo kmo (by decide) rfl (r_wrong0 l g hN hB.2.1 mo hmo kmo 1 (by decide) (by decide) (Eq.trans hj_mo_8 (by omega))) q_cX12_137 q_dX12_wrong (by decide) rfl rfl hl.1 rfl (Nat.le_of_ble_eq_true rfl) dX12_runScript_79 (fun H locs f1470 h1472 hF hB => ?_)
              obtain ⟨lz1473, uz1473⟩ := h1472
              have z1474 : q_is (q_z f1470 sr 3) xt := Eq.trans (hF.z hsr (by rw [ksr]; rfl)) hj_sr_3
              have z1475 : q_is (q_z f1470 sr 4) xm := Eq.trans (hF.z hsr (by rw [ksr]; rfl)) hj_sr_4
              have z1476 : q_is (q_z f1470 mo 2) w19_mo_2 := Eq.trans (hF.z hmo (by rw [kmo]; rfl)) hj_mo_2
              have z1477 : q_is (q_z f1470 mo 6) x1316 := Eq.trans (hF.z hmo (by rw [kmo]; rfl)) ex1316
              have z1478 : q_is (q_z f1470 mo 37) x1323 := Eq.trans (hF.z hmo (by rw [kmo]; rfl)) ex1323
              have z1479 : q_ir (q_r f1470 mo 13) sr := Eq.trans (hF.r hmo (by rw [kmo]; rfl)) hq_mo_13
              have z1480 : q_ir (q_r f1470 mo 18) nm := Eq.trans (hF.r hmo (by rw [kmo]; rfl)) hq_mo_18
              have z1481 : q_ir (q_r f1470 mo 1) bu := Eq.trans (hF.r hmo (by rw [kmo]; rfl)) hq_mo_1
              have z1482 : q_ir (q_r f1470 mo 29) cs := Eq.trans (hF.r hmo (by rw [kmo]; rfl)) hq_mo_29
              have z1483 : q_ir (q_r f1470 mo 30) c1 := Eq.trans (hF.r hmo (by rw [kmo]; rfl)) hq_mo_30
              have z1484 : q_ir (q_r f1470 mo 31) c2 := Eq.trans (hF.r hmo (by rw [kmo]; rfl)) hq_mo_31
              have z1485 : q_ir (q_r f1470 mo 32) c3 := Eq.trans (hF.r hmo (by rw [kmo]; rfl)) hq_mo_32
              have z1486 : q_ir (q_r f1470 mo 33) bg := Eq.trans (hF.r hmo (by rw [kmo]; rfl)) hq_mo_33
              have z1487 : q_ir (q_r f1470 mo 34) lp := Eq.trans (hF.r hmo (by rw [kmo]; rfl)) hq_mo_34
              have z1488 : q_ir (q_r f1470 mo 24) hp := Eq.trans (hF.r hmo (by rw [kmo]; rfl)) hq_mo_24
              have z1489 : q_ir (q_r f1470 mo 25) dy := Eq.trans (hF.r hmo (by rw [kmo]; rfl)) hq_mo_25
              have z1490 : q_ir (q_r f1470 mo 15) as := Eq.trans (hF.r hmo (by rw [kmo]; rfl)) hq_mo_15
              have z1491 : q_ir (q_r f1470 mo 17) pa := Eq.trans (hF.r hmo (by rw [kmo]; rfl)) hq_mo_17
              have g1492 : q_gr f1470 sr := q_gr_fr hgr19 (fun i9 _ => hF.z hsr (by rw [ksr]; rfl))
              have g1493 : q_pk f1470 mo pa := q_pk_tr hpk19 (hF.z hmo (by rw [kmo]; rfl)) (fun i9 => hF.z hpa (by rw [kpa]; rfl))
              have g1494 : q_sc f1470 mo cs c1 c2 := q_sc_tr hsc19 (hF.z hmo (by rw [kmo]; rfl)) (hF.z hmo (by rw [kmo]; rfl)) (hF.z hmo (by rw [kmo]; rfl)) (fun i9 => hF.z hcs (by rw [kcs]; rfl)) (fun i9 => hF.z hc1 (by rw [kc1]; rfl)) (fun i9 => hF.z hc2 (by rw [kc2]; rfl))
              obtain ⟨x1495, ex1495⟩ : ∃ zz, q_is (q_z f1470 mo 8) zz := ⟨_, q_isr _⟩
              obtain ⟨lx1495, ux1495⟩ := q_isb ex1495 ⟨lz1473, uz1473⟩
              refine q_ald_n cx dX12_runScript_82 rfl (lv_at hl 0 rfl) ?_
              refine q_cVi (As := []) (rest := []) cx hB (fun _ h => h) hN hmo kmo (by decide) rfl (r_endsText1 l g hN hB.2.1 mo hmo kmo x1495 (by omega) (by omega) ex1495) q_cX12_253 q_dX12_endsText (by decide) rfl rfl hl.1 rfl (Nat.le_of_ble_eq_true rfl) dX12_runScript_83 (fun y1497 H locs f1496 ry1497 h1498 hF hB => ?_)
              obtain ⟨qy1497, z1499⟩ := h1498
              have z1500 : q_is (q_z f1496 sr 3) xt := Eq.trans (hF.z hsr (by rw [ksr]; rfl)) z1474
              have z1501 : q_is (q_z f1496 sr 4) xm := Eq.trans (hF.z hsr (by rw [ksr]; rfl)) z1475
              have z1502 : q_is (q_z f1496 mo 2) w19_mo_2 := Eq.trans (hF.z hmo (by rw [kmo]; rfl)) z1476
              have z1503 : q_is (q_z f1496 mo 6) x1316 := Eq.trans (hF.z hmo (by rw [kmo]; rfl)) z1477
              have z1504 : q_is (q_z f1496 mo 37) x1323 := Eq.trans (hF.z hmo (by rw [kmo]; rfl)) z1478
              have z1505 : q_is (q_z f1496 mo 8) x1495 := Eq.trans (hF.z hmo (by rw [kmo]; rfl)) ex1495
              have z1506 : q_ir (q_r f1496 mo 13) sr := Eq.trans (hF.r hmo (by rw [kmo]; rfl)) z1479
              have z1507 : q_ir (q_r f1496 mo 18) nm := Eq.trans (hF.r hmo (by rw [kmo]; rfl)) z1480
              have z1508 : q_ir (q_r f1496 mo 1) bu := Eq.trans (hF.r hmo (by rw [kmo]; rfl)) z1481
              have z1509 : q_ir (q_r f1496 mo 29) cs := Eq.trans (hF.r hmo (by rw [kmo]; rfl)) z1482
              have z1510 : q_ir (q_r f1496 mo 30) c1 := Eq.trans (hF.r hmo (by rw [kmo]; rfl)) z1483
              have z1511 : q_ir (q_r f1496 mo 31) c2 := Eq.trans (hF.r hmo (by rw [kmo]; rfl)) z1484
              have z1512 : q_ir (q_r f1496 mo 32) c3 := Eq.trans (hF.r hmo (by rw [kmo]; rfl)) z1485
              have z1513 : q_ir (q_r f1496 mo 33) bg := Eq.trans (hF.r hmo (by rw [kmo]; rfl)) z1486
              have z1514 : q_ir (q_r f1496 mo 34) lp := Eq.trans (hF.r hmo (by rw [kmo]; rfl)) z1487
              have z1515 : q_ir (q_r f1496 mo 24) hp := Eq.trans (hF.r hmo (by rw [kmo]; rfl)) z1488
              have z1516 : q_ir (q_r f1496 mo 25) dy := Eq.trans (hF.r hmo (by rw [kmo]; rfl)) z1489
              have z1517 : q_ir (q_r f1496 mo 15) as := Eq.trans (hF.r hmo (by rw [kmo]; rfl)) z1490
              have z1518 : q_ir (q_r f1496 mo 17) pa := Eq.trans (hF.r hmo (by rw [kmo]; rfl)) z1491
              have g1519 : q_gr f1496 sr := q_gr_fr g1492 (fun i9 _ => hF.z hsr (by rw [ksr]; rfl))
              have g1520 : q_pk f1496 mo pa := q_pk_tr g1493 (hF.z hmo (by rw [kmo]; rfl)) (fun i9 => hF.z hpa (by rw [kpa]; rfl))
              have g1521 : q_sc f1496 mo cs c1 c2 := q_sc_tr g1494 (hF.z hmo (by rw [kmo]; rfl)) (hF.z hmo (by rw [kmo]; rfl)) (hF.z hmo (by rw [kmo]; rfl)) (fun i9 => hF.z hcs (by rw [kcs]; rfl)) (fun i9 => hF.z hc1 (by rw [kc1]; rfl)) (fun i9 => hF.z hc2 (by rw [kc2]; rfl))
              subst qy1497
              refine q_ifne (tgt := 91) cx ⟨by decide, by decide⟩ dX12_runScript_86 (by decide) (fun c1522 => ?_) (fun c1522 => ?_)
              · exact absurd c1522 (by omega)
              · refine q_iconst cx dX12_runScript_89 ?_
                refine q_iret cx hr hlk hB dX12_runScript_90 ⟨by decide, by decide⟩ ?_
                exact ⟨(by decide), (by decide), (q_isl z1500 (by omega)), (q_isu z1500 (by omega)), (q_isl z1501 (by omega)), (q_isu z1501 (by omega)), (Eq.trans z1502 (by omega)), g1519, g1520⟩
        · refine q_ald_n cx dX12_runScript_33 rfl (lv_at hl 0 rfl) ?_
          obtain ⟨x1523, ex1523⟩ : ∃ zz, q_is (q_z f19 mo 37) zz := ⟨_, q_isr _⟩
          refine q_gX12_488 cx hB hmo kmo ex1523 dX12_runScript_34 (fun lb1524 ub1524 => ?_)
          refine lv_istore_n (lv' := [(1, .int (q_i x1523)), (0, .ref mo)]) cx.1 cx.2.1 dX12_runScript_37 rfl hl (by decide) rfl (fun ls hl => ?_)
          refine q_ald_n cx dX12_runScript_38 rfl (lv_at hl 1 rfl) ?_
          obtain ⟨x1525, ex1525⟩ : ∃ zz, q_is (q_z f19 mo 4) zz := ⟨_, q_isr _⟩
          obtain ⟨lx1525, ux1525⟩ := q_isb ex1525 (q_fib hB.2.1 hmo kmo (by decide) rfl)
          refine q_cVv (As := []) (rest := []) cx hB (fun _ h => h) hN hmo kmo (by decide) rfl (r_command l g hN hB.2.1 mo hmo kmo sr hsr ksr nm hnm knm bu hbu kbu cs hcs kcs c1 hc1 kc1 c2 hc2 kc2 c3 hc3 kc3 x1525 (by omega) (by omega) x1523 (by omega) (by omega) (Eq.trans hj_mo_8 (by omega)) ex1525 ex1523 hq_mo_13 hq_mo_18 hq_mo_1 hq_mo_29 hq_mo_30 hq_mo_31 hq_mo_32 hsc19) q_cX12_500 q_dX12_command (by decide) rfl rfl hl.1 rfl (Nat.le_of_ble_eq_true rfl) dX12_runScript_39 (fun H locs f1526 h1528 hF hB => ?_)
          rcases h1528 with h1529 | h1530 | h1531
          · obtain ⟨z1532, z1533, t1534, t1535, t1536⟩ := h1529
            have z1537 : q_is (q_z f1526 sr 3) xt := Eq.trans (hF.z hsr (by rw [ksr]; rfl)) hj_sr_3
            have z1538 : q_is (q_z f1526 sr 4) xm := Eq.trans (hF.z hsr (by rw [ksr]; rfl)) hj_sr_4
            have z1539 : q_is (q_z f1526 mo 2) w19_mo_2 := Eq.trans (hF.z hmo (by rw [kmo]; rfl)) hj_mo_2
            have z1540 : q_ir (q_r f1526 mo 13) sr := Eq.trans (hF.r hmo (by rw [kmo]; rfl)) hq_mo_13
            have z1541 : q_ir (q_r f1526 mo 18) nm := Eq.trans (hF.r hmo (by rw [kmo]; rfl)) hq_mo_18
            have z1542 : q_ir (q_r f1526 mo 1) bu := Eq.trans (hF.r hmo (by rw [kmo]; rfl)) hq_mo_1
            have z1543 : q_ir (q_r f1526 mo 29) cs := Eq.trans (hF.r hmo (by rw [kmo]; rfl)) hq_mo_29
            have z1544 : q_ir (q_r f1526 mo 30) c1 := Eq.trans (hF.r hmo (by rw [kmo]; rfl)) hq_mo_30
            have z1545 : q_ir (q_r f1526 mo 31) c2 := Eq.trans (hF.r hmo (by rw [kmo]; rfl)) hq_mo_31
            have z1546 : q_ir (q_r f1526 mo 32) c3 := Eq.trans (hF.r hmo (by rw [kmo]; rfl)) hq_mo_32
            have z1547 : q_ir (q_r f1526 mo 33) bg := Eq.trans (hF.r hmo (by rw [kmo]; rfl)) hq_mo_33
            have z1548 : q_ir (q_r f1526 mo 34) lp := Eq.trans (hF.r hmo (by rw [kmo]; rfl)) hq_mo_34
            have z1549 : q_ir (q_r f1526 mo 24) hp := Eq.trans (hF.r hmo (by rw [kmo]; rfl)) hq_mo_24
            have z1550 : q_ir (q_r f1526 mo 25) dy := Eq.trans (hF.r hmo (by rw [kmo]; rfl)) hq_mo_25
            have z1551 : q_ir (q_r f1526 mo 15) as := Eq.trans (hF.r hmo (by rw [kmo]; rfl)) hq_mo_15
            have z1552 : q_ir (q_r f1526 mo 17) pa := Eq.trans (hF.r hmo (by rw [kmo]; rfl)) hq_mo_17
            have g1553 : q_gr f1526 sr := q_gr_fr hgr19 (fun i9 _ => hF.z hsr (by rw [ksr]; rfl))
            have g1554 : q_pk f1526 mo pa := q_pk_tr hpk19 (hF.z hmo (by rw [kmo]; rfl)) (fun i9 => hF.z hpa (by rw [kpa]; rfl))
            obtain ⟨x1555, ex1555⟩ : ∃ zz, q_is (q_z f1526 mo 4) zz := ⟨_, q_isr _⟩
            obtain ⟨lx1555, ux1555⟩ := q_isb ex1555 (q_fib hB.2.1 hmo kmo (by decide) rfl)
            obtain ⟨x1556, ex1556⟩ : ∃ zz, q_is (q_z f1526 mo 6) zz := ⟨_, q_isr _⟩
            obtain ⟨lx1556, ux1556⟩ := q_isb ex1556 (q_fib hB.2.1 hmo kmo (by decide) rfl)
            replace t1534 := q_isl9 ex1555 t1534
            replace t1535 := k_po_si ex1556 ex1555 t1535
            refine q_ald_n cx dX12_runScript_42 rfl (lv_at hl 1 rfl) ?_
            refine q_gX12_488 cx hB hmo kmo z1533 dX12_runScript_43 (fun lb1557 ub1557 => ?_)
            refine q_ild_n cx dX12_runScript_46 rfl (lv_at hl 0 rfl) ?_
            refine q_icne (tgt := 56) cx ⟨by omega, by omega⟩ ⟨by omega, by omega⟩ dX12_runScript_47 (by decide) (fun c1558 => ?_) (fun c1558 => ?_)
            · exact absurd c1558 (by omega)
            · refine q_ald_n cx dX12_runScript_50 rfl (lv_at hl 1 rfl) ?_
              refine q_bipush cx dX12_runScript_51 rfl ?_
              refine q_cVv (As := [.int (q_i 59)]) (rest := []) cx hB (fun _ h => h) hN hmo kmo (by decide) rfl (r_mustSign0 l g hN hB.2.1 mo hmo kmo 59 (by decide) (by decide) bu hbu kbu x1555 (by omega) (by omega) z1532 ex1555 z1542) q_cX12_241 q_dX12_mustSign (by decide) rfl rfl hl.1 rfl (Nat.le_of_ble_eq_true rfl) dX12_runScript_53 (fun H locs f1559 h1561 hF hB => ?_)
              rcases h1561 with h1562 | h1563
              · obtain ⟨z1564, t1565, t1566, t1567⟩ := h1562
                have z1568 : q_is (q_z f1559 sr 3) xt := Eq.trans (hF.z hsr (by rw [ksr]; rfl)) z1537
                have z1569 : q_is (q_z f1559 sr 4) xm := Eq.trans (hF.z hsr (by rw [ksr]; rfl)) z1538
                have z1570 : q_is (q_z f1559 mo 2) w19_mo_2 := Eq.trans (hF.z hmo (by rw [kmo]; rfl)) z1539
                have z1571 : q_is (q_z f1559 mo 37) x1523 := Eq.trans (hF.z hmo (by rw [kmo]; rfl)) z1533
                have z1572 : q_ir (q_r f1559 mo 13) sr := Eq.trans (hF.r hmo (by rw [kmo]; rfl)) z1540
                have z1573 : q_ir (q_r f1559 mo 18) nm := Eq.trans (hF.r hmo (by rw [kmo]; rfl)) z1541
                have z1574 : q_ir (q_r f1559 mo 1) bu := Eq.trans (hF.r hmo (by rw [kmo]; rfl)) z1542
                have z1575 : q_ir (q_r f1559 mo 29) cs := Eq.trans (hF.r hmo (by rw [kmo]; rfl)) z1543
                have z1576 : q_ir (q_r f1559 mo 30) c1 := Eq.trans (hF.r hmo (by rw [kmo]; rfl)) z1544
                have z1577 : q_ir (q_r f1559 mo 31) c2 := Eq.trans (hF.r hmo (by rw [kmo]; rfl)) z1545
                have z1578 : q_ir (q_r f1559 mo 32) c3 := Eq.trans (hF.r hmo (by rw [kmo]; rfl)) z1546
                have z1579 : q_ir (q_r f1559 mo 33) bg := Eq.trans (hF.r hmo (by rw [kmo]; rfl)) z1547
                have z1580 : q_ir (q_r f1559 mo 34) lp := Eq.trans (hF.r hmo (by rw [kmo]; rfl)) z1548
                have z1581 : q_ir (q_r f1559 mo 24) hp := Eq.trans (hF.r hmo (by rw [kmo]; rfl)) z1549
                have z1582 : q_ir (q_r f1559 mo 25) dy := Eq.trans (hF.r hmo (by rw [kmo]; rfl)) z1550
                have z1583 : q_ir (q_r f1559 mo 15) as := Eq.trans (hF.r hmo (by rw [kmo]; rfl)) z1551
                have z1584 : q_ir (q_r f1559 mo 17) pa := Eq.trans (hF.r hmo (by rw [kmo]; rfl)) z1552
                have g1585 : q_gr f1559 sr := q_gr_fr g1553 (fun i9 _ => hF.z hsr (by rw [ksr]; rfl))
                have g1586 : q_pk f1559 mo pa := q_pk_tr g1554 (hF.z hmo (by rw [kmo]; rfl)) (fun i9 => hF.z hpa (by rw [kpa]; rfl))
                have g1587 : q_sc f1559 mo cs c1 c2 := q_sc_tr t1536 (hF.z hmo (by rw [kmo]; rfl)) (hF.z hmo (by rw [kmo]; rfl)) (hF.z hmo (by rw [kmo]; rfl)) (fun i9 => hF.z hcs (by rw [kcs]; rfl)) (fun i9 => hF.z hc1 (by rw [kc1]; rfl)) (fun i9 => hF.z hc2 (by rw [kc2]; rfl))
                obtain ⟨x1588, ex1588⟩ : ∃ zz, q_is (q_z f1559 mo 4) zz := ⟨_, q_isr _⟩
                obtain ⟨lx1588, ux1588⟩ := q_isb ex1588 (q_fib hB.2.1 hmo kmo (by decide) rfl)
                obtain ⟨x1589, ex1589⟩ : ∃ zz, q_is (q_z f1559 mo 6) zz := ⟨_, q_isr _⟩
                obtain ⟨lx1589, ux1589⟩ := q_isb ex1589 (q_fib hB.2.1 hmo kmo (by decide) rfl)
                replace t1565 := q_isl9 ex1588 t1565
                replace t1566 := k_po_si ex1589 ex1588 t1566
                refine q_ald_n cx dX12_runScript_56 rfl (lv_at hl 1 rfl) ?_
                refine q_cVv (As := []) (rest := []) cx hB (fun _ h => h) hN hmo kmo (by decide) rfl (r_closes0 l g hN hB.2.1 mo hmo kmo bu hbu kbu cs hcs kcs c1 hc1 kc1 c2 hc2 kc2 x1588 (by omega) (by omega) z1564 ex1588 z1574 z1575 z1576 z1577 g1587) q_cX12_503 q_dX12_closes (by decide) rfl rfl hl.1 rfl (Nat.le_of_ble_eq_true rfl) dX12_runScript_57 (fun H locs f1590 h1592 hF hB => ?_)
                rcases h1592 with h1593 | h1594
                · obtain ⟨z1595, t1596, t1597⟩ := h1593
                  have z1598 : q_is (q_z f1590 sr 3) xt := Eq.trans (hF.z hsr (by rw [ksr]; rfl)) z1568
                  have z1599 : q_is (q_z f1590 sr 4) xm := Eq.trans (hF.z hsr (by rw [ksr]; rfl)) z1569
                  have z1600 : q_is (q_z f1590 mo 2) w19_mo_2 := Eq.trans (hF.z hmo (by rw [kmo]; rfl)) z1570
                  have z1601 : q_ir (q_r f1590 mo 13) sr := Eq.trans (hF.r hmo (by rw [kmo]; rfl)) z1572
                  have z1602 : q_ir (q_r f1590 mo 18) nm := Eq.trans (hF.r hmo (by rw [kmo]; rfl)) z1573
                  have z1603 : q_ir (q_r f1590 mo 1) bu := Eq.trans (hF.r hmo (by rw [kmo]; rfl)) z1574
                  have z1604 : q_ir (q_r f1590 mo 29) cs := Eq.trans (hF.r hmo (by rw [kmo]; rfl)) z1575
                  have z1605 : q_ir (q_r f1590 mo 30) c1 := Eq.trans (hF.r hmo (by rw [kmo]; rfl)) z1576
                  have z1606 : q_ir (q_r f1590 mo 31) c2 := Eq.trans (hF.r hmo (by rw [kmo]; rfl)) z1577
                  have z1607 : q_ir (q_r f1590 mo 32) c3 := Eq.trans (hF.r hmo (by rw [kmo]; rfl)) z1578
                  have z1608 : q_ir (q_r f1590 mo 33) bg := Eq.trans (hF.r hmo (by rw [kmo]; rfl)) z1579
                  have z1609 : q_ir (q_r f1590 mo 34) lp := Eq.trans (hF.r hmo (by rw [kmo]; rfl)) z1580
                  have z1610 : q_ir (q_r f1590 mo 24) hp := Eq.trans (hF.r hmo (by rw [kmo]; rfl)) z1581
                  have z1611 : q_ir (q_r f1590 mo 25) dy := Eq.trans (hF.r hmo (by rw [kmo]; rfl)) z1582
                  have z1612 : q_ir (q_r f1590 mo 15) as := Eq.trans (hF.r hmo (by rw [kmo]; rfl)) z1583
                  have z1613 : q_ir (q_r f1590 mo 17) pa := Eq.trans (hF.r hmo (by rw [kmo]; rfl)) z1584
                  have g1614 : q_gr f1590 sr := q_gr_fr g1585 (fun i9 _ => hF.z hsr (by rw [ksr]; rfl))
                  have g1615 : q_pk f1590 mo pa := q_pk_tr g1586 (hF.z hmo (by rw [kmo]; rfl)) (fun i9 => hF.z hpa (by rw [kpa]; rfl))
                  obtain ⟨x1616, ex1616⟩ : ∃ zz, q_is (q_z f1590 mo 4) zz := ⟨_, q_isr _⟩
                  obtain ⟨lx1616, ux1616⟩ := q_isb ex1616 (q_fib hB.2.1 hmo kmo (by decide) rfl)
                  obtain ⟨x1617, ex1617⟩ : ∃ zz, q_is (q_z f1590 mo 6) zz := ⟨_, q_isr _⟩
                  obtain ⟨lx1617, ux1617⟩ := q_isb ex1617 (q_fib hB.2.1 hmo kmo (by decide) rfl)
                  replace t1596 := q_isl9 ex1616 t1596
                  refine lv_goto (tgt := 19) cx.1 cx.2.1 dX12_runScript_60 (by decide) ?_
                  exact ih19 f1590 w19_mo_2 (by omega) (by omega) 0 (by decide) (by decide) z1598 z1599 z1600 z1595 z1601 z1602 z1603 z1604 z1605 z1606 z1607 z1608 z1609 z1610 z1611 z1612 z1613 g1614 g1615 t1597 (by omega) H locs hB ls (lv_sub hl [1] rfl)
                · obtain ⟨lz1618, uz1618⟩ := h1594
                  have z1619 : q_is (q_z f1590 sr 3) xt := Eq.trans (hF.z hsr (by rw [ksr]; rfl)) z1568
                  have z1620 : q_is (q_z f1590 sr 4) xm := Eq.trans (hF.z hsr (by rw [ksr]; rfl)) z1569
                  have z1621 : q_is (q_z f1590 mo 2) w19_mo_2 := Eq.trans (hF.z hmo (by rw [kmo]; rfl)) z1570
                  have z1622 : q_ir (q_r f1590 mo 13) sr := Eq.trans (hF.r hmo (by rw [kmo]; rfl)) z1572
                  have z1623 : q_ir (q_r f1590 mo 18) nm := Eq.trans (hF.r hmo (by rw [kmo]; rfl)) z1573
                  have z1624 : q_ir (q_r f1590 mo 1) bu := Eq.trans (hF.r hmo (by rw [kmo]; rfl)) z1574
                  have z1625 : q_ir (q_r f1590 mo 29) cs := Eq.trans (hF.r hmo (by rw [kmo]; rfl)) z1575
                  have z1626 : q_ir (q_r f1590 mo 30) c1 := Eq.trans (hF.r hmo (by rw [kmo]; rfl)) z1576
                  have z1627 : q_ir (q_r f1590 mo 31) c2 := Eq.trans (hF.r hmo (by rw [kmo]; rfl)) z1577
                  have z1628 : q_ir (q_r f1590 mo 32) c3 := Eq.trans (hF.r hmo (by rw [kmo]; rfl)) z1578
                  have z1629 : q_ir (q_r f1590 mo 33) bg := Eq.trans (hF.r hmo (by rw [kmo]; rfl)) z1579
                  have z1630 : q_ir (q_r f1590 mo 34) lp := Eq.trans (hF.r hmo (by rw [kmo]; rfl)) z1580
                  have z1631 : q_ir (q_r f1590 mo 24) hp := Eq.trans (hF.r hmo (by rw [kmo]; rfl)) z1581
                  have z1632 : q_ir (q_r f1590 mo 25) dy := Eq.trans (hF.r hmo (by rw [kmo]; rfl)) z1582
                  have z1633 : q_ir (q_r f1590 mo 15) as := Eq.trans (hF.r hmo (by rw [kmo]; rfl)) z1583
                  have z1634 : q_ir (q_r f1590 mo 17) pa := Eq.trans (hF.r hmo (by rw [kmo]; rfl)) z1584
                  have g1635 : q_gr f1590 sr := q_gr_fr g1585 (fun i9 _ => hF.z hsr (by rw [ksr]; rfl))
                  have g1636 : q_pk f1590 mo pa := q_pk_tr g1586 (hF.z hmo (by rw [kmo]; rfl)) (fun i9 => hF.z hpa (by rw [kpa]; rfl))
                  obtain ⟨x1637, ex1637⟩ : ∃ zz, q_is (q_z f1590 mo 8) zz := ⟨_, q_isr _⟩
                  obtain ⟨lx1637, ux1637⟩ := q_isb ex1637 ⟨lz1618, uz1618⟩
                  obtain ⟨x1638, ex1638⟩ : ∃ zz, q_is (q_z f1590 mo 4) zz := ⟨_, q_isr _⟩
                  obtain ⟨lx1638, ux1638⟩ := q_isb ex1638 (q_fib hB.2.1 hmo kmo (by decide) rfl)
                  obtain ⟨x1639, ex1639⟩ : ∃ zz, q_is (q_z f1590 mo 6) zz := ⟨_, q_isr _⟩
                  obtain ⟨lx1639, ux1639⟩ := q_isb ex1639 (q_fib hB.2.1 hmo kmo (by decide) rfl)
                  refine lv_goto (tgt := 19) cx.1 cx.2.1 dX12_runScript_60 (by decide) ?_
                  refine q_ald_n cx dX12_runScript_19 rfl (lv_at hl 1 rfl) ?_
                  refine q_cVi (As := []) (rest := []) cx hB (fun _ h => h) hN hmo kmo (by decide) rfl (r_isGood1 l g hN hB.2.1 mo hmo kmo x1637 (by omega) (by omega) ex1637) q_cX12_130 q_dX12_isGood (by decide) rfl rfl hl.1 rfl (Nat.le_of_ble_eq_true rfl) dX12_runScript_20 (fun y1641 H locs f1640 ry1641 h1642 hF hB => ?_)
                  obtain ⟨rfl, qy1641⟩ := h1642
                  subst qy1641
                  refine q_ifeq (tgt := 63) cx ⟨by decide, by decide⟩ dX12_runScript_23 (by decide) (fun c1643 => ?_) (fun c1643 => ?_)
                  · refine q_ald_n cx dX12_runScript_63 rfl (lv_at hl 1 rfl) ?_
                    refine q_cVi (As := []) (rest := []) cx hB (fun _ h => h) hN hmo kmo (by decide) rfl (r_isGood1 l g hN hB.2.1 mo hmo kmo x1637 (by omega) (by omega) ex1637) q_cX12_130 q_dX12_isGood (by decide) rfl rfl hl.1 rfl (Nat.le_of_ble_eq_true rfl) dX12_runScript_64 (fun y1645 H locs f1644 ry1645 h1646 hF hB => ?_)
                    obtain ⟨rfl, qy1645⟩ := h1646
                    subst qy1645
                    refine q_ifeq (tgt := 82) cx ⟨by decide, by decide⟩ dX12_runScript_67 (by decide) (fun c1647 => ?_) (fun c1647 => ?_)
                    · refine q_ald_n cx dX12_runScript_82 rfl (lv_at hl 1 rfl) ?_
                      refine q_cVi (As := []) (rest := []) cx hB (fun _ h => h) hN hmo kmo (by decide) rfl (r_endsText1 l g hN hB.2.1 mo hmo kmo x1637 (by omega) (by omega) ex1637) q_cX12_253 q_dX12_endsText (by decide) rfl rfl hl.1 rfl (Nat.le_of_ble_eq_true rfl) dX12_runScript_83 (fun y1649 H locs f1648 ry1649 h1650 hF hB => ?_)
                      obtain ⟨qy1649, z1651⟩ := h1650
                      have z1652 : q_is (q_z f1648 sr 3) xt := Eq.trans (hF.z hsr (by rw [ksr]; rfl)) z1619
                      have z1653 : q_is (q_z f1648 sr 4) xm := Eq.trans (hF.z hsr (by rw [ksr]; rfl)) z1620
                      have z1654 : q_is (q_z f1648 mo 2) w19_mo_2 := Eq.trans (hF.z hmo (by rw [kmo]; rfl)) z1621
                      have z1655 : q_is (q_z f1648 mo 8) x1637 := Eq.trans (hF.z hmo (by rw [kmo]; rfl)) ex1637
                      have z1656 : q_is (q_z f1648 mo 4) x1638 := Eq.trans (hF.z hmo (by rw [kmo]; rfl)) ex1638
                      have z1657 : q_is (q_z f1648 mo 6) x1639 := Eq.trans (hF.z hmo (by rw [kmo]; rfl)) ex1639
                      have z1658 : q_ir (q_r f1648 mo 13) sr := Eq.trans (hF.r hmo (by rw [kmo]; rfl)) z1622
                      have z1659 : q_ir (q_r f1648 mo 18) nm := Eq.trans (hF.r hmo (by rw [kmo]; rfl)) z1623
                      have z1660 : q_ir (q_r f1648 mo 1) bu := Eq.trans (hF.r hmo (by rw [kmo]; rfl)) z1624
                      have z1661 : q_ir (q_r f1648 mo 29) cs := Eq.trans (hF.r hmo (by rw [kmo]; rfl)) z1625
                      have z1662 : q_ir (q_r f1648 mo 30) c1 := Eq.trans (hF.r hmo (by rw [kmo]; rfl)) z1626
                      have z1663 : q_ir (q_r f1648 mo 31) c2 := Eq.trans (hF.r hmo (by rw [kmo]; rfl)) z1627
                      have z1664 : q_ir (q_r f1648 mo 32) c3 := Eq.trans (hF.r hmo (by rw [kmo]; rfl)) z1628
                      have z1665 : q_ir (q_r f1648 mo 33) bg := Eq.trans (hF.r hmo (by rw [kmo]; rfl)) z1629
                      have z1666 : q_ir (q_r f1648 mo 34) lp := Eq.trans (hF.r hmo (by rw [kmo]; rfl)) z1630
                      have z1667 : q_ir (q_r f1648 mo 24) hp := Eq.trans (hF.r hmo (by rw [kmo]; rfl)) z1631
                      have z1668 : q_ir (q_r f1648 mo 25) dy := Eq.trans (hF.r hmo (by rw [kmo]; rfl)) z1632
                      have z1669 : q_ir (q_r f1648 mo 15) as := Eq.trans (hF.r hmo (by rw [kmo]; rfl)) z1633
                      have z1670 : q_ir (q_r f1648 mo 17) pa := Eq.trans (hF.r hmo (by rw [kmo]; rfl)) z1634
                      have g1671 : q_gr f1648 sr := q_gr_fr g1635 (fun i9 _ => hF.z hsr (by rw [ksr]; rfl))
                      have g1672 : q_pk f1648 mo pa := q_pk_tr g1636 (hF.z hmo (by rw [kmo]; rfl)) (fun i9 => hF.z hpa (by rw [kpa]; rfl))
                      subst qy1649
                      refine q_ifne (tgt := 91) cx ⟨by decide, by decide⟩ dX12_runScript_86 (by decide) (fun c1673 => ?_) (fun c1673 => ?_)
                      · exact absurd c1673 (by omega)
                      · refine q_iconst cx dX12_runScript_89 ?_
                        refine q_iret cx hr hlk hB dX12_runScript_90 ⟨by decide, by decide⟩ ?_
                        exact ⟨(by decide), (by decide), (q_isl z1652 (by omega)), (q_isu z1652 (by omega)), (q_isl z1653 (by omega)), (q_isu z1653 (by omega)), (Eq.trans z1654 (by omega)), g1671, g1672⟩
                    · exact absurd c1647 (by omega)
                  · exact absurd c1643 (by omega)
              · obtain ⟨lz1674, uz1674⟩ := h1563
                have z1675 : q_is (q_z f1559 sr 3) xt := Eq.trans (hF.z hsr (by rw [ksr]; rfl)) z1537
                have z1676 : q_is (q_z f1559 sr 4) xm := Eq.trans (hF.z hsr (by rw [ksr]; rfl)) z1538
                have z1677 : q_is (q_z f1559 mo 2) w19_mo_2 := Eq.trans (hF.z hmo (by rw [kmo]; rfl)) z1539
                have z1678 : q_is (q_z f1559 mo 37) x1523 := Eq.trans (hF.z hmo (by rw [kmo]; rfl)) z1533
                have z1679 : q_ir (q_r f1559 mo 13) sr := Eq.trans (hF.r hmo (by rw [kmo]; rfl)) z1540
                have z1680 : q_ir (q_r f1559 mo 18) nm := Eq.trans (hF.r hmo (by rw [kmo]; rfl)) z1541
                have z1681 : q_ir (q_r f1559 mo 1) bu := Eq.trans (hF.r hmo (by rw [kmo]; rfl)) z1542
                have z1682 : q_ir (q_r f1559 mo 29) cs := Eq.trans (hF.r hmo (by rw [kmo]; rfl)) z1543
                have z1683 : q_ir (q_r f1559 mo 30) c1 := Eq.trans (hF.r hmo (by rw [kmo]; rfl)) z1544
                have z1684 : q_ir (q_r f1559 mo 31) c2 := Eq.trans (hF.r hmo (by rw [kmo]; rfl)) z1545
                have z1685 : q_ir (q_r f1559 mo 32) c3 := Eq.trans (hF.r hmo (by rw [kmo]; rfl)) z1546
                have z1686 : q_ir (q_r f1559 mo 33) bg := Eq.trans (hF.r hmo (by rw [kmo]; rfl)) z1547
                have z1687 : q_ir (q_r f1559 mo 34) lp := Eq.trans (hF.r hmo (by rw [kmo]; rfl)) z1548
                have z1688 : q_ir (q_r f1559 mo 24) hp := Eq.trans (hF.r hmo (by rw [kmo]; rfl)) z1549
                have z1689 : q_ir (q_r f1559 mo 25) dy := Eq.trans (hF.r hmo (by rw [kmo]; rfl)) z1550
                have z1690 : q_ir (q_r f1559 mo 15) as := Eq.trans (hF.r hmo (by rw [kmo]; rfl)) z1551
                have z1691 : q_ir (q_r f1559 mo 17) pa := Eq.trans (hF.r hmo (by rw [kmo]; rfl)) z1552
                have g1692 : q_gr f1559 sr := q_gr_fr g1553 (fun i9 _ => hF.z hsr (by rw [ksr]; rfl))
                have g1693 : q_pk f1559 mo pa := q_pk_tr g1554 (hF.z hmo (by rw [kmo]; rfl)) (fun i9 => hF.z hpa (by rw [kpa]; rfl))
                have g1694 : q_sc f1559 mo cs c1 c2 := q_sc_tr t1536 (hF.z hmo (by rw [kmo]; rfl)) (hF.z hmo (by rw [kmo]; rfl)) (hF.z hmo (by rw [kmo]; rfl)) (fun i9 => hF.z hcs (by rw [kcs]; rfl)) (fun i9 => hF.z hc1 (by rw [kc1]; rfl)) (fun i9 => hF.z hc2 (by rw [kc2]; rfl))
                obtain ⟨x1695, ex1695⟩ : ∃ zz, q_is (q_z f1559 mo 8) zz := ⟨_, q_isr _⟩
                obtain ⟨lx1695, ux1695⟩ := q_isb ex1695 ⟨lz1674, uz1674⟩
                obtain ⟨x1696, ex1696⟩ : ∃ zz, q_is (q_z f1559 mo 4) zz := ⟨_, q_isr _⟩
                obtain ⟨lx1696, ux1696⟩ := q_isb ex1696 (q_fib hB.2.1 hmo kmo (by decide) rfl)
                obtain ⟨x1697, ex1697⟩ : ∃ zz, q_is (q_z f1559 mo 6) zz := ⟨_, q_isr _⟩
                obtain ⟨lx1697, ux1697⟩ := q_isb ex1697 (q_fib hB.2.1 hmo kmo (by decide) rfl)
                refine q_ald_n cx dX12_runScript_56 rfl (lv_at hl 1 rfl) ?_
                refine q_cVv (As := []) (rest := []) cx hB (fun _ h => h) hN hmo kmo (by decide) rfl (r_closes1 l g hN hB.2.1 mo hmo kmo x1695 (by omega) (by omega) ex1695) q_cX12_503 q_dX12_closes (by decide) rfl rfl hl.1 rfl (Nat.le_of_ble_eq_true rfl) dX12_runScript_57 (fun H locs f1698 h1700 hF hB => ?_)
                obtain rfl := h1700
                refine lv_goto (tgt := 19) cx.1 cx.2.1 dX12_runScript_60 (by decide) ?_
                refine q_ald_n cx dX12_runScript_19 rfl (lv_at hl 1 rfl) ?_
                refine q_cVi (As := []) (rest := []) cx hB (fun _ h => h) hN hmo kmo (by decide) rfl (r_isGood1 l g hN hB.2.1 mo hmo kmo x1695 (by omega) (by omega) ex1695) q_cX12_130 q_dX12_isGood (by decide) rfl rfl hl.1 rfl (Nat.le_of_ble_eq_true rfl) dX12_runScript_20 (fun y1702 H locs f1701 ry1702 h1703 hF hB => ?_)
                obtain ⟨rfl, qy1702⟩ := h1703
                subst qy1702
                refine q_ifeq (tgt := 63) cx ⟨by decide, by decide⟩ dX12_runScript_23 (by decide) (fun c1704 => ?_) (fun c1704 => ?_)
                · refine q_ald_n cx dX12_runScript_63 rfl (lv_at hl 1 rfl) ?_
                  refine q_cVi (As := []) (rest := []) cx hB (fun _ h => h) hN hmo kmo (by decide) rfl (r_isGood1 l g hN hB.2.1 mo hmo kmo x1695 (by omega) (by omega) ex1695) q_cX12_130 q_dX12_isGood (by decide) rfl rfl hl.1 rfl (Nat.le_of_ble_eq_true rfl) dX12_runScript_64 (fun y1706 H locs f1705 ry1706 h1707 hF hB => ?_)
                  obtain ⟨rfl, qy1706⟩ := h1707
                  subst qy1706
                  refine q_ifeq (tgt := 82) cx ⟨by decide, by decide⟩ dX12_runScript_67 (by decide) (fun c1708 => ?_) (fun c1708 => ?_)
                  · refine q_ald_n cx dX12_runScript_82 rfl (lv_at hl 1 rfl) ?_
                    refine q_cVi (As := []) (rest := []) cx hB (fun _ h => h) hN hmo kmo (by decide) rfl (r_endsText1 l g hN hB.2.1 mo hmo kmo x1695 (by omega) (by omega) ex1695) q_cX12_253 q_dX12_endsText (by decide) rfl rfl hl.1 rfl (Nat.le_of_ble_eq_true rfl) dX12_runScript_83 (fun y1710 H locs f1709 ry1710 h1711 hF hB => ?_)
                    obtain ⟨qy1710, z1712⟩ := h1711
                    have z1713 : q_is (q_z f1709 sr 3) xt := Eq.trans (hF.z hsr (by rw [ksr]; rfl)) z1675
                    have z1714 : q_is (q_z f1709 sr 4) xm := Eq.trans (hF.z hsr (by rw [ksr]; rfl)) z1676
                    have z1715 : q_is (q_z f1709 mo 2) w19_mo_2 := Eq.trans (hF.z hmo (by rw [kmo]; rfl)) z1677
                    have z1716 : q_is (q_z f1709 mo 37) x1523 := Eq.trans (hF.z hmo (by rw [kmo]; rfl)) z1678
                    have z1717 : q_is (q_z f1709 mo 8) x1695 := Eq.trans (hF.z hmo (by rw [kmo]; rfl)) ex1695
                    have z1718 : q_is (q_z f1709 mo 4) x1696 := Eq.trans (hF.z hmo (by rw [kmo]; rfl)) ex1696
                    have z1719 : q_is (q_z f1709 mo 6) x1697 := Eq.trans (hF.z hmo (by rw [kmo]; rfl)) ex1697
                    have z1720 : q_ir (q_r f1709 mo 13) sr := Eq.trans (hF.r hmo (by rw [kmo]; rfl)) z1679
                    have z1721 : q_ir (q_r f1709 mo 18) nm := Eq.trans (hF.r hmo (by rw [kmo]; rfl)) z1680
                    have z1722 : q_ir (q_r f1709 mo 1) bu := Eq.trans (hF.r hmo (by rw [kmo]; rfl)) z1681
                    have z1723 : q_ir (q_r f1709 mo 29) cs := Eq.trans (hF.r hmo (by rw [kmo]; rfl)) z1682
                    have z1724 : q_ir (q_r f1709 mo 30) c1 := Eq.trans (hF.r hmo (by rw [kmo]; rfl)) z1683
                    have z1725 : q_ir (q_r f1709 mo 31) c2 := Eq.trans (hF.r hmo (by rw [kmo]; rfl)) z1684
                    have z1726 : q_ir (q_r f1709 mo 32) c3 := Eq.trans (hF.r hmo (by rw [kmo]; rfl)) z1685
                    have z1727 : q_ir (q_r f1709 mo 33) bg := Eq.trans (hF.r hmo (by rw [kmo]; rfl)) z1686
                    have z1728 : q_ir (q_r f1709 mo 34) lp := Eq.trans (hF.r hmo (by rw [kmo]; rfl)) z1687
                    have z1729 : q_ir (q_r f1709 mo 24) hp := Eq.trans (hF.r hmo (by rw [kmo]; rfl)) z1688
                    have z1730 : q_ir (q_r f1709 mo 25) dy := Eq.trans (hF.r hmo (by rw [kmo]; rfl)) z1689
                    have z1731 : q_ir (q_r f1709 mo 15) as := Eq.trans (hF.r hmo (by rw [kmo]; rfl)) z1690
                    have z1732 : q_ir (q_r f1709 mo 17) pa := Eq.trans (hF.r hmo (by rw [kmo]; rfl)) z1691
                    have g1733 : q_gr f1709 sr := q_gr_fr g1692 (fun i9 _ => hF.z hsr (by rw [ksr]; rfl))
                    have g1734 : q_pk f1709 mo pa := q_pk_tr g1693 (hF.z hmo (by rw [kmo]; rfl)) (fun i9 => hF.z hpa (by rw [kpa]; rfl))
                    have g1735 : q_sc f1709 mo cs c1 c2 := q_sc_tr g1694 (hF.z hmo (by rw [kmo]; rfl)) (hF.z hmo (by rw [kmo]; rfl)) (hF.z hmo (by rw [kmo]; rfl)) (fun i9 => hF.z hcs (by rw [kcs]; rfl)) (fun i9 => hF.z hc1 (by rw [kc1]; rfl)) (fun i9 => hF.z hc2 (by rw [kc2]; rfl))
                    subst qy1710
                    refine q_ifne (tgt := 91) cx ⟨by decide, by decide⟩ dX12_runScript_86 (by decide) (fun c1736 => ?_) (fun c1736 => ?_)
                    · exact absurd c1736 (by omega)
                    · refine q_iconst cx dX12_runScript_89 ?_
                      refine q_iret cx hr hlk hB dX12_runScript_90 ⟨by decide, by decide⟩ ?_
                      exact ⟨(by decide), (by decide), (q_isl z1713 (by omega)), (q_isu z1713 (by omega)), (q_isl z1714 (by omega)), (q_isu z1714 (by omega)), (Eq.trans z1715 (by omega)), g1733, g1734⟩
                  · exact absurd c1708 (by omega)
                · exact absurd c1704 (by omega)
          · obtain ⟨z1737, z1738, t1739, t1740⟩ := h1530
            have z1741 : q_is (q_z f1526 sr 3) xt := Eq.trans (hF.z hsr (by rw [ksr]; rfl)) hj_sr_3
            have z1742 : q_is (q_z f1526 sr 4) xm := Eq.trans (hF.z hsr (by rw [ksr]; rfl)) hj_sr_4
            have z1743 : q_is (q_z f1526 mo 2) w19_mo_2 := Eq.trans (hF.z hmo (by rw [kmo]; rfl)) hj_mo_2
            have z1744 : q_ir (q_r f1526 mo 13) sr := Eq.trans (hF.r hmo (by rw [kmo]; rfl)) hq_mo_13
            have z1745 : q_ir (q_r f1526 mo 18) nm := Eq.trans (hF.r hmo (by rw [kmo]; rfl)) hq_mo_18
            have z1746 : q_ir (q_r f1526 mo 1) bu := Eq.trans (hF.r hmo (by rw [kmo]; rfl)) hq_mo_1
            have z1747 : q_ir (q_r f1526 mo 29) cs := Eq.trans (hF.r hmo (by rw [kmo]; rfl)) hq_mo_29
            have z1748 : q_ir (q_r f1526 mo 30) c1 := Eq.trans (hF.r hmo (by rw [kmo]; rfl)) hq_mo_30
            have z1749 : q_ir (q_r f1526 mo 31) c2 := Eq.trans (hF.r hmo (by rw [kmo]; rfl)) hq_mo_31
            have z1750 : q_ir (q_r f1526 mo 32) c3 := Eq.trans (hF.r hmo (by rw [kmo]; rfl)) hq_mo_32
            have z1751 : q_ir (q_r f1526 mo 33) bg := Eq.trans (hF.r hmo (by rw [kmo]; rfl)) hq_mo_33
            have z1752 : q_ir (q_r f1526 mo 34) lp := Eq.trans (hF.r hmo (by rw [kmo]; rfl)) hq_mo_34
            have z1753 : q_ir (q_r f1526 mo 24) hp := Eq.trans (hF.r hmo (by rw [kmo]; rfl)) hq_mo_24
            have z1754 : q_ir (q_r f1526 mo 25) dy := Eq.trans (hF.r hmo (by rw [kmo]; rfl)) hq_mo_25
            have z1755 : q_ir (q_r f1526 mo 15) as := Eq.trans (hF.r hmo (by rw [kmo]; rfl)) hq_mo_15
            have z1756 : q_ir (q_r f1526 mo 17) pa := Eq.trans (hF.r hmo (by rw [kmo]; rfl)) hq_mo_17
            have g1757 : q_gr f1526 sr := q_gr_fr hgr19 (fun i9 _ => hF.z hsr (by rw [ksr]; rfl))
            have g1758 : q_pk f1526 mo pa := q_pk_tr hpk19 (hF.z hmo (by rw [kmo]; rfl)) (fun i9 => hF.z hpa (by rw [kpa]; rfl))
            obtain ⟨x1759, ex1759⟩ : ∃ zz, q_is (q_z f1526 mo 4) zz := ⟨_, q_isr _⟩
            obtain ⟨lx1759, ux1759⟩ := q_isb ex1759 (q_fib hB.2.1 hmo kmo (by decide) rfl)
            obtain ⟨x1760, ex1760⟩ : ∃ zz, q_is (q_z f1526 mo 6) zz := ⟨_, q_isr _⟩
            obtain ⟨lx1760, ux1760⟩ := q_isb ex1760 (q_fib hB.2.1 hmo kmo (by decide) rfl)
            replace t1739 := q_islt9 ex1759 t1739
            refine q_ald_n cx dX12_runScript_42 rfl (lv_at hl 1 rfl) ?_
            refine q_gX12_488 cx hB hmo kmo z1738 dX12_runScript_43 (fun lb1761 ub1761 => ?_)
            refine q_ild_n cx dX12_runScript_46 rfl (lv_at hl 0 rfl) ?_
            refine q_icne (tgt := 56) cx ⟨by omega, by omega⟩ ⟨by omega, by omega⟩ dX12_runScript_47 (by decide) (fun c1762 => ?_) (fun c1762 => ?_)
            · refine q_ald_n cx dX12_runScript_56 rfl (lv_at hl 1 rfl) ?_
              refine q_cVv (As := []) (rest := []) cx hB (fun _ h => h) hN hmo kmo (by decide) rfl (r_closes0 l g hN hB.2.1 mo hmo kmo bu hbu kbu cs hcs kcs c1 hc1 kc1 c2 hc2 kc2 x1759 (by omega) (by omega) z1737 ex1759 z1746 z1747 z1748 z1749 t1740) q_cX12_503 q_dX12_closes (by decide) rfl rfl hl.1 rfl (Nat.le_of_ble_eq_true rfl) dX12_runScript_57 (fun H locs f1763 h1765 hF hB => ?_)
              rcases h1765 with h1766 | h1767
              · obtain ⟨z1768, t1769, t1770⟩ := h1766
                have z1771 : q_is (q_z f1763 sr 3) xt := Eq.trans (hF.z hsr (by rw [ksr]; rfl)) z1741
                have z1772 : q_is (q_z f1763 sr 4) xm := Eq.trans (hF.z hsr (by rw [ksr]; rfl)) z1742
                have z1773 : q_is (q_z f1763 mo 2) w19_mo_2 := Eq.trans (hF.z hmo (by rw [kmo]; rfl)) z1743
                have z1774 : q_ir (q_r f1763 mo 13) sr := Eq.trans (hF.r hmo (by rw [kmo]; rfl)) z1744
                have z1775 : q_ir (q_r f1763 mo 18) nm := Eq.trans (hF.r hmo (by rw [kmo]; rfl)) z1745
                have z1776 : q_ir (q_r f1763 mo 1) bu := Eq.trans (hF.r hmo (by rw [kmo]; rfl)) z1746
                have z1777 : q_ir (q_r f1763 mo 29) cs := Eq.trans (hF.r hmo (by rw [kmo]; rfl)) z1747
                have z1778 : q_ir (q_r f1763 mo 30) c1 := Eq.trans (hF.r hmo (by rw [kmo]; rfl)) z1748
                have z1779 : q_ir (q_r f1763 mo 31) c2 := Eq.trans (hF.r hmo (by rw [kmo]; rfl)) z1749
                have z1780 : q_ir (q_r f1763 mo 32) c3 := Eq.trans (hF.r hmo (by rw [kmo]; rfl)) z1750
                have z1781 : q_ir (q_r f1763 mo 33) bg := Eq.trans (hF.r hmo (by rw [kmo]; rfl)) z1751
                have z1782 : q_ir (q_r f1763 mo 34) lp := Eq.trans (hF.r hmo (by rw [kmo]; rfl)) z1752
                have z1783 : q_ir (q_r f1763 mo 24) hp := Eq.trans (hF.r hmo (by rw [kmo]; rfl)) z1753
                have z1784 : q_ir (q_r f1763 mo 25) dy := Eq.trans (hF.r hmo (by rw [kmo]; rfl)) z1754
                have z1785 : q_ir (q_r f1763 mo 15) as := Eq.trans (hF.r hmo (by rw [kmo]; rfl)) z1755
                have z1786 : q_ir (q_r f1763 mo 17) pa := Eq.trans (hF.r hmo (by rw [kmo]; rfl)) z1756
                have g1787 : q_gr f1763 sr := q_gr_fr g1757 (fun i9 _ => hF.z hsr (by rw [ksr]; rfl))
                have g1788 : q_pk f1763 mo pa := q_pk_tr g1758 (hF.z hmo (by rw [kmo]; rfl)) (fun i9 => hF.z hpa (by rw [kpa]; rfl))
                obtain ⟨x1789, ex1789⟩ : ∃ zz, q_is (q_z f1763 mo 4) zz := ⟨_, q_isr _⟩
                obtain ⟨lx1789, ux1789⟩ := q_isb ex1789 (q_fib hB.2.1 hmo kmo (by decide) rfl)
                obtain ⟨x1790, ex1790⟩ : ∃ zz, q_is (q_z f1763 mo 6) zz := ⟨_, q_isr _⟩
                obtain ⟨lx1790, ux1790⟩ := q_isb ex1790 (q_fib hB.2.1 hmo kmo (by decide) rfl)
                replace t1769 := q_isl9 ex1789 t1769
                refine lv_goto (tgt := 19) cx.1 cx.2.1 dX12_runScript_60 (by decide) ?_
                exact ih19 f1763 w19_mo_2 (by omega) (by omega) 0 (by decide) (by decide) z1771 z1772 z1773 z1768 z1774 z1775 z1776 z1777 z1778 z1779 z1780 z1781 z1782 z1783 z1784 z1785 z1786 g1787 g1788 t1770 (by omega) H locs hB ls (lv_sub hl [1] rfl)
              · obtain ⟨lz1791, uz1791⟩ := h1767
                have z1792 : q_is (q_z f1763 sr 3) xt := Eq.trans (hF.z hsr (by rw [ksr]; rfl)) z1741
                have z1793 : q_is (q_z f1763 sr 4) xm := Eq.trans (hF.z hsr (by rw [ksr]; rfl)) z1742
                have z1794 : q_is (q_z f1763 mo 2) w19_mo_2 := Eq.trans (hF.z hmo (by rw [kmo]; rfl)) z1743
                have z1795 : q_ir (q_r f1763 mo 13) sr := Eq.trans (hF.r hmo (by rw [kmo]; rfl)) z1744
                have z1796 : q_ir (q_r f1763 mo 18) nm := Eq.trans (hF.r hmo (by rw [kmo]; rfl)) z1745
                have z1797 : q_ir (q_r f1763 mo 1) bu := Eq.trans (hF.r hmo (by rw [kmo]; rfl)) z1746
                have z1798 : q_ir (q_r f1763 mo 29) cs := Eq.trans (hF.r hmo (by rw [kmo]; rfl)) z1747
                have z1799 : q_ir (q_r f1763 mo 30) c1 := Eq.trans (hF.r hmo (by rw [kmo]; rfl)) z1748
                have z1800 : q_ir (q_r f1763 mo 31) c2 := Eq.trans (hF.r hmo (by rw [kmo]; rfl)) z1749
                have z1801 : q_ir (q_r f1763 mo 32) c3 := Eq.trans (hF.r hmo (by rw [kmo]; rfl)) z1750
                have z1802 : q_ir (q_r f1763 mo 33) bg := Eq.trans (hF.r hmo (by rw [kmo]; rfl)) z1751
                have z1803 : q_ir (q_r f1763 mo 34) lp := Eq.trans (hF.r hmo (by rw [kmo]; rfl)) z1752
                have z1804 : q_ir (q_r f1763 mo 24) hp := Eq.trans (hF.r hmo (by rw [kmo]; rfl)) z1753
                have z1805 : q_ir (q_r f1763 mo 25) dy := Eq.trans (hF.r hmo (by rw [kmo]; rfl)) z1754
                have z1806 : q_ir (q_r f1763 mo 15) as := Eq.trans (hF.r hmo (by rw [kmo]; rfl)) z1755
                have z1807 : q_ir (q_r f1763 mo 17) pa := Eq.trans (hF.r hmo (by rw [kmo]; rfl)) z1756
                have g1808 : q_gr f1763 sr := q_gr_fr g1757 (fun i9 _ => hF.z hsr (by rw [ksr]; rfl))
                have g1809 : q_pk f1763 mo pa := q_pk_tr g1758 (hF.z hmo (by rw [kmo]; rfl)) (fun i9 => hF.z hpa (by rw [kpa]; rfl))
                obtain ⟨x1810, ex1810⟩ : ∃ zz, q_is (q_z f1763 mo 8) zz := ⟨_, q_isr _⟩
                obtain ⟨lx1810, ux1810⟩ := q_isb ex1810 ⟨lz1791, uz1791⟩
                obtain ⟨x1811, ex1811⟩ : ∃ zz, q_is (q_z f1763 mo 4) zz := ⟨_, q_isr _⟩
                obtain ⟨lx1811, ux1811⟩ := q_isb ex1811 (q_fib hB.2.1 hmo kmo (by decide) rfl)
                obtain ⟨x1812, ex1812⟩ : ∃ zz, q_is (q_z f1763 mo 6) zz := ⟨_, q_isr _⟩
                obtain ⟨lx1812, ux1812⟩ := q_isb ex1812 (q_fib hB.2.1 hmo kmo (by decide) rfl)
                refine lv_goto (tgt := 19) cx.1 cx.2.1 dX12_runScript_60 (by decide) ?_
                refine q_ald_n cx dX12_runScript_19 rfl (lv_at hl 1 rfl) ?_
                refine q_cVi (As := []) (rest := []) cx hB (fun _ h => h) hN hmo kmo (by decide) rfl (r_isGood1 l g hN hB.2.1 mo hmo kmo x1810 (by omega) (by omega) ex1810) q_cX12_130 q_dX12_isGood (by decide) rfl rfl hl.1 rfl (Nat.le_of_ble_eq_true rfl) dX12_runScript_20 (fun y1814 H locs f1813 ry1814 h1815 hF hB => ?_)
                obtain ⟨rfl, qy1814⟩ := h1815
                subst qy1814
                refine q_ifeq (tgt := 63) cx ⟨by decide, by decide⟩ dX12_runScript_23 (by decide) (fun c1816 => ?_) (fun c1816 => ?_)
                · refine q_ald_n cx dX12_runScript_63 rfl (lv_at hl 1 rfl) ?_
                  refine q_cVi (As := []) (rest := []) cx hB (fun _ h => h) hN hmo kmo (by decide) rfl (r_isGood1 l g hN hB.2.1 mo hmo kmo x1810 (by omega) (by omega) ex1810) q_cX12_130 q_dX12_isGood (by decide) rfl rfl hl.1 rfl (Nat.le_of_ble_eq_true rfl) dX12_runScript_64 (fun y1818 H locs f1817 ry1818 h1819 hF hB => ?_)
                  obtain ⟨rfl, qy1818⟩ := h1819
                  subst qy1818
                  refine q_ifeq (tgt := 82) cx ⟨by decide, by decide⟩ dX12_runScript_67 (by decide) (fun c1820 => ?_) (fun c1820 => ?_)
                  · refine q_ald_n cx dX12_runScript_82 rfl (lv_at hl 1 rfl) ?_
                    refine q_cVi (As := []) (rest := []) cx hB (fun _ h => h) hN hmo kmo (by decide) rfl (r_endsText1 l g hN hB.2.1 mo hmo kmo x1810 (by omega) (by omega) ex1810) q_cX12_253 q_dX12_endsText (by decide) rfl rfl hl.1 rfl (Nat.le_of_ble_eq_true rfl) dX12_runScript_83 (fun y1822 H locs f1821 ry1822 h1823 hF hB => ?_)
                    obtain ⟨qy1822, z1824⟩ := h1823
                    have z1825 : q_is (q_z f1821 sr 3) xt := Eq.trans (hF.z hsr (by rw [ksr]; rfl)) z1792
                    have z1826 : q_is (q_z f1821 sr 4) xm := Eq.trans (hF.z hsr (by rw [ksr]; rfl)) z1793
                    have z1827 : q_is (q_z f1821 mo 2) w19_mo_2 := Eq.trans (hF.z hmo (by rw [kmo]; rfl)) z1794
                    have z1828 : q_is (q_z f1821 mo 8) x1810 := Eq.trans (hF.z hmo (by rw [kmo]; rfl)) ex1810
                    have z1829 : q_is (q_z f1821 mo 4) x1811 := Eq.trans (hF.z hmo (by rw [kmo]; rfl)) ex1811
                    have z1830 : q_is (q_z f1821 mo 6) x1812 := Eq.trans (hF.z hmo (by rw [kmo]; rfl)) ex1812
                    have z1831 : q_ir (q_r f1821 mo 13) sr := Eq.trans (hF.r hmo (by rw [kmo]; rfl)) z1795
                    have z1832 : q_ir (q_r f1821 mo 18) nm := Eq.trans (hF.r hmo (by rw [kmo]; rfl)) z1796
                    have z1833 : q_ir (q_r f1821 mo 1) bu := Eq.trans (hF.r hmo (by rw [kmo]; rfl)) z1797
                    have z1834 : q_ir (q_r f1821 mo 29) cs := Eq.trans (hF.r hmo (by rw [kmo]; rfl)) z1798
                    have z1835 : q_ir (q_r f1821 mo 30) c1 := Eq.trans (hF.r hmo (by rw [kmo]; rfl)) z1799
                    have z1836 : q_ir (q_r f1821 mo 31) c2 := Eq.trans (hF.r hmo (by rw [kmo]; rfl)) z1800
                    have z1837 : q_ir (q_r f1821 mo 32) c3 := Eq.trans (hF.r hmo (by rw [kmo]; rfl)) z1801
                    have z1838 : q_ir (q_r f1821 mo 33) bg := Eq.trans (hF.r hmo (by rw [kmo]; rfl)) z1802
                    have z1839 : q_ir (q_r f1821 mo 34) lp := Eq.trans (hF.r hmo (by rw [kmo]; rfl)) z1803
                    have z1840 : q_ir (q_r f1821 mo 24) hp := Eq.trans (hF.r hmo (by rw [kmo]; rfl)) z1804
                    have z1841 : q_ir (q_r f1821 mo 25) dy := Eq.trans (hF.r hmo (by rw [kmo]; rfl)) z1805
                    have z1842 : q_ir (q_r f1821 mo 15) as := Eq.trans (hF.r hmo (by rw [kmo]; rfl)) z1806
                    have z1843 : q_ir (q_r f1821 mo 17) pa := Eq.trans (hF.r hmo (by rw [kmo]; rfl)) z1807
                    have g1844 : q_gr f1821 sr := q_gr_fr g1808 (fun i9 _ => hF.z hsr (by rw [ksr]; rfl))
                    have g1845 : q_pk f1821 mo pa := q_pk_tr g1809 (hF.z hmo (by rw [kmo]; rfl)) (fun i9 => hF.z hpa (by rw [kpa]; rfl))
                    subst qy1822
                    refine q_ifne (tgt := 91) cx ⟨by decide, by decide⟩ dX12_runScript_86 (by decide) (fun c1846 => ?_) (fun c1846 => ?_)
                    · exact absurd c1846 (by omega)
                    · refine q_iconst cx dX12_runScript_89 ?_
                      refine q_iret cx hr hlk hB dX12_runScript_90 ⟨by decide, by decide⟩ ?_
                      exact ⟨(by decide), (by decide), (q_isl z1825 (by omega)), (q_isu z1825 (by omega)), (q_isl z1826 (by omega)), (q_isu z1826 (by omega)), (Eq.trans z1827 (by omega)), g1844, g1845⟩
                  · exact absurd c1820 (by omega)
                · exact absurd c1816 (by omega)
            · exact absurd c1762 (by omega)
          · obtain ⟨lz1847, uz1847⟩ := h1531
            have z1848 : q_is (q_z f1526 sr 3) xt := Eq.trans (hF.z hsr (by rw [ksr]; rfl)) hj_sr_3
            have z1849 : q_is (q_z f1526 sr 4) xm := Eq.trans (hF.z hsr (by rw [ksr]; rfl)) hj_sr_4
            have z1850 : q_is (q_z f1526 mo 2) w19_mo_2 := Eq.trans (hF.z hmo (by rw [kmo]; rfl)) hj_mo_2
            have z1851 : q_ir (q_r f1526 mo 13) sr := Eq.trans (hF.r hmo (by rw [kmo]; rfl)) hq_mo_13
            have z1852 : q_ir (q_r f1526 mo 18) nm := Eq.trans (hF.r hmo (by rw [kmo]; rfl)) hq_mo_18
            have z1853 : q_ir (q_r f1526 mo 1) bu := Eq.trans (hF.r hmo (by rw [kmo]; rfl)) hq_mo_1
            have z1854 : q_ir (q_r f1526 mo 29) cs := Eq.trans (hF.r hmo (by rw [kmo]; rfl)) hq_mo_29
            have z1855 : q_ir (q_r f1526 mo 30) c1 := Eq.trans (hF.r hmo (by rw [kmo]; rfl)) hq_mo_30
            have z1856 : q_ir (q_r f1526 mo 31) c2 := Eq.trans (hF.r hmo (by rw [kmo]; rfl)) hq_mo_31
            have z1857 : q_ir (q_r f1526 mo 32) c3 := Eq.trans (hF.r hmo (by rw [kmo]; rfl)) hq_mo_32
            have z1858 : q_ir (q_r f1526 mo 33) bg := Eq.trans (hF.r hmo (by rw [kmo]; rfl)) hq_mo_33
            have z1859 : q_ir (q_r f1526 mo 34) lp := Eq.trans (hF.r hmo (by rw [kmo]; rfl)) hq_mo_34
            have z1860 : q_ir (q_r f1526 mo 24) hp := Eq.trans (hF.r hmo (by rw [kmo]; rfl)) hq_mo_24
            have z1861 : q_ir (q_r f1526 mo 25) dy := Eq.trans (hF.r hmo (by rw [kmo]; rfl)) hq_mo_25
            have z1862 : q_ir (q_r f1526 mo 15) as := Eq.trans (hF.r hmo (by rw [kmo]; rfl)) hq_mo_15
            have z1863 : q_ir (q_r f1526 mo 17) pa := Eq.trans (hF.r hmo (by rw [kmo]; rfl)) hq_mo_17
            have g1864 : q_gr f1526 sr := q_gr_fr hgr19 (fun i9 _ => hF.z hsr (by rw [ksr]; rfl))
            have g1865 : q_pk f1526 mo pa := q_pk_tr hpk19 (hF.z hmo (by rw [kmo]; rfl)) (fun i9 => hF.z hpa (by rw [kpa]; rfl))
            obtain ⟨x1866, ex1866⟩ : ∃ zz, q_is (q_z f1526 mo 8) zz := ⟨_, q_isr _⟩
            obtain ⟨lx1866, ux1866⟩ := q_isb ex1866 ⟨lz1847, uz1847⟩
            obtain ⟨x1867, ex1867⟩ : ∃ zz, q_is (q_z f1526 mo 4) zz := ⟨_, q_isr _⟩
            obtain ⟨lx1867, ux1867⟩ := q_isb ex1867 (q_fib hB.2.1 hmo kmo (by decide) rfl)
            obtain ⟨x1868, ex1868⟩ : ∃ zz, q_is (q_z f1526 mo 6) zz := ⟨_, q_isr _⟩
            obtain ⟨lx1868, ux1868⟩ := q_isb ex1868 (q_fib hB.2.1 hmo kmo (by decide) rfl)
            obtain ⟨x1869, ex1869⟩ : ∃ zz, q_is (q_z f1526 mo 37) zz := ⟨_, q_isr _⟩
            obtain ⟨lx1869, ux1869⟩ := q_isb ex1869 (q_fib hB.2.1 hmo kmo (by decide) rfl)
            refine q_ald_n cx dX12_runScript_42 rfl (lv_at hl 1 rfl) ?_
            refine q_gX12_488 cx hB hmo kmo ex1869 dX12_runScript_43 (fun lb1870 ub1870 => ?_)
            refine q_ild_n cx dX12_runScript_46 rfl (lv_at hl 0 rfl) ?_
            refine q_icne (tgt := 56) cx ⟨by omega, by omega⟩ ⟨by omega, by omega⟩ dX12_runScript_47 (by decide) (fun c1871 => ?_) (fun c1871 => ?_)
            · refine q_ald_n cx dX12_runScript_56 rfl (lv_at hl 1 rfl) ?_
              refine q_cVv (As := []) (rest := []) cx hB (fun _ h => h) hN hmo kmo (by decide) rfl (r_closes1 l g hN hB.2.1 mo hmo kmo x1866 (by omega) (by omega) ex1866) q_cX12_503 q_dX12_closes (by decide) rfl rfl hl.1 rfl (Nat.le_of_ble_eq_true rfl) dX12_runScript_57 (fun H locs f1872 h1874 hF hB => ?_)
              obtain rfl := h1874
              refine lv_goto (tgt := 19) cx.1 cx.2.1 dX12_runScript_60 (by decide) ?_
              refine q_ald_n cx dX12_runScript_19 rfl (lv_at hl 1 rfl) ?_
              refine q_cVi (As := []) (rest := []) cx hB (fun _ h => h) hN hmo kmo (by decide) rfl (r_isGood1 l g hN hB.2.1 mo hmo kmo x1866 (by omega) (by omega) ex1866) q_cX12_130 q_dX12_isGood (by decide) rfl rfl hl.1 rfl (Nat.le_of_ble_eq_true rfl) dX12_runScript_20 (fun y1876 H locs f1875 ry1876 h1877 hF hB => ?_)
              obtain ⟨rfl, qy1876⟩ := h1877
              subst qy1876
              refine q_ifeq (tgt := 63) cx ⟨by decide, by decide⟩ dX12_runScript_23 (by decide) (fun c1878 => ?_) (fun c1878 => ?_)
              · refine q_ald_n cx dX12_runScript_63 rfl (lv_at hl 1 rfl) ?_
                refine q_cVi (As := []) (rest := []) cx hB (fun _ h => h) hN hmo kmo (by decide) rfl (r_isGood1 l g hN hB.2.1 mo hmo kmo x1866 (by omega) (by omega) ex1866) q_cX12_130 q_dX12_isGood (by decide) rfl rfl hl.1 rfl (Nat.le_of_ble_eq_true rfl) dX12_runScript_64 (fun y1880 H locs f1879 ry1880 h1881 hF hB => ?_)
                obtain ⟨rfl, qy1880⟩ := h1881
                subst qy1880
                refine q_ifeq (tgt := 82) cx ⟨by decide, by decide⟩ dX12_runScript_67 (by decide) (fun c1882 => ?_) (fun c1882 => ?_)
                · refine q_ald_n cx dX12_runScript_82 rfl (lv_at hl 1 rfl) ?_
                  refine q_cVi (As := []) (rest := []) cx hB (fun _ h => h) hN hmo kmo (by decide) rfl (r_endsText1 l g hN hB.2.1 mo hmo kmo x1866 (by omega) (by omega) ex1866) q_cX12_253 q_dX12_endsText (by decide) rfl rfl hl.1 rfl (Nat.le_of_ble_eq_true rfl) dX12_runScript_83 (fun y1884 H locs f1883 ry1884 h1885 hF hB => ?_)
                  obtain ⟨qy1884, z1886⟩ := h1885
                  have z1887 : q_is (q_z f1883 sr 3) xt := Eq.trans (hF.z hsr (by rw [ksr]; rfl)) z1848
                  have z1888 : q_is (q_z f1883 sr 4) xm := Eq.trans (hF.z hsr (by rw [ksr]; rfl)) z1849
                  have z1889 : q_is (q_z f1883 mo 2) w19_mo_2 := Eq.trans (hF.z hmo (by rw [kmo]; rfl)) z1850
                  have z1890 : q_is (q_z f1883 mo 8) x1866 := Eq.trans (hF.z hmo (by rw [kmo]; rfl)) ex1866
                  have z1891 : q_is (q_z f1883 mo 4) x1867 := Eq.trans (hF.z hmo (by rw [kmo]; rfl)) ex1867
                  have z1892 : q_is (q_z f1883 mo 6) x1868 := Eq.trans (hF.z hmo (by rw [kmo]; rfl)) ex1868
                  have z1893 : q_is (q_z f1883 mo 37) x1869 := Eq.trans (hF.z hmo (by rw [kmo]; rfl)) ex1869
                  have z1894 : q_ir (q_r f1883 mo 13) sr := Eq.trans (hF.r hmo (by rw [kmo]; rfl)) z1851
                  have z1895 : q_ir (q_r f1883 mo 18) nm := Eq.trans (hF.r hmo (by rw [kmo]; rfl)) z1852
                  have z1896 : q_ir (q_r f1883 mo 1) bu := Eq.trans (hF.r hmo (by rw [kmo]; rfl)) z1853
                  have z1897 : q_ir (q_r f1883 mo 29) cs := Eq.trans (hF.r hmo (by rw [kmo]; rfl)) z1854
                  have z1898 : q_ir (q_r f1883 mo 30) c1 := Eq.trans (hF.r hmo (by rw [kmo]; rfl)) z1855
                  have z1899 : q_ir (q_r f1883 mo 31) c2 := Eq.trans (hF.r hmo (by rw [kmo]; rfl)) z1856
                  have z1900 : q_ir (q_r f1883 mo 32) c3 := Eq.trans (hF.r hmo (by rw [kmo]; rfl)) z1857
                  have z1901 : q_ir (q_r f1883 mo 33) bg := Eq.trans (hF.r hmo (by rw [kmo]; rfl)) z1858
                  have z1902 : q_ir (q_r f1883 mo 34) lp := Eq.trans (hF.r hmo (by rw [kmo]; rfl)) z1859
                  have z1903 : q_ir (q_r f1883 mo 24) hp := Eq.trans (hF.r hmo (by rw [kmo]; rfl)) z1860
                  have z1904 : q_ir (q_r f1883 mo 25) dy := Eq.trans (hF.r hmo (by rw [kmo]; rfl)) z1861
                  have z1905 : q_ir (q_r f1883 mo 15) as := Eq.trans (hF.r hmo (by rw [kmo]; rfl)) z1862
                  have z1906 : q_ir (q_r f1883 mo 17) pa := Eq.trans (hF.r hmo (by rw [kmo]; rfl)) z1863
                  have g1907 : q_gr f1883 sr := q_gr_fr g1864 (fun i9 _ => hF.z hsr (by rw [ksr]; rfl))
                  have g1908 : q_pk f1883 mo pa := q_pk_tr g1865 (hF.z hmo (by rw [kmo]; rfl)) (fun i9 => hF.z hpa (by rw [kpa]; rfl))
                  subst qy1884
                  refine q_ifne (tgt := 91) cx ⟨by decide, by decide⟩ dX12_runScript_86 (by decide) (fun c1909 => ?_) (fun c1909 => ?_)
                  · exact absurd c1909 (by omega)
                  · refine q_iconst cx dX12_runScript_89 ?_
                    refine q_iret cx hr hlk hB dX12_runScript_90 ⟨by decide, by decide⟩ ?_
                    exact ⟨(by decide), (by decide), (q_isl z1887 (by omega)), (q_isu z1887 (by omega)), (q_isl z1888 (by omega)), (q_isu z1888 (by omega)), (Eq.trans z1889 (by omega)), g1907, g1908⟩
                · exact absurd c1882 (by omega)
              · exact absurd c1878 (by omega)
            · refine q_ald_n cx dX12_runScript_50 rfl (lv_at hl 1 rfl) ?_
              refine q_bipush cx dX12_runScript_51 rfl ?_
              refine q_cVv (As := [.int (q_i 59)]) (rest := []) cx hB (fun _ h => h) hN hmo kmo (by decide) rfl (r_mustSign1 l g hN hB.2.1 mo hmo kmo 59 (by decide) (by decide) x1866 (by omega) (by omega) ex1866) q_cX12_241 q_dX12_mustSign (by decide) rfl rfl hl.1 rfl (Nat.le_of_ble_eq_true rfl) dX12_runScript_53 (fun H locs f1910 h1912 hF hB => ?_)
              obtain rfl := h1912
              refine q_ald_n cx dX12_runScript_56 rfl (lv_at hl 1 rfl) ?_
              refine q_cVv (As := []) (rest := []) cx hB (fun _ h => h) hN hmo kmo (by decide) rfl (r_closes1 l g hN hB.2.1 mo hmo kmo x1866 (by omega) (by omega) ex1866) q_cX12_503 q_dX12_closes (by decide) rfl rfl hl.1 rfl (Nat.le_of_ble_eq_true rfl) dX12_runScript_57 (fun H locs f1913 h1915 hF hB => ?_)
              obtain rfl := h1915
              refine lv_goto (tgt := 19) cx.1 cx.2.1 dX12_runScript_60 (by decide) ?_
              refine q_ald_n cx dX12_runScript_19 rfl (lv_at hl 1 rfl) ?_
              refine q_cVi (As := []) (rest := []) cx hB (fun _ h => h) hN hmo kmo (by decide) rfl (r_isGood1 l g hN hB.2.1 mo hmo kmo x1866 (by omega) (by omega) ex1866) q_cX12_130 q_dX12_isGood (by decide) rfl rfl hl.1 rfl (Nat.le_of_ble_eq_true rfl) dX12_runScript_20 (fun y1917 H locs f1916 ry1917 h1918 hF hB => ?_)
              obtain ⟨rfl, qy1917⟩ := h1918
              subst qy1917
              refine q_ifeq (tgt := 63) cx ⟨by decide, by decide⟩ dX12_runScript_23 (by decide) (fun c1919 => ?_) (fun c1919 => ?_)
              · refine q_ald_n cx dX12_runScript_63 rfl (lv_at hl 1 rfl) ?_
                refine q_cVi (As := []) (rest := []) cx hB (fun _ h => h) hN hmo kmo (by decide) rfl (r_isGood1 l g hN hB.2.1 mo hmo kmo x1866 (by omega) (by omega) ex1866) q_cX12_130 q_dX12_isGood (by decide) rfl rfl hl.1 rfl (Nat.le_of_ble_eq_true rfl) dX12_runScript_64 (fun y1921 H locs f1920 ry1921 h1922 hF hB => ?_)
                obtain ⟨rfl, qy1921⟩ := h1922
                subst qy1921
                refine q_ifeq (tgt := 82) cx ⟨by decide, by decide⟩ dX12_runScript_67 (by decide) (fun c1923 => ?_) (fun c1923 => ?_)
                · refine q_ald_n cx dX12_runScript_82 rfl (lv_at hl 1 rfl) ?_
                  refine q_cVi (As := []) (rest := []) cx hB (fun _ h => h) hN hmo kmo (by decide) rfl (r_endsText1 l g hN hB.2.1 mo hmo kmo x1866 (by omega) (by omega) ex1866) q_cX12_253 q_dX12_endsText (by decide) rfl rfl hl.1 rfl (Nat.le_of_ble_eq_true rfl) dX12_runScript_83 (fun y1925 H locs f1924 ry1925 h1926 hF hB => ?_)
                  obtain ⟨qy1925, z1927⟩ := h1926
                  have z1928 : q_is (q_z f1924 sr 3) xt := Eq.trans (hF.z hsr (by rw [ksr]; rfl)) z1848
                  have z1929 : q_is (q_z f1924 sr 4) xm := Eq.trans (hF.z hsr (by rw [ksr]; rfl)) z1849
                  have z1930 : q_is (q_z f1924 mo 2) w19_mo_2 := Eq.trans (hF.z hmo (by rw [kmo]; rfl)) z1850
                  have z1931 : q_is (q_z f1924 mo 8) x1866 := Eq.trans (hF.z hmo (by rw [kmo]; rfl)) ex1866
                  have z1932 : q_is (q_z f1924 mo 4) x1867 := Eq.trans (hF.z hmo (by rw [kmo]; rfl)) ex1867
                  have z1933 : q_is (q_z f1924 mo 6) x1868 := Eq.trans (hF.z hmo (by rw [kmo]; rfl)) ex1868
                  have z1934 : q_is (q_z f1924 mo 37) x1869 := Eq.trans (hF.z hmo (by rw [kmo]; rfl)) ex1869
                  have z1935 : q_ir (q_r f1924 mo 13) sr := Eq.trans (hF.r hmo (by rw [kmo]; rfl)) z1851
                  have z1936 : q_ir (q_r f1924 mo 18) nm := Eq.trans (hF.r hmo (by rw [kmo]; rfl)) z1852
                  have z1937 : q_ir (q_r f1924 mo 1) bu := Eq.trans (hF.r hmo (by rw [kmo]; rfl)) z1853
                  have z1938 : q_ir (q_r f1924 mo 29) cs := Eq.trans (hF.r hmo (by rw [kmo]; rfl)) z1854
                  have z1939 : q_ir (q_r f1924 mo 30) c1 := Eq.trans (hF.r hmo (by rw [kmo]; rfl)) z1855
                  have z1940 : q_ir (q_r f1924 mo 31) c2 := Eq.trans (hF.r hmo (by rw [kmo]; rfl)) z1856
                  have z1941 : q_ir (q_r f1924 mo 32) c3 := Eq.trans (hF.r hmo (by rw [kmo]; rfl)) z1857
                  have z1942 : q_ir (q_r f1924 mo 33) bg := Eq.trans (hF.r hmo (by rw [kmo]; rfl)) z1858
                  have z1943 : q_ir (q_r f1924 mo 34) lp := Eq.trans (hF.r hmo (by rw [kmo]; rfl)) z1859
                  have z1944 : q_ir (q_r f1924 mo 24) hp := Eq.trans (hF.r hmo (by rw [kmo]; rfl)) z1860
                  have z1945 : q_ir (q_r f1924 mo 25) dy := Eq.trans (hF.r hmo (by rw [kmo]; rfl)) z1861
                  have z1946 : q_ir (q_r f1924 mo 15) as := Eq.trans (hF.r hmo (by rw [kmo]; rfl)) z1862
                  have z1947 : q_ir (q_r f1924 mo 17) pa := Eq.trans (hF.r hmo (by rw [kmo]; rfl)) z1863
                  have g1948 : q_gr f1924 sr := q_gr_fr g1864 (fun i9 _ => hF.z hsr (by rw [ksr]; rfl))
                  have g1949 : q_pk f1924 mo pa := q_pk_tr g1865 (hF.z hmo (by rw [kmo]; rfl)) (fun i9 => hF.z hpa (by rw [kpa]; rfl))
                  subst qy1925
                  refine q_ifne (tgt := 91) cx ⟨by decide, by decide⟩ dX12_runScript_86 (by decide) (fun c1950 => ?_) (fun c1950 => ?_)
                  · exact absurd c1950 (by omega)
                  · refine q_iconst cx dX12_runScript_89 ?_
                    refine q_iret cx hr hlk hB dX12_runScript_90 ⟨by decide, by decide⟩ ?_
                    exact ⟨(by decide), (by decide), (q_isl z1928 (by omega)), (q_isu z1928 (by omega)), (q_isl z1929 (by omega)), (q_isu z1929 (by omega)), (Eq.trans z1930 (by omega)), g1948, g1949⟩
                · exact absurd c1923 (by omega)
              · exact absurd c1919 (by omega)
  obtain ⟨H, hH⟩ : ∃ H : Heap, H = s.heap := ⟨_, rfl⟩
  obtain ⟨locs, hlocs⟩ : ∃ z : List Loc, z = [] := ⟨_, rfl⟩
  rw [← hH, ← hlocs] at hB
  rw [← hH, ← hlocs]
  refine q_ald_n cx dX12_runScript_0 rfl (lv_at hl 0 rfl) ?_
  refine q_cVv (As := []) (rest := []) cx hB (fun _ h => h) hN hmo kmo (by decide) rfl (r_beginsText l g hN hB.2.1 mo hmo kmo bu hbu kbu hr2) q_cX12_244 q_dX12_beginsText (by decide) rfl rfl hl.1 rfl (Nat.le_of_ble_eq_true rfl) dX12_runScript_1 (fun H locs f1951 h1953 hF hB => ?_)
  obtain ⟨z1954, z1955⟩ := h1953
  have z1956 : q_is (q_z f1951 sr 3) xt := Eq.trans (hF.z hsr (by rw [ksr]; rfl)) hf0
  have z1957 : q_is (q_z f1951 sr 4) xm := Eq.trans (hF.z hsr (by rw [ksr]; rfl)) hf1
  have z1958 : q_ir (q_r f1951 mo 13) sr := Eq.trans (hF.r hmo (by rw [kmo]; rfl)) hr0
  have z1959 : q_ir (q_r f1951 mo 18) nm := Eq.trans (hF.r hmo (by rw [kmo]; rfl)) hr1
  have z1960 : q_ir (q_r f1951 mo 1) bu := Eq.trans (hF.r hmo (by rw [kmo]; rfl)) hr2
  have z1961 : q_ir (q_r f1951 mo 29) cs := Eq.trans (hF.r hmo (by rw [kmo]; rfl)) hr3
  have z1962 : q_ir (q_r f1951 mo 30) c1 := Eq.trans (hF.r hmo (by rw [kmo]; rfl)) hr4
  have z1963 : q_ir (q_r f1951 mo 31) c2 := Eq.trans (hF.r hmo (by rw [kmo]; rfl)) hr5
  have z1964 : q_ir (q_r f1951 mo 32) c3 := Eq.trans (hF.r hmo (by rw [kmo]; rfl)) hr6
  have z1965 : q_ir (q_r f1951 mo 33) bg := Eq.trans (hF.r hmo (by rw [kmo]; rfl)) hr7
  have z1966 : q_ir (q_r f1951 mo 34) lp := Eq.trans (hF.r hmo (by rw [kmo]; rfl)) hr8
  have z1967 : q_ir (q_r f1951 mo 24) hp := Eq.trans (hF.r hmo (by rw [kmo]; rfl)) hr9
  have z1968 : q_ir (q_r f1951 mo 25) dy := Eq.trans (hF.r hmo (by rw [kmo]; rfl)) hr10
  have z1969 : q_ir (q_r f1951 mo 15) as := Eq.trans (hF.r hmo (by rw [kmo]; rfl)) hr11
  have z1970 : q_ir (q_r f1951 mo 17) pa := Eq.trans (hF.r hmo (by rw [kmo]; rfl)) hr12
  have g1971 : q_gr f1951 sr := q_gr_fr hgr (fun i9 _ => hF.z hsr (by rw [ksr]; rfl))
  have g1972 : q_pk f1951 mo pa := q_pk_tr hpk (hF.z hmo (by rw [kmo]; rfl)) (fun i9 => hF.z hpa (by rw [kpa]; rfl))
  refine q_ald_n cx dX12_runScript_4 rfl (lv_at hl 0 rfl) ?_
  refine q_iconst cx dX12_runScript_5 ?_
  refine q_pX12_494 cx hB hmo kmo ⟨by decide, by decide⟩ (by decide) (by decide) rfl dX12_runScript_6 (fun H locs f1973 ef1973 z1974 hB => ?_)
  have z1975 : q_is (q_z f1973 sr 3) xt := by rw [ef1973, q_setz (Or.inr (by decide))]; exact z1956
  have z1976 : q_is (q_z f1973 sr 4) xm := by rw [ef1973, q_setz (Or.inr (by decide))]; exact z1957
  have z1977 : q_is (q_z f1973 mo 8) 0 := by rw [ef1973, q_setz (Or.inr (by decide))]; exact z1954
  have z1978 : q_is (q_z f1973 mo 2) 0 := by rw [ef1973, q_setz (Or.inr (by decide))]; exact z1955
  have z1979 : q_ir (q_r f1973 mo 13) sr := by rw [ef1973, q_setr (Or.inr (by decide))]; exact z1958
  have z1980 : q_ir (q_r f1973 mo 18) nm := by rw [ef1973, q_setr (Or.inr (by decide))]; exact z1959
  have z1981 : q_ir (q_r f1973 mo 1) bu := by rw [ef1973, q_setr (Or.inr (by decide))]; exact z1960
  have z1982 : q_ir (q_r f1973 mo 29) cs := by rw [ef1973, q_setr (Or.inr (by decide))]; exact z1961
  have z1983 : q_ir (q_r f1973 mo 30) c1 := by rw [ef1973, q_setr (Or.inr (by decide))]; exact z1962
  have z1984 : q_ir (q_r f1973 mo 31) c2 := by rw [ef1973, q_setr (Or.inr (by decide))]; exact z1963
  have z1985 : q_ir (q_r f1973 mo 32) c3 := by rw [ef1973, q_setr (Or.inr (by decide))]; exact z1964
  have z1986 : q_ir (q_r f1973 mo 33) bg := by rw [ef1973, q_setr (Or.inr (by decide))]; exact z1965
  have z1987 : q_ir (q_r f1973 mo 34) lp := by rw [ef1973, q_setr (Or.inr (by decide))]; exact z1966
  have z1988 : q_ir (q_r f1973 mo 24) hp := by rw [ef1973, q_setr (Or.inr (by decide))]; exact z1967
  have z1989 : q_ir (q_r f1973 mo 25) dy := by rw [ef1973, q_setr (Or.inr (by decide))]; exact z1968
  have z1990 : q_ir (q_r f1973 mo 15) as := by rw [ef1973, q_setr (Or.inr (by decide))]; exact z1969
  have z1991 : q_ir (q_r f1973 mo 17) pa := by rw [ef1973, q_setr (Or.inr (by decide))]; exact z1970
  have g1992 : q_gr f1973 sr := q_gr_ne g1971 ef1973 (fun q => q_kne (k := 151) (k2 := 12) (by decide) ksr kmo q)
  have g1993 : q_pk f1973 mo pa := q_pk_tr g1972 (by rw [ef1973, q_setz (Or.inr (by decide))]) (fun i9 => by rw [ef1973, q_setz (Or.inl (fun q => by rw [q, kmo] at kpa; exact absurd kpa (by decide)))])
  refine q_ald_n cx dX12_runScript_9 rfl (lv_at hl 0 rfl) ?_
  refine q_iconst cx dX12_runScript_10 ?_
  refine q_pX12_491 cx hB hmo kmo ⟨by decide, by decide⟩ (by decide) (by decide) rfl dX12_runScript_11 (fun H locs f1994 ef1994 z1995 hB => ?_)
  have z1996 : q_is (q_z f1994 sr 3) xt := by rw [ef1994, q_setz (Or.inr (by decide))]; exact z1975
  have z1997 : q_is (q_z f1994 sr 4) xm := by rw [ef1994, q_setz (Or.inr (by decide))]; exact z1976
  have z1998 : q_is (q_z f1994 mo 8) 0 := by rw [ef1994, q_setz (Or.inr (by decide))]; exact z1977
  have z1999 : q_is (q_z f1994 mo 2) 0 := by rw [ef1994, q_setz (Or.inr (by decide))]; exact z1978
  have z2000 : q_is (q_z f1994 mo 35) 0 := by rw [ef1994, q_setz (Or.inr (by decide))]; exact z1974
  have z2001 : q_ir (q_r f1994 mo 13) sr := by rw [ef1994, q_setr (Or.inr (by decide))]; exact z1979
  have z2002 : q_ir (q_r f1994 mo 18) nm := by rw [ef1994, q_setr (Or.inr (by decide))]; exact z1980
  have z2003 : q_ir (q_r f1994 mo 1) bu := by rw [ef1994, q_setr (Or.inr (by decide))]; exact z1981
  have z2004 : q_ir (q_r f1994 mo 29) cs := by rw [ef1994, q_setr (Or.inr (by decide))]; exact z1982
  have z2005 : q_ir (q_r f1994 mo 30) c1 := by rw [ef1994, q_setr (Or.inr (by decide))]; exact z1983
  have z2006 : q_ir (q_r f1994 mo 31) c2 := by rw [ef1994, q_setr (Or.inr (by decide))]; exact z1984
  have z2007 : q_ir (q_r f1994 mo 32) c3 := by rw [ef1994, q_setr (Or.inr (by decide))]; exact z1985
  have z2008 : q_ir (q_r f1994 mo 33) bg := by rw [ef1994, q_setr (Or.inr (by decide))]; exact z1986
  have z2009 : q_ir (q_r f1994 mo 34) lp := by rw [ef1994, q_setr (Or.inr (by decide))]; exact z1987
  have z2010 : q_ir (q_r f1994 mo 24) hp := by rw [ef1994, q_setr (Or.inr (by decide))]; exact z1988
  have z2011 : q_ir (q_r f1994 mo 25) dy := by rw [ef1994, q_setr (Or.inr (by decide))]; exact z1989
  have z2012 : q_ir (q_r f1994 mo 15) as := by rw [ef1994, q_setr (Or.inr (by decide))]; exact z1990
  have z2013 : q_ir (q_r f1994 mo 17) pa := by rw [ef1994, q_setr (Or.inr (by decide))]; exact z1991
  have g2014 : q_gr f1994 sr := q_gr_ne g1992 ef1994 (fun q => q_kne (k := 151) (k2 := 12) (by decide) ksr kmo q)
  have g2015 : q_pk f1994 mo pa := q_pk_tr g1993 (by rw [ef1994, q_setz (Or.inr (by decide))]) (fun i9 => by rw [ef1994, q_setz (Or.inl (fun q => by rw [q, kmo] at kpa; exact absurd kpa (by decide)))])
  refine q_ald_n cx dX12_runScript_14 rfl (lv_at hl 0 rfl) ?_
  refine q_iconst cx dX12_runScript_15 ?_
  refine q_pX12_488 cx hB hmo kmo ⟨by decide, by decide⟩ (by decide) (by decide) rfl dX12_runScript_16 (fun H locs f2016 ef2016 z2017 hB => ?_)
  have z2018 : q_is (q_z f2016 sr 3) xt := by rw [ef2016, q_setz (Or.inr (by decide))]; exact z1996
  have z2019 : q_is (q_z f2016 sr 4) xm := by rw [ef2016, q_setz (Or.inr (by decide))]; exact z1997
  have z2020 : q_is (q_z f2016 mo 8) 0 := by rw [ef2016, q_setz (Or.inr (by decide))]; exact z1998
  have z2021 : q_is (q_z f2016 mo 2) 0 := by rw [ef2016, q_setz (Or.inr (by decide))]; exact z1999
  have z2022 : q_is (q_z f2016 mo 35) 0 := by rw [ef2016, q_setz (Or.inr (by decide))]; exact z2000
  have z2023 : q_is (q_z f2016 mo 36) 0 := by rw [ef2016, q_setz (Or.inr (by decide))]; exact z1995
  have z2024 : q_ir (q_r f2016 mo 13) sr := by rw [ef2016, q_setr (Or.inr (by decide))]; exact z2001
  have z2025 : q_ir (q_r f2016 mo 18) nm := by rw [ef2016, q_setr (Or.inr (by decide))]; exact z2002
  have z2026 : q_ir (q_r f2016 mo 1) bu := by rw [ef2016, q_setr (Or.inr (by decide))]; exact z2003
  have z2027 : q_ir (q_r f2016 mo 29) cs := by rw [ef2016, q_setr (Or.inr (by decide))]; exact z2004
  have z2028 : q_ir (q_r f2016 mo 30) c1 := by rw [ef2016, q_setr (Or.inr (by decide))]; exact z2005
  have z2029 : q_ir (q_r f2016 mo 31) c2 := by rw [ef2016, q_setr (Or.inr (by decide))]; exact z2006
  have z2030 : q_ir (q_r f2016 mo 32) c3 := by rw [ef2016, q_setr (Or.inr (by decide))]; exact z2007
  have z2031 : q_ir (q_r f2016 mo 33) bg := by rw [ef2016, q_setr (Or.inr (by decide))]; exact z2008
  have z2032 : q_ir (q_r f2016 mo 34) lp := by rw [ef2016, q_setr (Or.inr (by decide))]; exact z2009
  have z2033 : q_ir (q_r f2016 mo 24) hp := by rw [ef2016, q_setr (Or.inr (by decide))]; exact z2010
  have z2034 : q_ir (q_r f2016 mo 25) dy := by rw [ef2016, q_setr (Or.inr (by decide))]; exact z2011
  have z2035 : q_ir (q_r f2016 mo 15) as := by rw [ef2016, q_setr (Or.inr (by decide))]; exact z2012
  have z2036 : q_ir (q_r f2016 mo 17) pa := by rw [ef2016, q_setr (Or.inr (by decide))]; exact z2013
  have g2037 : q_gr f2016 sr := q_gr_ne g2014 ef2016 (fun q => q_kne (k := 151) (k2 := 12) (by decide) ksr kmo q)
  have g2038 : q_pk f2016 mo pa := q_pk_tr g2015 (by rw [ef2016, q_setz (Or.inr (by decide))]) (fun i9 => by rw [ef2016, q_setz (Or.inl (fun q => by rw [q, kmo] at kpa; exact absurd kpa (by decide)))])
  have hsc0 : q_sc f2016 mo cs c1 c2 := k_sc0 z2022 z2023 z2017
  exact J19 ((Int.toNat (601 - w19_mo_4)) + 1) f2016 0 (by decide) (by decide) 0 (by decide) (by decide) z2018 z2019 z2021 z2020 z2024 z2025 z2026 z2027 z2028 z2029 z2030 z2031 z2032 z2033 z2034 z2035 z2036 g2037 g2038 hsc0 (Nat.lt_succ_self _) H locs hB ls (lv_sub hl [0] rfl)
