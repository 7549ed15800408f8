set_option maxHeartbeats 4000000 in
set_option maxRecDepth 100000 in
theorem f_readNode (l : Launch) (g : q_G) (ad : Nat → Nat) {K : Nat → Nat} {L : List Nat} (hN : L.Nodup) {f : Nat → va_E} (hT : q_Ty g K L f) (hfl : l.stackTraces = false) (B : Nat → Int) (tA : tk_A) (rd : Nat) (hrd : rd ∈ L) (krd : K rd = 9) (so : Nat) (hso : so ∈ L) (kso : K so = 8) (dr : Nat) (hdr : dr ∈ L) (kdr : K dr = 13) (ba : Nat) (hba : ba ∈ L) (kba : K ba = 142) (nds : Nat) (hnds : nds ∈ L) (knds : K nds = 111) (tn : Int) (ltn : 0 ≤ tn) (utn : tn ≤ 600) (ss : Int) (lss : 0 ≤ ss) (uss : ss ≤ 600) (hf0 : q_is (q_z f so 1) tn) (hf1 : q_is (q_z f so 8) ss) (hf2 : q_is (q_z f so 2) 0) (hf3 : q_is (q_z f so 3) (-1)) (hr0 : q_ir (q_r f so 0) ba) (hr1 : q_ir (q_r f dr 0) nds) (htc : tk_tc f so B tn) (htb : tk_tb f ba B tn) (hta : tk_ta K L f rd dr nds tA (tk_has (tk_lk tA))) : q_Xt l g ad K L yX9_readNode cX9_readNode 7 (some .boolean) 6 128 0 0 [.ref rd, .ref so, .ref dr] f [(8, 2, 9), (13, 3, 3), (17, 0, 8)] (q_Pi (fun (z : Int) (f1 : Nat → va_E) => (z = 1 ∧ q_is (q_z f1 so 2) 0 ∧ q_is (q_z f1 so 3) (-1) ∧ (∃ A1 : tk_A, tk_node B tn ss tA = tk_ok (q_z f1 so 8, A1) ∧ tk_ta K L f1 rd dr nds A1 (tk_has (tk_lk A1))) ∧ (tk_tc f1 so B tn)) ∨ (z = 0 ∧ (tk_node B tn ss tA = tk_er (q_z f1 so 2) (q_z f1 so 3)) ∧ (tk_tc f1 so B tn)))) (fun (_ : String) (_ : Nat → va_E) => False) := by
  refine q_xofb (by decide +kernel) hN hT (Nat.le_of_ble_eq_true rfl) ?_
  intro p e s m below meth c ls cx hr hlk htab hX hB hl
  have hl : lv_has ls 7 [(0, .ref rd), (1, .ref so), (2, .ref dr)] := hl
  obtain ⟨H, hH⟩ : ∃ H : Heap, H = s.heap := ⟨_, rfl⟩
  obtain ⟨locs, hlocs⟩ : ∃ z : List Loc, z = [] := ⟨_, rfl⟩
  rw [← hH, ← hlocs] at hB
  rw [← hH, ← hlocs]
  refine q_ald_n cx dX9_readNode_0 rfl (lv_at hl 2 rfl) ?_
  obtain ⟨x363, ex363⟩ : ∃ zz, q_is (q_z f dr 3) zz := ⟨_, q_isr _⟩
  refine q_gX9_103_13 cx hB hdr kdr ex363 dX9_readNode_1 (fun lb364 ub364 => ?_)
  refine q_bipush cx dX9_readNode_4 rfl ?_
  refine q_iclt (tgt := 15) cx ⟨by omega, by omega⟩ ⟨by decide, by decide⟩ dX9_readNode_6 (by decide) (fun c365 => ?_) (fun c365 => ?_)
  · refine q_ald_n cx dX9_readNode_15 rfl (lv_at hl 1 rfl) ?_
    refine q_cVv (As := []) (rest := []) cx hB (fun _ h => h) hN hso kso (by decide) rfl (f_adv l g hN hB.2.1 B so hso kso ba hba kba tn (by omega) (by omega) ss (by omega) (by omega) hf0 hf1 hr0 htc htb) q_cX9_78 q_dX8_advance (by decide) rfl rfl hl.1 rfl (Nat.le_of_ble_eq_true rfl) dX9_readNode_16 (fun H locs f366 h368 hF hB => ?_)
    obtain ⟨t369, g370⟩ := h368
    have z371 : q_is (q_z f366 so 1) tn := Eq.trans (hF.z hso (by rw [kso]; rfl)) hf0
    have z372 : q_is (q_z f366 so 2) 0 := Eq.trans (hF.z hso (by rw [kso]; rfl)) hf2
    have z373 : q_is (q_z f366 so 3) (-1) := Eq.trans (hF.z hso (by rw [kso]; rfl)) hf3
    have z374 : q_is (q_z f366 dr 3) x363 := Eq.trans (hF.z hdr (by rw [kdr]; rfl)) ex363
    have z375 : q_ir (q_r f366 so 0) ba := Eq.trans (hF.r hso (by rw [kso]; rfl)) hr0
    have z376 : q_ir (q_r f366 dr 0) nds := Eq.trans (hF.r hdr (by rw [kdr]; rfl)) hr1
    have g377 : tk_tb f366 ba B tn := tk_tb_tr htb (fun i9 => hF.z hba (by rw [kba]; rfl))
    have g378 : tk_ta K L f366 rd dr nds tA (tk_has (tk_lk tA)) := tk_ta_tr hta (hF.z hrd (by rw [krd]; rfl)) (hF.z hrd (by rw [krd]; rfl)) (hF.z hrd (by rw [krd]; rfl)) (hF.z hdr (by rw [kdr]; rfl)) (hF.z hdr (by rw [kdr]; rfl)) (fun a9 h9 k9 => hF.j h9 (by rw [k9]; rfl)) (fun a9 h9 k9 => hF.z h9 (by rw [k9]; rfl)) (fun i9 => hF.r hnds (by rw [knds]; rfl))
    obtain ⟨x379, ex379⟩ : ∃ zz, q_is (q_z f366 so 8) zz := ⟨_, q_isr _⟩
    obtain ⟨lx379, ux379⟩ := q_isb ex379 (q_fib hB.2.1 hso kso (by decide) rfl)
    obtain ⟨-, l0x379, u0x379, -, -⟩ := tk_tc_n g370 ex379
    refine q_ald_n cx dX9_readNode_19 rfl (lv_at hl 1 rfl) ?_
    refine q_cVi (As := []) (rest := []) cx hB (fun _ h => h) hN hso kso (by decide) rfl (f_expectName l g hN hB.2.1 B so hso kso ba hba kba tn (by omega) (by omega) x379 (by omega) (by omega) z371 ex379 z372 z373 z375 g370 g377) q_cX9_106 q_dX8_expectName (by decide) rfl rfl hl.1 rfl (Nat.le_of_ble_eq_true rfl) dX9_readNode_20 (fun y381 H locs f380 ry381 h382 hF hB => ?_)
    rcases h382 with h383 | h384
    · obtain ⟨qy381, z385, z386, t387, g388⟩ := h383
      have z389 : q_is (q_z f380 so 1) tn := Eq.trans (hF.z hso (by rw [kso]; rfl)) z371
      have z390 : q_is (q_z f380 dr 3) x363 := Eq.trans (hF.z hdr (by rw [kdr]; rfl)) z374
      have z391 : q_is (q_z f380 so 8) x379 := Eq.trans (hF.z hso (by rw [kso]; rfl)) ex379
      have z392 : q_ir (q_r f380 so 0) ba := Eq.trans (hF.r hso (by rw [kso]; rfl)) z375
      have z393 : q_ir (q_r f380 dr 0) nds := Eq.trans (hF.r hdr (by rw [kdr]; rfl)) z376
      have g394 : tk_tb f380 ba B tn := tk_tb_tr g377 (fun i9 => hF.z hba (by rw [kba]; rfl))
      have g395 : tk_ta K L f380 rd dr nds tA (tk_has (tk_lk tA)) := tk_ta_tr g378 (hF.z hrd (by rw [krd]; rfl)) (hF.z hrd (by rw [krd]; rfl)) (hF.z hrd (by rw [krd]; rfl)) (hF.z hdr (by rw [kdr]; rfl)) (hF.z hdr (by rw [kdr]; rfl)) (fun a9 h9 k9 => hF.j h9 (by rw [k9]; rfl)) (fun a9 h9 k9 => hF.z h9 (by rw [k9]; rfl)) (fun i9 => hF.r hnds (by rw [knds]; rfl))
      have g396 : tk_tc f380 so B tn := tk_tc_tr g370 (hF.z hso (by rw [kso]; rfl)) (hF.z hso (by rw [kso]; rfl)) (hF.z hso (by rw [kso]; rfl)) (hF.j hso (by rw [kso]; rfl)) (hF.z hso (by rw [kso]; rfl))
      subst qy381
      refine q_ifne (tgt := 28) cx ⟨by decide, by decide⟩ dX9_readNode_23 (by decide) (fun c397 => ?_) (fun c397 => ?_)
      · refine q_ald_n cx dX9_readNode_28 rfl (lv_at hl 1 rfl) ?_
        have hiw9 : tk_isw (tk_w B tn x379) := tk_w_isw (by omega)
        refine q_gX9_109 cx hB hso kso (tk_tc_w g388 z391 t387) dX9_readNode_29 ?_
        refine lv_lstore_n (lv' := [(3, .long (tk_cw (tk_w B tn x379))), (0, .ref rd), (1, .ref so), (2, .ref dr)]) cx.1 cx.2.1 dX9_readNode_32 rfl hl (by decide) rfl (fun ls hl => ?_)
        refine q_ald_n cx dX9_readNode_33 rfl (lv_at hl 3 rfl) ?_
        refine q_lld_n cx dX9_readNode_34 rfl (lv_at hl 0 rfl) ?_
        refine q_cVi (As := [.long (tk_cw (tk_w B tn x379))]) (rest := []) cx hB (fun _ h => h) hN hdr kdr (by decide) rfl (f_numberOf l g hN hB.2.1 tA (tk_w B tn x379) dr hdr kdr (tk_cw (tk_w B tn x379)) nds hnds knds rd hrd krd x363 (by omega) (by omega) z390 z393 rfl hiw9 g395) q_cX9_113 q_dX10_numberOf (by decide) rfl rfl hl.1 rfl (Nat.le_of_ble_eq_true rfl) dX9_readNode_35 (fun y399 H locs f398 ry399 h400 hF hB => ?_)
        rcases h400 with h401 | h402
        · obtain ⟨rfl, ly399, uy399, t403, t404⟩ := h401
          refine q_iconst cx dX9_readNode_38 ?_
          refine q_iceq (tgt := 48) cx ⟨by omega, by omega⟩ ⟨by decide, by decide⟩ dX9_readNode_39 (by decide) (fun c405 => ?_) (fun c405 => ?_)
          · exact absurd c405 (by omega)
          · refine q_ald_n cx dX9_readNode_42 rfl (lv_at hl 2 rfl) ?_
            refine q_iconst cx dX9_readNode_43 ?_
            refine q_cVi (As := [.int (q_i 3)]) (rest := []) cx hB (fun _ h => h) hN hso kso (by decide) rfl (f_fail l g hN hB.2.1 B so hso kso 3 (by decide) (by decide) ba hba kba tn (by omega) (by omega) x379 (by omega) (by omega) z389 z391 z392 g388 g394) q_cX9_75 q_dX8_fail (by decide) rfl rfl hl.1 rfl (Nat.le_of_ble_eq_true rfl) dX9_readNode_44 (fun y407 H locs f406 ry407 h408 hF hB => ?_)
            obtain ⟨qy407, z409, z410⟩ := h408
            have z411 : q_j f406 so 4 = (tk_cw (tk_w B tn x379)) := (hF.j hso (by rw [kso]; rfl)).trans (tk_tc_w g388 z391 t387)
            have z412 : q_is (q_z f406 so 1) tn := Eq.trans (hF.z hso (by rw [kso]; rfl)) z389
            have z413 : q_is (q_z f406 dr 3) x363 := Eq.trans (hF.z hdr (by rw [kdr]; rfl)) z390
            have z414 : q_is (q_z f406 so 8) x379 := Eq.trans (hF.z hso (by rw [kso]; rfl)) z391
            have z415 : q_ir (q_r f406 so 0) ba := Eq.trans (hF.r hso (by rw [kso]; rfl)) z392
            have z416 : q_ir (q_r f406 dr 0) nds := Eq.trans (hF.r hdr (by rw [kdr]; rfl)) z393
            have g417 : tk_tb f406 ba B tn := tk_tb_tr g394 (fun i9 => hF.z hba (by rw [kba]; rfl))
            have g418 : tk_ta K L f406 rd dr nds tA (tk_has (tk_lk tA)) := tk_ta_tr g395 (hF.z hrd (by rw [krd]; rfl)) (hF.z hrd (by rw [krd]; rfl)) (hF.z hrd (by rw [krd]; rfl)) (hF.z hdr (by rw [kdr]; rfl)) (hF.z hdr (by rw [kdr]; rfl)) (fun a9 h9 k9 => hF.j h9 (by rw [k9]; rfl)) (fun a9 h9 k9 => hF.z h9 (by rw [k9]; rfl)) (fun i9 => hF.r hnds (by rw [knds]; rfl))
            have g419 : tk_tc f406 so B tn := tk_tc_tr g388 (hF.z hso (by rw [kso]; rfl)) (hF.z hso (by rw [kso]; rfl)) (hF.z hso (by rw [kso]; rfl)) (hF.j hso (by rw [kso]; rfl)) (hF.z hso (by rw [kso]; rfl))
            subst qy407
            refine W.widen (k := 0) (n := 0) (by decide) (by decide) ?_
            refine vx_ret ?_
            refine q_zret cx hr hlk hB dX9_readNode_47 (by decide) (by decide) ?_
            exact (Or.inr ⟨rfl, (tk_node_e3 (by have h7 := tk_ta_nn hta ex363; omega) (Eq.trans (Eq.symm ex379) t369) t387 t403 z409 z410), g419⟩)
        · obtain ⟨rfl, qy399, t420⟩ := h402
          subst qy399
          refine q_iconst cx dX9_readNode_38 ?_
          refine q_iceq (tgt := 48) cx ⟨by decide, by decide⟩ ⟨by decide, by decide⟩ dX9_readNode_39 (by decide) (fun c421 => ?_) (fun c421 => ?_)
          · refine q_ald_n cx dX9_readNode_48 rfl (lv_at hl 2 rfl) ?_
            refine q_cVv (As := []) (rest := []) cx hB (fun _ h => h) hN hso kso (by decide) rfl (f_adv l g hN hB.2.1 B so hso kso ba hba kba tn (by omega) (by omega) x379 (by omega) (by omega) z389 z391 z392 g388 g394) q_cX9_78 q_dX8_advance (by decide) rfl rfl hl.1 rfl (Nat.le_of_ble_eq_true rfl) dX9_readNode_49 (fun H locs f422 h424 hF hB => ?_)
            obtain ⟨t425, g426⟩ := h424
            have z427 : q_is (q_z f422 so 1) tn := Eq.trans (hF.z hso (by rw [kso]; rfl)) z389
            have z428 : q_is (q_z f422 dr 3) x363 := Eq.trans (hF.z hdr (by rw [kdr]; rfl)) z390
            have z429 : q_is (q_z f422 so 2) 0 := Eq.trans (hF.z hso (by rw [kso]; rfl)) z385
            have z430 : q_is (q_z f422 so 3) (-1) := Eq.trans (hF.z hso (by rw [kso]; rfl)) z386
            have z431 : q_ir (q_r f422 so 0) ba := Eq.trans (hF.r hso (by rw [kso]; rfl)) z392
            have z432 : q_ir (q_r f422 dr 0) nds := Eq.trans (hF.r hdr (by rw [kdr]; rfl)) z393
            have g433 : tk_tb f422 ba B tn := tk_tb_tr g394 (fun i9 => hF.z hba (by rw [kba]; rfl))
            have g434 : tk_ta K L f422 rd dr nds tA (tk_has (tk_lk tA)) := tk_ta_tr g395 (hF.z hrd (by rw [krd]; rfl)) (hF.z hrd (by rw [krd]; rfl)) (hF.z hrd (by rw [krd]; rfl)) (hF.z hdr (by rw [kdr]; rfl)) (hF.z hdr (by rw [kdr]; rfl)) (fun a9 h9 k9 => hF.j h9 (by rw [k9]; rfl)) (fun a9 h9 k9 => hF.z h9 (by rw [k9]; rfl)) (fun i9 => hF.r hnds (by rw [knds]; rfl))
            obtain ⟨x435, ex435⟩ : ∃ zz, q_is (q_z f422 so 8) zz := ⟨_, q_isr _⟩
            obtain ⟨lx435, ux435⟩ := q_isb ex435 (q_fib hB.2.1 hso kso (by decide) rfl)
            obtain ⟨-, l0x435, u0x435, -, -⟩ := tk_tc_n g426 ex435
            refine q_ald_n cx dX9_readNode_52 rfl (lv_at hl 2 rfl) ?_
            refine va_ldcS (q := ad 5) cx.1 cx.2.1 cx.2.2.2.1 ((hX.2.2.2.2.2.2.2 5 (by decide)).1) dX9_readNode_53 ?_
            refine q_cXV (As := [.ref (ad 5)]) (rest := []) cx hX hB (fun _ h => h) (fun _ h _ => h) hN hso kso (by decide) rfl (f_takeWord_5 l g ad hN hB.2.1 hfl B so hso kso ba hba kba tn (by omega) (by omega) x435 (by omega) (by omega) z427 ex435 z429 z430 z431 g426 g433) q_cX9_119 q_dX8_takeWord (by decide) rfl rfl hl.1 rfl (Nat.le_of_ble_eq_true rfl) dX9_readNode_55 (fun E9 ce9 q9 H locs f439 hex hF hB hcell hcv hcl => ?_) (fun v9 H locs f436 h438 hF hB => ?_)
            · exact hex.elim
            · obtain ⟨y437, rfl, ry437, h438⟩ := h438
              refine W.eq (g2 := F0 m 58 ls [.int (q_i y437)]) rfl ?_
              rcases h438 with h440 | h441
              · obtain ⟨qy437, z442, z443, t444, g445⟩ := h440
                have z446 : q_is (q_z f436 so 1) tn := Eq.trans (hF.z hso (by rw [kso]; rfl)) z427
                have z447 : q_is (q_z f436 dr 3) x363 := Eq.trans (hF.z hdr (by rw [kdr]; rfl)) z428
                have z448 : q_ir (q_r f436 so 0) ba := Eq.trans (hF.r hso (by rw [kso]; rfl)) z431
                have z449 : q_ir (q_r f436 dr 0) nds := Eq.trans (hF.r hdr (by rw [kdr]; rfl)) z432
                have g450 : tk_tb f436 ba B tn := tk_tb_tr g433 (fun i9 => hF.z hba (by rw [kba]; rfl))
                have g451 : tk_ta K L f436 rd dr nds tA (tk_has (tk_lk tA)) := tk_ta_tr g434 (hF.z hrd (by rw [krd]; rfl)) (hF.z hrd (by rw [krd]; rfl)) (hF.z hrd (by rw [krd]; rfl)) (hF.z hdr (by rw [kdr]; rfl)) (hF.z hdr (by rw [kdr]; rfl)) (fun a9 h9 k9 => hF.j h9 (by rw [k9]; rfl)) (fun a9 h9 k9 => hF.z h9 (by rw [k9]; rfl)) (fun i9 => hF.r hnds (by rw [knds]; rfl))
                subst qy437
                obtain ⟨x452, ex452⟩ : ∃ zz, q_is (q_z f436 so 8) zz := ⟨_, q_isr _⟩
                obtain ⟨lx452, ux452⟩ := q_isb ex452 (q_fib hB.2.1 hso kso (by decide) rfl)
                obtain ⟨-, l0x452, u0x452, -, -⟩ := tk_tc_n g445 ex452
                refine q_ifeq (tgt := 71) cx ⟨by decide, by decide⟩ dX9_readNode_58 (by decide) (fun c453 => ?_) (fun c453 => ?_)
                · exact absurd c453 (by omega)
                · refine q_ald_n cx dX9_readNode_61 rfl (lv_at hl 2 rfl) ?_
                  refine q_iconst cx dX9_readNode_62 ?_
                  refine q_bipush cx dX9_readNode_63 rfl ?_
                  refine q_cVi (As := [.int (q_i 0), .int (q_i 59)]) (rest := []) cx hB (fun _ h => h) hN hso kso (by decide) rfl (f_takeNumber l g hN hB.2.1 B so hso kso 0 (by decide) (by decide) 59 (by decide) (by decide) ba hba kba tn (by omega) (by omega) x452 (by omega) (by omega) z446 ex452 z442 z443 z448 g445 g450) q_cX9_81 q_dX8_takeNumber (by decide) rfl rfl hl.1 rfl (Nat.le_of_ble_eq_true rfl) dX9_readNode_65 (fun y455 H locs f454 ry455 h456 hF hB => ?_)
                  rcases h456 with h457 | h458
                  · obtain ⟨qy455, z459, z460, t461, t462, t463, g464⟩ := h457
                    have z465 : q_is (q_z f454 so 1) tn := Eq.trans (hF.z hso (by rw [kso]; rfl)) z446
                    have z466 : q_is (q_z f454 dr 3) x363 := Eq.trans (hF.z hdr (by rw [kdr]; rfl)) z447
                    have z467 : q_ir (q_r f454 so 0) ba := Eq.trans (hF.r hso (by rw [kso]; rfl)) z448
                    have z468 : q_ir (q_r f454 dr 0) nds := Eq.trans (hF.r hdr (by rw [kdr]; rfl)) z449
                    have g469 : tk_tb f454 ba B tn := tk_tb_tr g450 (fun i9 => hF.z hba (by rw [kba]; rfl))
                    have g470 : tk_ta K L f454 rd dr nds tA (tk_has (tk_lk tA)) := tk_ta_tr g451 (hF.z hrd (by rw [krd]; rfl)) (hF.z hrd (by rw [krd]; rfl)) (hF.z hrd (by rw [krd]; rfl)) (hF.z hdr (by rw [kdr]; rfl)) (hF.z hdr (by rw [kdr]; rfl)) (fun a9 h9 k9 => hF.j h9 (by rw [k9]; rfl)) (fun a9 h9 k9 => hF.z h9 (by rw [k9]; rfl)) (fun i9 => hF.r hnds (by rw [knds]; rfl))
                    subst qy455
                    obtain ⟨x471, ex471⟩ : ∃ zz, q_is (q_z f454 so 8) zz := ⟨_, q_isr _⟩
                    obtain ⟨lx471, ux471⟩ := q_isb ex471 (q_fib hB.2.1 hso kso (by decide) rfl)
                    obtain ⟨-, l0x471, u0x471, -, -⟩ := tk_tc_n g464 ex471
                    refine q_ifne (tgt := 73) cx ⟨by decide, by decide⟩ dX9_readNode_68 (by decide) (fun c472 => ?_) (fun c472 => ?_)
                    · refine q_ald_n cx dX9_readNode_73 rfl (lv_at hl 2 rfl) ?_
                      obtain ⟨x473, ex473⟩ : ∃ zz, q_is (q_z f454 so 5) zz := ⟨_, q_isr _⟩
                      refine q_gX9_85 cx hB hso kso ex473 dX9_readNode_74 (fun lb474 ub474 => ?_)
                      refine lv_istore (lv' := [(5, .int (q_i x473)), (3, .long (tk_cw (tk_w B tn x379))), (0, .ref rd), (1, .ref so), (2, .ref dr)]) cx.1 cx.2.1 dX9_readNode_77 hl (by decide) rfl (fun ls hl => ?_)
                      refine q_iconst cx dX9_readNode_79 ?_
                      refine lv_istore (lv' := [(6, .int (q_i 0)), (5, .int (q_i x473)), (3, .long (tk_cw (tk_w B tn x379))), (0, .ref rd), (1, .ref so), (2, .ref dr)]) cx.1 cx.2.1 dX9_readNode_80 hl (by decide) rfl (fun ls hl => ?_)
                      refine q_ald_n cx dX9_readNode_82 rfl (lv_at hl 4 rfl) ?_
                      refine va_ldcS (q := ad 6) cx.1 cx.2.1 cx.2.2.2.1 ((hX.2.2.2.2.2.2.2 6 (by decide)).1) dX9_readNode_83 ?_
                      refine q_cXV (As := [.ref (ad 6)]) (rest := []) cx hX hB (fun _ h => h) (fun _ h _ => h) hN hso kso (by decide) rfl (f_isWord_6 l g ad hN hB.2.1 hfl B so hso kso ba hba kba tn (by omega) (by omega) x471 (by omega) (by omega) z465 ex471 z467 g464 g469) q_cX9_48 q_dX8_isWord (by decide) rfl rfl hl.1 rfl (Nat.le_of_ble_eq_true rfl) dX9_readNode_85 (fun E9 ce9 q9 H locs f478 hex hF hB hcell hcv hcl => ?_) (fun v9 H locs f475 h477 hF hB => ?_)
                      · exact hex.elim
                      · obtain ⟨y476, rfl, ry476, h477⟩ := h477
                        refine W.eq (g2 := F0 m 88 ls [.int (q_i y476)]) rfl ?_
                        rcases h477 with h479 | h480
                        · obtain ⟨rfl, qy476, t481⟩ := h479
                          subst qy476
                          refine q_ifeq (tgt := 113) cx ⟨by decide, by decide⟩ dX9_readNode_88 (by decide) (fun c482 => ?_) (fun c482 => ?_)
                          · exact absurd c482 (by omega)
                          · refine q_ald_n cx dX9_readNode_91 rfl (lv_at hl 4 rfl) ?_
                            refine q_cVv (As := []) (rest := []) cx hB (fun _ h => h) hN hso kso (by decide) rfl (f_adv l g hN hB.2.1 B so hso kso ba hba kba tn (by omega) (by omega) x471 (by omega) (by omega) z465 ex471 z467 g464 g469) q_cX9_78 q_dX8_advance (by decide) rfl rfl hl.1 rfl (Nat.le_of_ble_eq_true rfl) dX9_readNode_92 (fun H locs f483 h485 hF hB => ?_)
                            obtain ⟨t486, g487⟩ := h485
                            have z488 : q_is (q_z f483 so 1) tn := Eq.trans (hF.z hso (by rw [kso]; rfl)) z465
                            have z489 : q_is (q_z f483 dr 3) x363 := Eq.trans (hF.z hdr (by rw [kdr]; rfl)) z466
                            have z490 : q_is (q_z f483 so 2) 0 := Eq.trans (hF.z hso (by rw [kso]; rfl)) z459
                            have z491 : q_is (q_z f483 so 3) (-1) := Eq.trans (hF.z hso (by rw [kso]; rfl)) z460
                            have z492 : q_is (q_z f483 so 5) x473 := Eq.trans (hF.z hso (by rw [kso]; rfl)) ex473
                            have z493 : q_ir (q_r f483 so 0) ba := Eq.trans (hF.r hso (by rw [kso]; rfl)) z467
                            have z494 : q_ir (q_r f483 dr 0) nds := Eq.trans (hF.r hdr (by rw [kdr]; rfl)) z468
                            have g495 : tk_tb f483 ba B tn := tk_tb_tr g469 (fun i9 => hF.z hba (by rw [kba]; rfl))
                            have g496 : tk_ta K L f483 rd dr nds tA (tk_has (tk_lk tA)) := tk_ta_tr g470 (hF.z hrd (by rw [krd]; rfl)) (hF.z hrd (by rw [krd]; rfl)) (hF.z hrd (by rw [krd]; rfl)) (hF.z hdr (by rw [kdr]; rfl)) (hF.z hdr (by rw [kdr]; rfl)) (fun a9 h9 k9 => hF.j h9 (by rw [k9]; rfl)) (fun a9 h9 k9 => hF.z h9 (by rw [k9]; rfl)) (fun i9 => hF.r hnds (by rw [knds]; rfl))
                            obtain ⟨x497, ex497⟩ : ∃ zz, q_is (q_z f483 so 8) zz := ⟨_, q_isr _⟩
                            obtain ⟨lx497, ux497⟩ := q_isb ex497 (q_fib hB.2.1 hso kso (by decide) rfl)
                            obtain ⟨-, l0x497, u0x497, -, -⟩ := tk_tc_n g487 ex497
                            refine q_ald_n cx dX9_readNode_95 rfl (lv_at hl 4 rfl) ?_
                            refine q_iconst cx dX9_readNode_96 ?_
                            refine q_bipush cx dX9_readNode_97 rfl ?_
                            refine q_cVi (As := [.int (q_i 0), .int (q_i 59)]) (rest := []) cx hB (fun _ h => h) hN hso kso (by decide) rfl (f_takeNumber l g hN hB.2.1 B so hso kso 0 (by decide) (by decide) 59 (by decide) (by decide) ba hba kba tn (by omega) (by omega) x497 (by omega) (by omega) z488 ex497 z490 z491 z493 g487 g495) q_cX9_81 q_dX8_takeNumber (by decide) rfl rfl hl.1 rfl (Nat.le_of_ble_eq_true rfl) dX9_readNode_99 (fun y499 H locs f498 ry499 h500 hF hB => ?_)
                            rcases h500 with h501 | h502
                            · obtain ⟨qy499, z503, z504, t505, t506, t507, g508⟩ := h501
                              have z509 : q_is (q_z f498 so 1) tn := Eq.trans (hF.z hso (by rw [kso]; rfl)) z488
                              have z510 : q_is (q_z f498 dr 3) x363 := Eq.trans (hF.z hdr (by rw [kdr]; rfl)) z489
                              have z511 : q_ir (q_r f498 so 0) ba := Eq.trans (hF.r hso (by rw [kso]; rfl)) z493
                              have z512 : q_ir (q_r f498 dr 0) nds := Eq.trans (hF.r hdr (by rw [kdr]; rfl)) z494
                              have g513 : tk_tb f498 ba B tn := tk_tb_tr g495 (fun i9 => hF.z hba (by rw [kba]; rfl))
                              have g514 : tk_ta K L f498 rd dr nds tA (tk_has (tk_lk tA)) := tk_ta_tr g496 (hF.z hrd (by rw [krd]; rfl)) (hF.z hrd (by rw [krd]; rfl)) (hF.z hrd (by rw [krd]; rfl)) (hF.z hdr (by rw [kdr]; rfl)) (hF.z hdr (by rw [kdr]; rfl)) (fun a9 h9 k9 => hF.j h9 (by rw [k9]; rfl)) (fun a9 h9 k9 => hF.z h9 (by rw [k9]; rfl)) (fun i9 => hF.r hnds (by rw [knds]; rfl))
                              subst qy499
                              obtain ⟨x515, ex515⟩ : ∃ zz, q_is (q_z f498 so 8) zz := ⟨_, q_isr _⟩
                              obtain ⟨lx515, ux515⟩ := q_isb ex515 (q_fib hB.2.1 hso kso (by decide) rfl)
                              obtain ⟨-, l0x515, u0x515, -, -⟩ := tk_tc_n g508 ex515
                              refine q_ifne (tgt := 107) cx ⟨by decide, by decide⟩ dX9_readNode_102 (by decide) (fun c516 => ?_) (fun c516 => ?_)
                              · refine q_ald_n cx dX9_readNode_107 rfl (lv_at hl 4 rfl) ?_
                                obtain ⟨x517, ex517⟩ : ∃ zz, q_is (q_z f498 so 5) zz := ⟨_, q_isr _⟩
                                refine q_gX9_85 cx hB hso kso ex517 dX9_readNode_108 (fun lb518 ub518 => ?_)
                                refine lv_istore (lv' := [(6, .int (q_i x517)), (5, .int (q_i x473)), (3, .long (tk_cw (tk_w B tn x379))), (0, .ref rd), (1, .ref so), (2, .ref dr)]) cx.1 cx.2.1 dX9_readNode_111 hl (by decide) rfl (fun ls hl => ?_)
                                refine q_ald_n cx dX9_readNode_113 rfl (lv_at hl 4 rfl) ?_
                                refine va_ldcS (q := ad 7) cx.1 cx.2.1 cx.2.2.2.1 ((hX.2.2.2.2.2.2.2 7 (by decide)).1) dX9_readNode_114 ?_
                                refine q_cXV (As := [.ref (ad 7)]) (rest := []) cx hX hB (fun _ h => h) (fun _ h _ => h) hN hso kso (by decide) rfl (f_takeWord_7 l g ad hN hB.2.1 hfl B so hso kso ba hba kba tn (by omega) (by omega) x515 (by omega) (by omega) z509 ex515 z503 z504 z511 g508 g513) q_cX9_119 q_dX8_takeWord (by decide) rfl rfl hl.1 rfl (Nat.le_of_ble_eq_true rfl) dX9_readNode_116 (fun E9 ce9 q9 H locs f522 hex hF hB hcell hcv hcl => ?_) (fun v9 H locs f519 h521 hF hB => ?_)
                                · exact hex.elim
                                · obtain ⟨y520, rfl, ry520, h521⟩ := h521
                                  refine W.eq (g2 := F0 m 119 ls [.int (q_i y520)]) rfl ?_
                                  rcases h521 with h523 | h524
                                  · obtain ⟨qy520, z525, z526, t527, g528⟩ := h523
                                    have z529 : q_is (q_z f519 so 1) tn := Eq.trans (hF.z hso (by rw [kso]; rfl)) z509
                                    have z530 : q_is (q_z f519 dr 3) x363 := Eq.trans (hF.z hdr (by rw [kdr]; rfl)) z510
                                    have z531 : q_is (q_z f519 so 5) x517 := Eq.trans (hF.z hso (by rw [kso]; rfl)) ex517
                                    have z532 : q_ir (q_r f519 so 0) ba := Eq.trans (hF.r hso (by rw [kso]; rfl)) z511
                                    have z533 : q_ir (q_r f519 dr 0) nds := Eq.trans (hF.r hdr (by rw [kdr]; rfl)) z512
                                    have g534 : tk_tb f519 ba B tn := tk_tb_tr g513 (fun i9 => hF.z hba (by rw [kba]; rfl))
                                    have g535 : tk_ta K L f519 rd dr nds tA (tk_has (tk_lk tA)) := tk_ta_tr g514 (hF.z hrd (by rw [krd]; rfl)) (hF.z hrd (by rw [krd]; rfl)) (hF.z hrd (by rw [krd]; rfl)) (hF.z hdr (by rw [kdr]; rfl)) (hF.z hdr (by rw [kdr]; rfl)) (fun a9 h9 k9 => hF.j h9 (by rw [k9]; rfl)) (fun a9 h9 k9 => hF.z h9 (by rw [k9]; rfl)) (fun i9 => hF.r hnds (by rw [knds]; rfl))
                                    subst qy520
                                    obtain ⟨x536, ex536⟩ : ∃ zz, q_is (q_z f519 so 8) zz := ⟨_, q_isr _⟩
                                    obtain ⟨lx536, ux536⟩ := q_isb ex536 (q_fib hB.2.1 hso kso (by decide) rfl)
                                    obtain ⟨-, l0x536, u0x536, -, -⟩ := tk_tc_n g528 ex536
                                    refine q_ifeq (tgt := 133) cx ⟨by decide, by decide⟩ dX9_readNode_119 (by decide) (fun c537 => ?_) (fun c537 => ?_)
                                    · exact absurd c537 (by omega)
                                    · refine q_ald_n cx dX9_readNode_122 rfl (lv_at hl 4 rfl) ?_
                                      refine q_iconst cx dX9_readNode_123 ?_
                                      refine q_sipush cx dX9_readNode_124 rfl ?_
                                      refine q_cVi (As := [.int (q_i 1), .int (q_i 999)]) (rest := []) cx hB (fun _ h => h) hN hso kso (by decide) rfl (f_takeNumber l g hN hB.2.1 B so hso kso 1 (by decide) (by decide) 999 (by decide) (by decide) ba hba kba tn (by omega) (by omega) x536 (by omega) (by omega) z529 ex536 z525 z526 z532 g528 g534) q_cX9_81 q_dX8_takeNumber (by decide) rfl rfl hl.1 rfl (Nat.le_of_ble_eq_true rfl) dX9_readNode_127 (fun y539 H locs f538 ry539 h540 hF hB => ?_)
                                      rcases h540 with h541 | h542
                                      · obtain ⟨qy539, z543, z544, t545, t546, t547, g548⟩ := h541
                                        have z549 : q_is (q_z f538 so 1) tn := Eq.trans (hF.z hso (by rw [kso]; rfl)) z529
                                        have z550 : q_is (q_z f538 dr 3) x363 := Eq.trans (hF.z hdr (by rw [kdr]; rfl)) z530
                                        have z551 : q_ir (q_r f538 so 0) ba := Eq.trans (hF.r hso (by rw [kso]; rfl)) z532
                                        have z552 : q_ir (q_r f538 dr 0) nds := Eq.trans (hF.r hdr (by rw [kdr]; rfl)) z533
                                        have g553 : tk_tb f538 ba B tn := tk_tb_tr g534 (fun i9 => hF.z hba (by rw [kba]; rfl))
                                        have g554 : tk_ta K L f538 rd dr nds tA (tk_has (tk_lk tA)) := tk_ta_tr g535 (hF.z hrd (by rw [krd]; rfl)) (hF.z hrd (by rw [krd]; rfl)) (hF.z hrd (by rw [krd]; rfl)) (hF.z hdr (by rw [kdr]; rfl)) (hF.z hdr (by rw [kdr]; rfl)) (fun a9 h9 k9 => hF.j h9 (by rw [k9]; rfl)) (fun a9 h9 k9 => hF.z h9 (by rw [k9]; rfl)) (fun i9 => hF.r hnds (by rw [knds]; rfl))
                                        subst qy539
                                        obtain ⟨x555, ex555⟩ : ∃ zz, q_is (q_z f538 so 8) zz := ⟨_, q_isr _⟩
                                        obtain ⟨lx555, ux555⟩ := q_isb ex555 (q_fib hB.2.1 hso kso (by decide) rfl)
                                        obtain ⟨-, l0x555, u0x555, -, -⟩ := tk_tc_n g548 ex555
                                        refine q_ifne (tgt := 135) cx ⟨by decide, by decide⟩ dX9_readNode_130 (by decide) (fun c556 => ?_) (fun c556 => ?_)
                                        · refine q_ald_n cx dX9_readNode_135 rfl (lv_at hl 5 rfl) ?_
                                          refine q_lld_n cx dX9_readNode_136 rfl (lv_at hl 2 rfl) ?_
                                          refine lv_iload cx.1 cx.2.1 dX9_readNode_137 (lv_at hl 1 rfl) ?_
                                          refine lv_iload cx.1 cx.2.1 dX9_readNode_139 (lv_at hl 0 rfl) ?_
                                          refine q_ald_n cx dX9_readNode_141 rfl (lv_at hl 4 rfl) ?_
                                          obtain ⟨x557, ex557⟩ : ∃ zz, q_is (q_z f538 so 5) zz := ⟨_, q_isr _⟩
                                          refine q_gX9_85 cx hB hso kso ex557 dX9_readNode_142 (fun lb558 ub558 => ?_)
                                          refine q_cVv (As := [.long (tk_cw (tk_w B tn x379)), .int (q_i x473), .int (q_i x517), .int (q_i x557)]) (rest := []) cx hB (fun _ h => h) hN hdr kdr (by decide) rfl (f_addNode l g hN hB.2.1 tA (tk_w B tn x379) dr hdr kdr (tk_cw (tk_w B tn x379)) x473 (by omega) (by omega) x517 (by omega) (by omega) x557 (by omega) (by omega) nds hnds knds rd hrd krd x363 (by omega) (by omega) z550 z552 rfl hiw9 g554) q_cX9_126 q_dX10_addNode (by decide) rfl rfl hl.1 rfl (Nat.le_of_ble_eq_true rfl) dX9_readNode_145 (fun H locs f559 h561 hF hB => ?_)
                                          have t562 := h561
                                          have z563 : q_is (q_z f559 so 1) tn := Eq.trans (hF.z hso (by rw [kso]; rfl)) z549
                                          have z564 : q_is (q_z f559 so 2) 0 := Eq.trans (hF.z hso (by rw [kso]; rfl)) z543
                                          have z565 : q_is (q_z f559 so 3) (-1) := Eq.trans (hF.z hso (by rw [kso]; rfl)) z544
                                          have z566 : q_is (q_z f559 so 8) x555 := Eq.trans (hF.z hso (by rw [kso]; rfl)) ex555
                                          have z567 : q_is (q_z f559 so 5) x557 := Eq.trans (hF.z hso (by rw [kso]; rfl)) ex557
                                          have z568 : q_ir (q_r f559 so 0) ba := Eq.trans (hF.r hso (by rw [kso]; rfl)) z551
                                          have z569 : q_ir (q_r f559 dr 0) nds := Eq.trans (hF.r hdr (by rw [kdr]; rfl)) z552
                                          have g570 : tk_tb f559 ba B tn := tk_tb_tr g553 (fun i9 => hF.z hba (by rw [kba]; rfl))
                                          have g571 : tk_tc f559 so B tn := tk_tc_tr g548 (hF.z hso (by rw [kso]; rfl)) (hF.z hso (by rw [kso]; rfl)) (hF.z hso (by rw [kso]; rfl)) (hF.j hso (by rw [kso]; rfl)) (hF.z hso (by rw [kso]; rfl))
                                          refine q_iconst cx dX9_readNode_148 ?_
                                          refine W.widen (k := 0) (n := 0) (by decide) (by decide) ?_
                                          refine vx_ret ?_
                                          refine q_zret cx hr hlk hB dX9_readNode_149 (by decide) (by decide) ?_
                                          exact (Or.inl ⟨rfl, z564, z565, ⟨(tk_an tA (tk_w B tn x379)), tk_okp (Eq.trans (tk_node_go (by have h7 := tk_ta_nn hta ex363; omega) (Eq.trans (Eq.symm ex379) t369) t387 t420 (Eq.trans (Eq.symm ex435) t425)) (tk_bd_ok (tk_rest_ok (tk_okx t444 ex452) (tk_okx t461 ex471) (tk_shift_y t481 (Eq.trans (Eq.symm ex497) t486) (tk_okx t505 ex515)) (tk_okx t527 ex536) (tk_okx t545 ex555)) _)) z566, t562⟩, g571⟩)
                                        · exact absurd c556 (by omega)
                                      · obtain ⟨qy539, t572, g573⟩ := h542
                                        have z574 : q_is (q_z f538 so 1) tn := Eq.trans (hF.z hso (by rw [kso]; rfl)) z529
                                        have z575 : q_is (q_z f538 dr 3) x363 := Eq.trans (hF.z hdr (by rw [kdr]; rfl)) z530
                                        have z576 : q_ir (q_r f538 so 0) ba := Eq.trans (hF.r hso (by rw [kso]; rfl)) z532
                                        have z577 : q_ir (q_r f538 dr 0) nds := Eq.trans (hF.r hdr (by rw [kdr]; rfl)) z533
                                        have g578 : tk_tb f538 ba B tn := tk_tb_tr g534 (fun i9 => hF.z hba (by rw [kba]; rfl))
                                        have g579 : tk_ta K L f538 rd dr nds tA (tk_has (tk_lk tA)) := tk_ta_tr g535 (hF.z hrd (by rw [krd]; rfl)) (hF.z hrd (by rw [krd]; rfl)) (hF.z hrd (by rw [krd]; rfl)) (hF.z hdr (by rw [kdr]; rfl)) (hF.z hdr (by rw [kdr]; rfl)) (fun a9 h9 k9 => hF.j h9 (by rw [k9]; rfl)) (fun a9 h9 k9 => hF.z h9 (by rw [k9]; rfl)) (fun i9 => hF.r hnds (by rw [knds]; rfl))
                                        subst qy539
                                        obtain ⟨x580, ex580⟩ : ∃ zz, q_is (q_z f538 so 8) zz := ⟨_, q_isr _⟩
                                        obtain ⟨lx580, ux580⟩ := q_isb ex580 (q_fib hB.2.1 hso kso (by decide) rfl)
                                        obtain ⟨-, l0x580, u0x580, -, -⟩ := tk_tc_n g573 ex580
                                        refine q_ifne (tgt := 135) cx ⟨by decide, by decide⟩ dX9_readNode_130 (by decide) (fun c581 => ?_) (fun c581 => ?_)
                                        · exact absurd c581 (by omega)
                                        · refine q_iconst cx dX9_readNode_133 ?_
                                          refine W.widen (k := 0) (n := 0) (by decide) (by decide) ?_
                                          refine vx_ret ?_
                                          refine q_zret cx hr hlk hB dX9_readNode_134 (by decide) (by decide) ?_
                                          exact (Or.inr ⟨rfl, (Eq.trans (tk_node_go (by have h7 := tk_ta_nn hta ex363; omega) (Eq.trans (Eq.symm ex379) t369) t387 t420 (Eq.trans (Eq.symm ex435) t425)) (tk_bd_er (tk_rest_e5 (tk_okx t444 ex452) (tk_okx t461 ex471) (tk_shift_y t481 (Eq.trans (Eq.symm ex497) t486) (tk_okx t505 ex515)) (tk_okx t527 ex536) t572) _)), g573⟩)
                                  · obtain ⟨qy520, t582, g583⟩ := h524
                                    have z584 : q_is (q_z f519 so 1) tn := Eq.trans (hF.z hso (by rw [kso]; rfl)) z509
                                    have z585 : q_is (q_z f519 dr 3) x363 := Eq.trans (hF.z hdr (by rw [kdr]; rfl)) z510
                                    have z586 : q_is (q_z f519 so 5) x517 := Eq.trans (hF.z hso (by rw [kso]; rfl)) ex517
                                    have z587 : q_ir (q_r f519 so 0) ba := Eq.trans (hF.r hso (by rw [kso]; rfl)) z511
                                    have z588 : q_ir (q_r f519 dr 0) nds := Eq.trans (hF.r hdr (by rw [kdr]; rfl)) z512
                                    have g589 : tk_tb f519 ba B tn := tk_tb_tr g513 (fun i9 => hF.z hba (by rw [kba]; rfl))
                                    have g590 : tk_ta K L f519 rd dr nds tA (tk_has (tk_lk tA)) := tk_ta_tr g514 (hF.z hrd (by rw [krd]; rfl)) (hF.z hrd (by rw [krd]; rfl)) (hF.z hrd (by rw [krd]; rfl)) (hF.z hdr (by rw [kdr]; rfl)) (hF.z hdr (by rw [kdr]; rfl)) (fun a9 h9 k9 => hF.j h9 (by rw [k9]; rfl)) (fun a9 h9 k9 => hF.z h9 (by rw [k9]; rfl)) (fun i9 => hF.r hnds (by rw [knds]; rfl))
                                    subst qy520
                                    obtain ⟨x591, ex591⟩ : ∃ zz, q_is (q_z f519 so 8) zz := ⟨_, q_isr _⟩
                                    obtain ⟨lx591, ux591⟩ := q_isb ex591 (q_fib hB.2.1 hso kso (by decide) rfl)
                                    obtain ⟨-, l0x591, u0x591, -, -⟩ := tk_tc_n g583 ex591
                                    refine q_ifeq (tgt := 133) cx ⟨by decide, by decide⟩ dX9_readNode_119 (by decide) (fun c592 => ?_) (fun c592 => ?_)
                                    · refine q_iconst cx dX9_readNode_133 ?_
                                      refine W.widen (k := 0) (n := 0) (by decide) (by decide) ?_
                                      refine vx_ret ?_
                                      refine q_zret cx hr hlk hB dX9_readNode_134 (by decide) (by decide) ?_
                                      exact (Or.inr ⟨rfl, (Eq.trans (tk_node_go (by have h7 := tk_ta_nn hta ex363; omega) (Eq.trans (Eq.symm ex379) t369) t387 t420 (Eq.trans (Eq.symm ex435) t425)) (tk_bd_er (tk_rest_e4 (tk_okx t444 ex452) (tk_okx t461 ex471) (tk_shift_y t481 (Eq.trans (Eq.symm ex497) t486) (tk_okx t505 ex515)) t582) _)), g583⟩)
                                    · exact absurd c592 (by omega)
                              · exact absurd c516 (by omega)
                            · obtain ⟨qy499, t593, g594⟩ := h502
                              have z595 : q_is (q_z f498 so 1) tn := Eq.trans (hF.z hso (by rw [kso]; rfl)) z488
                              have z596 : q_is (q_z f498 dr 3) x363 := Eq.trans (hF.z hdr (by rw [kdr]; rfl)) z489
                              have z597 : q_ir (q_r f498 so 0) ba := Eq.trans (hF.r hso (by rw [kso]; rfl)) z493
                              have z598 : q_ir (q_r f498 dr 0) nds := Eq.trans (hF.r hdr (by rw [kdr]; rfl)) z494
                              have g599 : tk_tb f498 ba B tn := tk_tb_tr g495 (fun i9 => hF.z hba (by rw [kba]; rfl))
                              have g600 : tk_ta K L f498 rd dr nds tA (tk_has (tk_lk tA)) := tk_ta_tr g496 (hF.z hrd (by rw [krd]; rfl)) (hF.z hrd (by rw [krd]; rfl)) (hF.z hrd (by rw [krd]; rfl)) (hF.z hdr (by rw [kdr]; rfl)) (hF.z hdr (by rw [kdr]; rfl)) (fun a9 h9 k9 => hF.j h9 (by rw [k9]; rfl)) (fun a9 h9 k9 => hF.z h9 (by rw [k9]; rfl)) (fun i9 => hF.r hnds (by rw [knds]; rfl))
                              subst qy499
                              obtain ⟨x601, ex601⟩ : ∃ zz, q_is (q_z f498 so 8) zz := ⟨_, q_isr _⟩
                              obtain ⟨lx601, ux601⟩ := q_isb ex601 (q_fib hB.2.1 hso kso (by decide) rfl)
                              obtain ⟨-, l0x601, u0x601, -, -⟩ := tk_tc_n g594 ex601
                              refine q_ifne (tgt := 107) cx ⟨by decide, by decide⟩ dX9_readNode_102 (by decide) (fun c602 => ?_) (fun c602 => ?_)
                              · exact absurd c602 (by omega)
                              · refine q_iconst cx dX9_readNode_105 ?_
                                refine W.widen (k := 0) (n := 0) (by decide) (by decide) ?_
                                refine vx_ret ?_
                                refine q_zret cx hr hlk hB dX9_readNode_106 (by decide) (by decide) ?_
                                exact (Or.inr ⟨rfl, (Eq.trans (tk_node_go (by have h7 := tk_ta_nn hta ex363; omega) (Eq.trans (Eq.symm ex379) t369) t387 t420 (Eq.trans (Eq.symm ex435) t425)) (tk_bd_er (tk_rest_e3 (tk_okx t444 ex452) (tk_okx t461 ex471) (tk_shift_y t481 (Eq.trans (Eq.symm ex497) t486) t593)) _)), g594⟩)
                        · obtain ⟨rfl, qy476, t603⟩ := h480
                          subst qy476
                          refine q_ifeq (tgt := 113) cx ⟨by decide, by decide⟩ dX9_readNode_88 (by decide) (fun c604 => ?_) (fun c604 => ?_)
                          · refine q_ald_n cx dX9_readNode_113 rfl (lv_at hl 4 rfl) ?_
                            refine va_ldcS (q := ad 7) cx.1 cx.2.1 cx.2.2.2.1 ((hX.2.2.2.2.2.2.2 7 (by decide)).1) dX9_readNode_114 ?_
                            refine q_cXV (As := [.ref (ad 7)]) (rest := []) cx hX hB (fun _ h => h) (fun _ h _ => h) hN hso kso (by decide) rfl (f_takeWord_7 l g ad hN hB.2.1 hfl B so hso kso ba hba kba tn (by omega) (by omega) x471 (by omega) (by omega) z465 ex471 z459 z460 z467 g464 g469) q_cX9_119 q_dX8_takeWord (by decide) rfl rfl hl.1 rfl (Nat.le_of_ble_eq_true rfl) dX9_readNode_116 (fun E9 ce9 q9 H locs f608 hex hF hB hcell hcv hcl => ?_) (fun v9 H locs f605 h607 hF hB => ?_)
                            · exact hex.elim
                            · obtain ⟨y606, rfl, ry606, h607⟩ := h607
                              refine W.eq (g2 := F0 m 119 ls [.int (q_i y606)]) rfl ?_
                              rcases h607 with h609 | h610
                              · obtain ⟨qy606, z611, z612, t613, g614⟩ := h609
                                have z615 : q_is (q_z f605 so 1) tn := Eq.trans (hF.z hso (by rw [kso]; rfl)) z465
                                have z616 : q_is (q_z f605 dr 3) x363 := Eq.trans (hF.z hdr (by rw [kdr]; rfl)) z466
                                have z617 : q_is (q_z f605 so 5) x473 := Eq.trans (hF.z hso (by rw [kso]; rfl)) ex473
                                have z618 : q_ir (q_r f605 so 0) ba := Eq.trans (hF.r hso (by rw [kso]; rfl)) z467
                                have z619 : q_ir (q_r f605 dr 0) nds := Eq.trans (hF.r hdr (by rw [kdr]; rfl)) z468
                                have g620 : tk_tb f605 ba B tn := tk_tb_tr g469 (fun i9 => hF.z hba (by rw [kba]; rfl))
                                have g621 : tk_ta K L f605 rd dr nds tA (tk_has (tk_lk tA)) := tk_ta_tr g470 (hF.z hrd (by rw [krd]; rfl)) (hF.z hrd (by rw [krd]; rfl)) (hF.z hrd (by rw [krd]; rfl)) (hF.z hdr (by rw [kdr]; rfl)) (hF.z hdr (by rw [kdr]; rfl)) (fun a9 h9 k9 => hF.j h9 (by rw [k9]; rfl)) (fun a9 h9 k9 => hF.z h9 (by rw [k9]; rfl)) (fun i9 => hF.r hnds (by rw [knds]; rfl))
                                subst qy606
                                obtain ⟨x622, ex622⟩ : ∃ zz, q_is (q_z f605 so 8) zz := ⟨_, q_isr _⟩
                                obtain ⟨lx622, ux622⟩ := q_isb ex622 (q_fib hB.2.1 hso kso (by decide) rfl)
                                obtain ⟨-, l0x622, u0x622, -, -⟩ := tk_tc_n g614 ex622
                                refine q_ifeq (tgt := 133) cx ⟨by decide, by decide⟩ dX9_readNode_119 (by decide) (fun c623 => ?_) (fun c623 => ?_)
                                · exact absurd c623 (by omega)
                                · refine q_ald_n cx dX9_readNode_122 rfl (lv_at hl 4 rfl) ?_
                                  refine q_iconst cx dX9_readNode_123 ?_
                                  refine q_sipush cx dX9_readNode_124 rfl ?_
                                  refine q_cVi (As := [.int (q_i 1), .int (q_i 999)]) (rest := []) cx hB (fun _ h => h) hN hso kso (by decide) rfl (f_takeNumber l g hN hB.2.1 B so hso kso 1 (by decide) (by decide) 999 (by decide) (by decide) ba hba kba tn (by omega) (by omega) x622 (by omega) (by omega) z615 ex622 z611 z612 z618 g614 g620) q_cX9_81 q_dX8_takeNumber (by decide) rfl rfl hl.1 rfl (Nat.le_of_ble_eq_true rfl) dX9_readNode_127 (fun y625 H locs f624 ry625 h626 hF hB => ?_)
                                  rcases h626 with h627 | h628
                                  · obtain ⟨qy625, z629, z630, t631, t632, t633, g634⟩ := h627
                                    have z635 : q_is (q_z f624 so 1) tn := Eq.trans (hF.z hso (by rw [kso]; rfl)) z615
                                    have z636 : q_is (q_z f624 dr 3) x363 := Eq.trans (hF.z hdr (by rw [kdr]; rfl)) z616
                                    have z637 : q_ir (q_r f624 so 0) ba := Eq.trans (hF.r hso (by rw [kso]; rfl)) z618
                                    have z638 : q_ir (q_r f624 dr 0) nds := Eq.trans (hF.r hdr (by rw [kdr]; rfl)) z619
                                    have g639 : tk_tb f624 ba B tn := tk_tb_tr g620 (fun i9 => hF.z hba (by rw [kba]; rfl))
                                    have g640 : tk_ta K L f624 rd dr nds tA (tk_has (tk_lk tA)) := tk_ta_tr g621 (hF.z hrd (by rw [krd]; rfl)) (hF.z hrd (by rw [krd]; rfl)) (hF.z hrd (by rw [krd]; rfl)) (hF.z hdr (by rw [kdr]; rfl)) (hF.z hdr (by rw [kdr]; rfl)) (fun a9 h9 k9 => hF.j h9 (by rw [k9]; rfl)) (fun a9 h9 k9 => hF.z h9 (by rw [k9]; rfl)) (fun i9 => hF.r hnds (by rw [knds]; rfl))
                                    subst qy625
                                    obtain ⟨x641, ex641⟩ : ∃ zz, q_is (q_z f624 so 8) zz := ⟨_, q_isr _⟩
                                    obtain ⟨lx641, ux641⟩ := q_isb ex641 (q_fib hB.2.1 hso kso (by decide) rfl)
                                    obtain ⟨-, l0x641, u0x641, -, -⟩ := tk_tc_n g634 ex641
                                    refine q_ifne (tgt := 135) cx ⟨by decide, by decide⟩ dX9_readNode_130 (by decide) (fun c642 => ?_) (fun c642 => ?_)
                                    · refine q_ald_n cx dX9_readNode_135 rfl (lv_at hl 5 rfl) ?_
                                      refine q_lld_n cx dX9_readNode_136 rfl (lv_at hl 2 rfl) ?_
                                      refine lv_iload cx.1 cx.2.1 dX9_readNode_137 (lv_at hl 1 rfl) ?_
                                      refine lv_iload cx.1 cx.2.1 dX9_readNode_139 (lv_at hl 0 rfl) ?_
                                      refine q_ald_n cx dX9_readNode_141 rfl (lv_at hl 4 rfl) ?_
                                      obtain ⟨x643, ex643⟩ : ∃ zz, q_is (q_z f624 so 5) zz := ⟨_, q_isr _⟩
                                      refine q_gX9_85 cx hB hso kso ex643 dX9_readNode_142 (fun lb644 ub644 => ?_)
                                      refine q_cVv (As := [.long (tk_cw (tk_w B tn x379)), .int (q_i x473), .int (q_i 0), .int (q_i x643)]) (rest := []) cx hB (fun _ h => h) hN hdr kdr (by decide) rfl (f_addNode l g hN hB.2.1 tA (tk_w B tn x379) dr hdr kdr (tk_cw (tk_w B tn x379)) x473 (by omega) (by omega) 0 (by decide) (by decide) x643 (by omega) (by omega) nds hnds knds rd hrd krd x363 (by omega) (by omega) z636 z638 rfl hiw9 g640) q_cX9_126 q_dX10_addNode (by decide) rfl rfl hl.1 rfl (Nat.le_of_ble_eq_true rfl) dX9_readNode_145 (fun H locs f645 h647 hF hB => ?_)
                                      have t648 := h647
                                      have z649 : q_is (q_z f645 so 1) tn := Eq.trans (hF.z hso (by rw [kso]; rfl)) z635
                                      have z650 : q_is (q_z f645 so 2) 0 := Eq.trans (hF.z hso (by rw [kso]; rfl)) z629
                                      have z651 : q_is (q_z f645 so 3) (-1) := Eq.trans (hF.z hso (by rw [kso]; rfl)) z630
                                      have z652 : q_is (q_z f645 so 8) x641 := Eq.trans (hF.z hso (by rw [kso]; rfl)) ex641
                                      have z653 : q_is (q_z f645 so 5) x643 := Eq.trans (hF.z hso (by rw [kso]; rfl)) ex643
                                      have z654 : q_ir (q_r f645 so 0) ba := Eq.trans (hF.r hso (by rw [kso]; rfl)) z637
                                      have z655 : q_ir (q_r f645 dr 0) nds := Eq.trans (hF.r hdr (by rw [kdr]; rfl)) z638
                                      have g656 : tk_tb f645 ba B tn := tk_tb_tr g639 (fun i9 => hF.z hba (by rw [kba]; rfl))
                                      have g657 : tk_tc f645 so B tn := tk_tc_tr g634 (hF.z hso (by rw [kso]; rfl)) (hF.z hso (by rw [kso]; rfl)) (hF.z hso (by rw [kso]; rfl)) (hF.j hso (by rw [kso]; rfl)) (hF.z hso (by rw [kso]; rfl))
                                      refine q_iconst cx dX9_readNode_148 ?_
                                      refine W.widen (k := 0) (n := 0) (by decide) (by decide) ?_
                                      refine vx_ret ?_
                                      refine q_zret cx hr hlk hB dX9_readNode_149 (by decide) (by decide) ?_
                                      exact (Or.inl ⟨rfl, z650, z651, ⟨(tk_an tA (tk_w B tn x379)), tk_okp (Eq.trans (tk_node_go (by have h7 := tk_ta_nn hta ex363; omega) (Eq.trans (Eq.symm ex379) t369) t387 t420 (Eq.trans (Eq.symm ex435) t425)) (tk_bd_ok (tk_rest_ok (tk_okx t444 ex452) (tk_okx t461 ex471) (tk_shift_n t603) (tk_okx t613 ex622) (tk_okx t631 ex641)) _)) z652, t648⟩, g657⟩)
                                    · exact absurd c642 (by omega)
                                  · obtain ⟨qy625, t658, g659⟩ := h628
                                    have z660 : q_is (q_z f624 so 1) tn := Eq.trans (hF.z hso (by rw [kso]; rfl)) z615
                                    have z661 : q_is (q_z f624 dr 3) x363 := Eq.trans (hF.z hdr (by rw [kdr]; rfl)) z616
                                    have z662 : q_ir (q_r f624 so 0) ba := Eq.trans (hF.r hso (by rw [kso]; rfl)) z618
                                    have z663 : q_ir (q_r f624 dr 0) nds := Eq.trans (hF.r hdr (by rw [kdr]; rfl)) z619
                                    have g664 : tk_tb f624 ba B tn := tk_tb_tr g620 (fun i9 => hF.z hba (by rw [kba]; rfl))
                                    have g665 : tk_ta K L f624 rd dr nds tA (tk_has (tk_lk tA)) := tk_ta_tr g621 (hF.z hrd (by rw [krd]; rfl)) (hF.z hrd (by rw [krd]; rfl)) (hF.z hrd (by rw [krd]; rfl)) (hF.z hdr (by rw [kdr]; rfl)) (hF.z hdr (by rw [kdr]; rfl)) (fun a9 h9 k9 => hF.j h9 (by rw [k9]; rfl)) (fun a9 h9 k9 => hF.z h9 (by rw [k9]; rfl)) (fun i9 => hF.r hnds (by rw [knds]; rfl))
                                    subst qy625
                                    obtain ⟨x666, ex666⟩ : ∃ zz, q_is (q_z f624 so 8) zz := ⟨_, q_isr _⟩
                                    obtain ⟨lx666, ux666⟩ := q_isb ex666 (q_fib hB.2.1 hso kso (by decide) rfl)
                                    obtain ⟨-, l0x666, u0x666, -, -⟩ := tk_tc_n g659 ex666
                                    refine q_ifne (tgt := 135) cx ⟨by decide, by decide⟩ dX9_readNode_130 (by decide) (fun c667 => ?_) (fun c667 => ?_)
                                    · exact absurd c667 (by omega)
                                    · refine q_iconst cx dX9_readNode_133 ?_
                                      refine W.widen (k := 0) (n := 0) (by decide) (by decide) ?_
                                      refine vx_ret ?_
                                      refine q_zret cx hr hlk hB dX9_readNode_134 (by decide) (by decide) ?_
                                      exact (Or.inr ⟨rfl, (Eq.trans (tk_node_go (by have h7 := tk_ta_nn hta ex363; omega) (Eq.trans (Eq.symm ex379) t369) t387 t420 (Eq.trans (Eq.symm ex435) t425)) (tk_bd_er (tk_rest_e5 (tk_okx t444 ex452) (tk_okx t461 ex471) (tk_shift_n t603) (tk_okx t613 ex622) t658) _)), g659⟩)
                              · obtain ⟨qy606, t668, g669⟩ := h610
                                have z670 : q_is (q_z f605 so 1) tn := Eq.trans (hF.z hso (by rw [kso]; rfl)) z465
                                have z671 : q_is (q_z f605 dr 3) x363 := Eq.trans (hF.z hdr (by rw [kdr]; rfl)) z466
                                have z672 : q_is (q_z f605 so 5) x473 := Eq.trans (hF.z hso (by rw [kso]; rfl)) ex473
                                have z673 : q_ir (q_r f605 so 0) ba := Eq.trans (hF.r hso (by rw [kso]; rfl)) z467
                                have z674 : q_ir (q_r f605 dr 0) nds := Eq.trans (hF.r hdr (by rw [kdr]; rfl)) z468
                                have g675 : tk_tb f605 ba B tn := tk_tb_tr g469 (fun i9 => hF.z hba (by rw [kba]; rfl))
                                have g676 : tk_ta K L f605 rd dr nds tA (tk_has (tk_lk tA)) := tk_ta_tr g470 (hF.z hrd (by rw [krd]; rfl)) (hF.z hrd (by rw [krd]; rfl)) (hF.z hrd (by rw [krd]; rfl)) (hF.z hdr (by rw [kdr]; rfl)) (hF.z hdr (by rw [kdr]; rfl)) (fun a9 h9 k9 => hF.j h9 (by rw [k9]; rfl)) (fun a9 h9 k9 => hF.z h9 (by rw [k9]; rfl)) (fun i9 => hF.r hnds (by rw [knds]; rfl))
                                subst qy606
                                obtain ⟨x677, ex677⟩ : ∃ zz, q_is (q_z f605 so 8) zz := ⟨_, q_isr _⟩
                                obtain ⟨lx677, ux677⟩ := q_isb ex677 (q_fib hB.2.1 hso kso (by decide) rfl)
                                obtain ⟨-, l0x677, u0x677, -, -⟩ := tk_tc_n g669 ex677
                                refine q_ifeq (tgt := 133) cx ⟨by decide, by decide⟩ dX9_readNode_119 (by decide) (fun c678 => ?_) (fun c678 => ?_)
                                · refine q_iconst cx dX9_readNode_133 ?_
                                  refine W.widen (k := 0) (n := 0) (by decide) (by decide) ?_
                                  refine vx_ret ?_
                                  refine q_zret cx hr hlk hB dX9_readNode_134 (by decide) (by decide) ?_
                                  exact (Or.inr ⟨rfl, (Eq.trans (tk_node_go (by have h7 := tk_ta_nn hta ex363; omega) (Eq.trans (Eq.symm ex379) t369) t387 t420 (Eq.trans (Eq.symm ex435) t425)) (tk_bd_er (tk_rest_e4 (tk_okx t444 ex452) (tk_okx t461 ex471) (tk_shift_n t603) t668) _)), g669⟩)
                                · exact absurd c678 (by omega)
                          · exact absurd c604 (by omega)
                    · exact absurd c472 (by omega)
                  · obtain ⟨qy455, t679, g680⟩ := h458
                    have z681 : q_is (q_z f454 so 1) tn := Eq.trans (hF.z hso (by rw [kso]; rfl)) z446
                    have z682 : q_is (q_z f454 dr 3) x363 := Eq.trans (hF.z hdr (by rw [kdr]; rfl)) z447
                    have z683 : q_ir (q_r f454 so 0) ba := Eq.trans (hF.r hso (by rw [kso]; rfl)) z448
                    have z684 : q_ir (q_r f454 dr 0) nds := Eq.trans (hF.r hdr (by rw [kdr]; rfl)) z449
                    have g685 : tk_tb f454 ba B tn := tk_tb_tr g450 (fun i9 => hF.z hba (by rw [kba]; rfl))
                    have g686 : tk_ta K L f454 rd dr nds tA (tk_has (tk_lk tA)) := tk_ta_tr g451 (hF.z hrd (by rw [krd]; rfl)) (hF.z hrd (by rw [krd]; rfl)) (hF.z hrd (by rw [krd]; rfl)) (hF.z hdr (by rw [kdr]; rfl)) (hF.z hdr (by rw [kdr]; rfl)) (fun a9 h9 k9 => hF.j h9 (by rw [k9]; rfl)) (fun a9 h9 k9 => hF.z h9 (by rw [k9]; rfl)) (fun i9 => hF.r hnds (by rw [knds]; rfl))
                    subst qy455
                    obtain ⟨x687, ex687⟩ : ∃ zz, q_is (q_z f454 so 8) zz := ⟨_, q_isr _⟩
                    obtain ⟨lx687, ux687⟩ := q_isb ex687 (q_fib hB.2.1 hso kso (by decide) rfl)
                    obtain ⟨-, l0x687, u0x687, -, -⟩ := tk_tc_n g680 ex687
                    refine q_ifne (tgt := 73) cx ⟨by decide, by decide⟩ dX9_readNode_68 (by decide) (fun c688 => ?_) (fun c688 => ?_)
                    · exact absurd c688 (by omega)
                    · refine q_iconst cx dX9_readNode_71 ?_
                      refine W.widen (k := 0) (n := 0) (by decide) (by decide) ?_
                      refine vx_ret ?_
                      refine q_zret cx hr hlk hB dX9_readNode_72 (by decide) (by decide) ?_
                      exact (Or.inr ⟨rfl, (Eq.trans (tk_node_go (by have h7 := tk_ta_nn hta ex363; omega) (Eq.trans (Eq.symm ex379) t369) t387 t420 (Eq.trans (Eq.symm ex435) t425)) (tk_bd_er (tk_rest_e2 (tk_okx t444 ex452) t679) _)), g680⟩)
              · obtain ⟨qy437, t689, g690⟩ := h441
                have z691 : q_is (q_z f436 so 1) tn := Eq.trans (hF.z hso (by rw [kso]; rfl)) z427
                have z692 : q_is (q_z f436 dr 3) x363 := Eq.trans (hF.z hdr (by rw [kdr]; rfl)) z428
                have z693 : q_ir (q_r f436 so 0) ba := Eq.trans (hF.r hso (by rw [kso]; rfl)) z431
                have z694 : q_ir (q_r f436 dr 0) nds := Eq.trans (hF.r hdr (by rw [kdr]; rfl)) z432
                have g695 : tk_tb f436 ba B tn := tk_tb_tr g433 (fun i9 => hF.z hba (by rw [kba]; rfl))
                have g696 : tk_ta K L f436 rd dr nds tA (tk_has (tk_lk tA)) := tk_ta_tr g434 (hF.z hrd (by rw [krd]; rfl)) (hF.z hrd (by rw [krd]; rfl)) (hF.z hrd (by rw [krd]; rfl)) (hF.z hdr (by rw [kdr]; rfl)) (hF.z hdr (by rw [kdr]; rfl)) (fun a9 h9 k9 => hF.j h9 (by rw [k9]; rfl)) (fun a9 h9 k9 => hF.z h9 (by rw [k9]; rfl)) (fun i9 => hF.r hnds (by rw [knds]; rfl))
                subst qy437
                obtain ⟨x697, ex697⟩ : ∃ zz, q_is (q_z f436 so 8) zz := ⟨_, q_isr _⟩
                obtain ⟨lx697, ux697⟩ := q_isb ex697 (q_fib hB.2.1 hso kso (by decide) rfl)
                obtain ⟨-, l0x697, u0x697, -, -⟩ := tk_tc_n g690 ex697
                refine q_ifeq (tgt := 71) cx ⟨by decide, by decide⟩ dX9_readNode_58 (by decide) (fun c698 => ?_) (fun c698 => ?_)
                · refine q_iconst cx dX9_readNode_71 ?_
                  refine W.widen (k := 0) (n := 0) (by decide) (by decide) ?_
                  refine vx_ret ?_
                  refine q_zret cx hr hlk hB dX9_readNode_72 (by decide) (by decide) ?_
                  exact (Or.inr ⟨rfl, (Eq.trans (tk_node_go (by have h7 := tk_ta_nn hta ex363; omega) (Eq.trans (Eq.symm ex379) t369) t387 t420 (Eq.trans (Eq.symm ex435) t425)) (tk_bd_er (tk_rest_e1 t689) _)), g690⟩)
                · exact absurd c698 (by omega)
          · exact absurd c421 (by omega)
      · exact absurd c397 (by omega)
    · obtain ⟨qy381, z699, z700, t701, g702⟩ := h384
      have z703 : q_is (q_z f380 so 1) tn := Eq.trans (hF.z hso (by rw [kso]; rfl)) z371
      have z704 : q_is (q_z f380 dr 3) x363 := Eq.trans (hF.z hdr (by rw [kdr]; rfl)) z374
      have z705 : q_is (q_z f380 so 8) x379 := Eq.trans (hF.z hso (by rw [kso]; rfl)) ex379
      have z706 : q_ir (q_r f380 so 0) ba := Eq.trans (hF.r hso (by rw [kso]; rfl)) z375
      have z707 : q_ir (q_r f380 dr 0) nds := Eq.trans (hF.r hdr (by rw [kdr]; rfl)) z376
      have g708 : tk_tb f380 ba B tn := tk_tb_tr g377 (fun i9 => hF.z hba (by rw [kba]; rfl))
      have g709 : tk_ta K L f380 rd dr nds tA (tk_has (tk_lk tA)) := tk_ta_tr g378 (hF.z hrd (by rw [krd]; rfl)) (hF.z hrd (by rw [krd]; rfl)) (hF.z hrd (by rw [krd]; rfl)) (hF.z hdr (by rw [kdr]; rfl)) (hF.z hdr (by rw [kdr]; rfl)) (fun a9 h9 k9 => hF.j h9 (by rw [k9]; rfl)) (fun a9 h9 k9 => hF.z h9 (by rw [k9]; rfl)) (fun i9 => hF.r hnds (by rw [knds]; rfl))
      have g710 : tk_tc f380 so B tn := tk_tc_tr g370 (hF.z hso (by rw [kso]; rfl)) (hF.z hso (by rw [kso]; rfl)) (hF.z hso (by rw [kso]; rfl)) (hF.j hso (by rw [kso]; rfl)) (hF.z hso (by rw [kso]; rfl))
      subst qy381
      refine q_ifne (tgt := 28) cx ⟨by decide, by decide⟩ dX9_readNode_23 (by decide) (fun c711 => ?_) (fun c711 => ?_)
      · exact absurd c711 (by omega)
      · refine q_iconst cx dX9_readNode_26 ?_
        refine W.widen (k := 0) (n := 0) (by decide) (by decide) ?_
        refine vx_ret ?_
        refine q_zret cx hr hlk hB dX9_readNode_27 (by decide) (by decide) ?_
        exact (Or.inr ⟨rfl, (tk_node_e1 (by have h7 := tk_ta_nn hta ex363; omega) (Eq.trans (Eq.symm ex379) t369) t701 z699 z700), g702⟩)
  · refine q_ald_n cx dX9_readNode_9 rfl (lv_at hl 1 rfl) ?_
    refine q_iconst cx dX9_readNode_10 ?_
    refine q_cVi (As := [.int (q_i 5)]) (rest := []) cx hB (fun _ h => h) hN hso kso (by decide) rfl (f_fail l g hN hB.2.1 B so hso kso 5 (by decide) (by decide) ba hba kba tn (by omega) (by omega) ss (by omega) (by omega) hf0 hf1 hr0 htc htb) q_cX9_75 q_dX8_fail (by decide) rfl rfl hl.1 rfl (Nat.le_of_ble_eq_true rfl) dX9_readNode_11 (fun y713 H locs f712 ry713 h714 hF hB => ?_)
    obtain ⟨qy713, z715, z716⟩ := h714
    have z717 : q_is (q_z f712 so 1) tn := Eq.trans (hF.z hso (by rw [kso]; rfl)) hf0
    have z718 : q_is (q_z f712 so 8) ss := Eq.trans (hF.z hso (by rw [kso]; rfl)) hf1
    have z719 : q_is (q_z f712 dr 3) x363 := Eq.trans (hF.z hdr (by rw [kdr]; rfl)) ex363
    have z720 : q_ir (q_r f712 so 0) ba := Eq.trans (hF.r hso (by rw [kso]; rfl)) hr0
    have z721 : q_ir (q_r f712 dr 0) nds := Eq.trans (hF.r hdr (by rw [kdr]; rfl)) hr1
    have g722 : tk_tc f712 so B tn := tk_tc_tr htc (hF.z hso (by rw [kso]; rfl)) (hF.z hso (by rw [kso]; rfl)) (hF.z hso (by rw [kso]; rfl)) (hF.j hso (by rw [kso]; rfl)) (hF.z hso (by rw [kso]; rfl))
    have g723 : tk_tb f712 ba B tn := tk_tb_tr htb (fun i9 => hF.z hba (by rw [kba]; rfl))
    have g724 : tk_ta K L f712 rd dr nds tA (tk_has (tk_lk tA)) := tk_ta_tr hta (hF.z hrd (by rw [krd]; rfl)) (hF.z hrd (by rw [krd]; rfl)) (hF.z hrd (by rw [krd]; rfl)) (hF.z hdr (by rw [kdr]; rfl)) (hF.z hdr (by rw [kdr]; rfl)) (fun a9 h9 k9 => hF.j h9 (by rw [k9]; rfl)) (fun a9 h9 k9 => hF.z h9 (by rw [k9]; rfl)) (fun i9 => hF.r hnds (by rw [knds]; rfl))
    subst qy713
    refine W.widen (k := 0) (n := 0) (by decide) (by decide) ?_
    refine vx_ret ?_
    refine q_zret cx hr hlk hB dX9_readNode_14 (by decide) (by decide) ?_
    exact (Or.inr ⟨rfl, (tk_node_e5 (by have h7 := tk_ta_nn hta ex363; omega) z715 z716), g722⟩)
set_option maxHeartbeats 4000000 in
set_option maxRecDepth 100000 in
theorem f_readLink (l : Launch) (g : q_G) {K : Nat → Nat} {L : List Nat} (hN : L.Nodup) {f : Nat → va_E} (hT : q_Ty g K L f) (B : Nat → Int) (tA : tk_A) (rd : Nat) (hrd : rd ∈ L) (krd : K rd = 9) (so : Nat) (hso : so ∈ L) (kso : K so = 8) (dr : Nat) (hdr : dr ∈ L) (kdr : K dr = 13) (ba : Nat) (hba : ba ∈ L) (kba : K ba = 142) (nds : Nat) (hnds : nds ∈ L) (knds : K nds = 111) (tn : Int) (ltn : 0 ≤ tn) (utn : tn ≤ 600) (ss : Int) (lss : 0 ≤ ss) (uss : ss ≤ 600) (hf0 : q_is (q_z f so 1) tn) (hf1 : q_is (q_z f so 8) ss) (hf2 : q_is (q_z f so 2) 0) (hf3 : q_is (q_z f so 3) (-1)) (hr0 : q_ir (q_r f so 0) ba) (hr1 : q_ir (q_r f dr 0) nds) (htc : tk_tc f so B tn) (htb : tk_tb f ba B tn) (hta : tk_ta K L f rd dr nds tA (tk_has (tk_lk tA))) : q_Ct l g K L yX9_readLink cX9_readLink 5 (some .boolean) 3 66 [.ref rd, .ref so, .ref dr] f [(8, 2, 4), (8, 6, 9), (13, 4, 4), (17, 5, 5), (21, 0, 4)] (q_Pi (fun (z : Int) (f1 : Nat → va_E) => (z = 1 ∧ q_is (q_z f1 so 2) 0 ∧ q_is (q_z f1 so 3) (-1) ∧ (∃ A1 : tk_A, tk_link B tn ss tA = tk_ok (q_z f1 so 8, A1) ∧ tk_ta K L f1 rd dr nds A1 (tk_has (tk_lk A1))) ∧ (tk_tc f1 so B tn)) ∨ (z = 0 ∧ (tk_link B tn ss tA = tk_er (q_z f1 so 2) (q_z f1 so 3)) ∧ (tk_tc f1 so B tn)))) := by
  refine q_ofb (by decide +kernel) hN hT (Nat.le_of_ble_eq_true rfl) ?_
  intro p e s m below meth c ls cx hr hlk hB hl
  have hl : lv_has ls 5 [(0, .ref rd), (1, .ref so), (2, .ref dr)] := hl
  obtain ⟨H, hH⟩ : ∃ H : Heap, H = s.heap := ⟨_, rfl⟩
  obtain ⟨locs, hlocs⟩ : ∃ z : List Loc, z = [] := ⟨_, rfl⟩
  rw [← hH, ← hlocs] at hB
  rw [← hH, ← hlocs]
  refine q_ald_n cx dX9_readLink_0 rfl (lv_at hl 2 rfl) ?_
  obtain ⟨x187, ex187⟩ : ∃ zz, q_is (q_z f dr 4) zz := ⟨_, q_isr _⟩
  refine q_gX9_130_13 cx hB hdr kdr ex187 dX9_readLink_1 (fun lb188 ub188 => ?_)
  refine q_bipush cx dX9_readLink_4 rfl ?_
  refine q_iclt (tgt := 15) cx ⟨by omega, by omega⟩ ⟨by decide, by decide⟩ dX9_readLink_6 (by decide) (fun c189 => ?_) (fun c189 => ?_)
  · refine q_ald_n cx dX9_readLink_15 rfl (lv_at hl 1 rfl) ?_
    refine q_cVv (As := []) (rest := []) cx hB (fun _ h => h) hN hso kso (by decide) rfl (f_adv l g hN hB.2.1 B so hso kso ba hba kba tn (by omega) (by omega) ss (by omega) (by omega) hf0 hf1 hr0 htc htb) q_cX9_78 q_dX8_advance (by decide) rfl rfl hl.1 rfl (Nat.le_of_ble_eq_true rfl) dX9_readLink_16 (fun H locs f190 h192 hF hB => ?_)
    obtain ⟨t193, g194⟩ := h192
    have z195 : q_is (q_z f190 so 1) tn := Eq.trans (hF.z hso (by rw [kso]; rfl)) hf0
    have z196 : q_is (q_z f190 so 2) 0 := Eq.trans (hF.z hso (by rw [kso]; rfl)) hf2
    have z197 : q_is (q_z f190 so 3) (-1) := Eq.trans (hF.z hso (by rw [kso]; rfl)) hf3
    have z198 : q_is (q_z f190 dr 4) x187 := Eq.trans (hF.z hdr (by rw [kdr]; rfl)) ex187
    have z199 : q_ir (q_r f190 so 0) ba := Eq.trans (hF.r hso (by rw [kso]; rfl)) hr0
    have z200 : q_ir (q_r f190 dr 0) nds := Eq.trans (hF.r hdr (by rw [kdr]; rfl)) hr1
    have g201 : tk_tb f190 ba B tn := tk_tb_tr htb (fun i9 => hF.z hba (by rw [kba]; rfl))
    have g202 : tk_ta K L f190 rd dr nds tA (tk_has (tk_lk tA)) := tk_ta_tr hta (hF.z hrd (by rw [krd]; rfl)) (hF.z hrd (by rw [krd]; rfl)) (hF.z hrd (by rw [krd]; rfl)) (hF.z hdr (by rw [kdr]; rfl)) (hF.z hdr (by rw [kdr]; rfl)) (fun a9 h9 k9 => hF.j h9 (by rw [k9]; rfl)) (fun a9 h9 k9 => hF.z h9 (by rw [k9]; rfl)) (fun i9 => hF.r hnds (by rw [knds]; rfl))
    obtain ⟨x203, ex203⟩ : ∃ zz, q_is (q_z f190 so 8) zz := ⟨_, q_isr _⟩
    obtain ⟨lx203, ux203⟩ := q_isb ex203 (q_fib hB.2.1 hso kso (by decide) rfl)
    obtain ⟨-, l0x203, u0x203, -, -⟩ := tk_tc_n g194 ex203
    refine q_ald_n cx dX9_readLink_19 rfl (lv_at hl 1 rfl) ?_
    refine q_ald_n cx dX9_readLink_20 rfl (lv_at hl 2 rfl) ?_
    obtain ⟨x204, ex204⟩ : ∃ zz, q_is (q_z f190 dr 3) zz := ⟨_, q_isr _⟩
    obtain ⟨lx204, ux204⟩ := q_isb ex204 (q_fib hB.2.1 hdr kdr (by decide) rfl)
    refine q_cVi (As := [.ref dr]) (rest := []) cx hB (fun _ h => h) hN hso kso (by decide) rfl (f_expectNode l g hN hB.2.1 B tA so hso kso dr hdr kdr ba hba kba nds hnds knds rd hrd krd tn (by omega) (by omega) x203 (by omega) (by omega) x204 (by omega) (by omega) z195 ex203 z196 z197 ex204 z199 z200 g194 g201 g202) q_cX9_133 q_dX8_expectNode (by decide) rfl rfl hl.1 rfl (Nat.le_of_ble_eq_true rfl) dX9_readLink_21 (fun y206 H locs f205 ry206 h207 hF hB => ?_)
    rcases h207 with h208 | h209
    · obtain ⟨ly206, uy206, z210, z211, z212, t213, t214, g215⟩ := h208
      have z216 : q_is (q_z f205 so 1) tn := Eq.trans (hF.z hso (by rw [kso]; rfl)) z195
      have z217 : q_is (q_z f205 dr 4) x187 := Eq.trans (hF.z hdr (by rw [kdr]; rfl)) z198
      have z218 : q_is (q_z f205 so 8) x203 := Eq.trans (hF.z hso (by rw [kso]; rfl)) ex203
      have z219 : q_is (q_z f205 dr 3) x204 := Eq.trans (hF.z hdr (by rw [kdr]; rfl)) ex204
      have z220 : q_ir (q_r f205 so 0) ba := Eq.trans (hF.r hso (by rw [kso]; rfl)) z199
      have z221 : q_ir (q_r f205 dr 0) nds := Eq.trans (hF.r hdr (by rw [kdr]; rfl)) z200
      have g222 : tk_tb f205 ba B tn := tk_tb_tr g201 (fun i9 => hF.z hba (by rw [kba]; rfl))
      have g223 : tk_ta K L f205 rd dr nds tA (tk_has (tk_lk tA)) := tk_ta_tr g202 (hF.z hrd (by rw [krd]; rfl)) (hF.z hrd (by rw [krd]; rfl)) (hF.z hrd (by rw [krd]; rfl)) (hF.z hdr (by rw [kdr]; rfl)) (hF.z hdr (by rw [kdr]; rfl)) (fun a9 h9 k9 => hF.j h9 (by rw [k9]; rfl)) (fun a9 h9 k9 => hF.z h9 (by rw [k9]; rfl)) (fun i9 => hF.r hnds (by rw [knds]; rfl))
      have g224 : tk_tc f205 so B tn := tk_tc_tr g194 (hF.z hso (by rw [kso]; rfl)) (hF.z hso (by rw [kso]; rfl)) (hF.z hso (by rw [kso]; rfl)) (hF.j hso (by rw [kso]; rfl)) (hF.z hso (by rw [kso]; rfl))
      refine lv_istore_n (lv' := [(3, .int (q_i y206)), (0, .ref rd), (1, .ref so), (2, .ref dr)]) cx.1 cx.2.1 dX9_readLink_24 rfl hl (by decide) rfl (fun ls hl => ?_)
      refine q_ild_n cx dX9_readLink_25 rfl (lv_at hl 0 rfl) ?_
      refine q_iconst cx dX9_readLink_26 ?_
      refine q_icne (tgt := 32) cx ⟨by omega, by omega⟩ ⟨by decide, by decide⟩ dX9_readLink_27 (by decide) (fun c225 => ?_) (fun c225 => ?_)
      · refine q_ald_n cx dX9_readLink_32 rfl (lv_at hl 2 rfl) ?_
        refine q_cVv (As := []) (rest := []) cx hB (fun _ h => h) hN hso kso (by decide) rfl (f_adv l g hN hB.2.1 B so hso kso ba hba kba tn (by omega) (by omega) x203 (by omega) (by omega) z216 z212 z220 g215 g222) q_cX9_78 q_dX8_advance (by decide) rfl rfl hl.1 rfl (Nat.le_of_ble_eq_true rfl) dX9_readLink_33 (fun H locs f226 h228 hF hB => ?_)
        obtain ⟨t229, g230⟩ := h228
        have z231 : q_is (q_z f226 so 1) tn := Eq.trans (hF.z hso (by rw [kso]; rfl)) z216
        have z232 : q_is (q_z f226 dr 4) x187 := Eq.trans (hF.z hdr (by rw [kdr]; rfl)) z217
        have z233 : q_is (q_z f226 dr 3) x204 := Eq.trans (hF.z hdr (by rw [kdr]; rfl)) z219
        have z234 : q_is (q_z f226 so 2) 0 := Eq.trans (hF.z hso (by rw [kso]; rfl)) z210
        have z235 : q_is (q_z f226 so 3) (-1) := Eq.trans (hF.z hso (by rw [kso]; rfl)) z211
        have z236 : q_ir (q_r f226 so 0) ba := Eq.trans (hF.r hso (by rw [kso]; rfl)) z220
        have z237 : q_ir (q_r f226 dr 0) nds := Eq.trans (hF.r hdr (by rw [kdr]; rfl)) z221
        have g238 : tk_tb f226 ba B tn := tk_tb_tr g222 (fun i9 => hF.z hba (by rw [kba]; rfl))
        have g239 : tk_ta K L f226 rd dr nds tA (tk_has (tk_lk tA)) := tk_ta_tr g223 (hF.z hrd (by rw [krd]; rfl)) (hF.z hrd (by rw [krd]; rfl)) (hF.z hrd (by rw [krd]; rfl)) (hF.z hdr (by rw [kdr]; rfl)) (hF.z hdr (by rw [kdr]; rfl)) (fun a9 h9 k9 => hF.j h9 (by rw [k9]; rfl)) (fun a9 h9 k9 => hF.z h9 (by rw [k9]; rfl)) (fun i9 => hF.r hnds (by rw [knds]; rfl))
        obtain ⟨x240, ex240⟩ : ∃ zz, q_is (q_z f226 so 8) zz := ⟨_, q_isr _⟩
        obtain ⟨lx240, ux240⟩ := q_isb ex240 (q_fib hB.2.1 hso kso (by decide) rfl)
        obtain ⟨-, l0x240, u0x240, -, -⟩ := tk_tc_n g230 ex240
        refine q_ald_n cx dX9_readLink_36 rfl (lv_at hl 2 rfl) ?_
        refine q_ald_n cx dX9_readLink_37 rfl (lv_at hl 3 rfl) ?_
        refine q_cVi (As := [.ref dr]) (rest := []) cx hB (fun _ h => h) hN hso kso (by decide) rfl (f_expectNode l g hN hB.2.1 B tA so hso kso dr hdr kdr ba hba kba nds hnds knds rd hrd krd tn (by omega) (by omega) x240 (by omega) (by omega) x204 (by omega) (by omega) z231 ex240 z234 z235 z233 z236 z237 g230 g238 g239) q_cX9_133 q_dX8_expectNode (by decide) rfl rfl hl.1 rfl (Nat.le_of_ble_eq_true rfl) dX9_readLink_38 (fun y242 H locs f241 ry242 h243 hF hB => ?_)
        rcases h243 with h244 | h245
        · obtain ⟨ly242, uy242, z246, z247, z248, t249, t250, g251⟩ := h244
          have z252 : q_is (q_z f241 so 1) tn := Eq.trans (hF.z hso (by rw [kso]; rfl)) z231
          have z253 : q_is (q_z f241 dr 4) x187 := Eq.trans (hF.z hdr (by rw [kdr]; rfl)) z232
          have z254 : q_is (q_z f241 dr 3) x204 := Eq.trans (hF.z hdr (by rw [kdr]; rfl)) z233
          have z255 : q_is (q_z f241 so 8) x240 := Eq.trans (hF.z hso (by rw [kso]; rfl)) ex240
          have z256 : q_ir (q_r f241 so 0) ba := Eq.trans (hF.r hso (by rw [kso]; rfl)) z236
          have z257 : q_ir (q_r f241 dr 0) nds := Eq.trans (hF.r hdr (by rw [kdr]; rfl)) z237
          have g258 : tk_tb f241 ba B tn := tk_tb_tr g238 (fun i9 => hF.z hba (by rw [kba]; rfl))
          have g259 : tk_ta K L f241 rd dr nds tA (tk_has (tk_lk tA)) := tk_ta_tr g239 (hF.z hrd (by rw [krd]; rfl)) (hF.z hrd (by rw [krd]; rfl)) (hF.z hrd (by rw [krd]; rfl)) (hF.z hdr (by rw [kdr]; rfl)) (hF.z hdr (by rw [kdr]; rfl)) (fun a9 h9 k9 => hF.j h9 (by rw [k9]; rfl)) (fun a9 h9 k9 => hF.z h9 (by rw [k9]; rfl)) (fun i9 => hF.r hnds (by rw [knds]; rfl))
          have g260 : tk_tc f241 so B tn := tk_tc_tr g230 (hF.z hso (by rw [kso]; rfl)) (hF.z hso (by rw [kso]; rfl)) (hF.z hso (by rw [kso]; rfl)) (hF.j hso (by rw [kso]; rfl)) (hF.z hso (by rw [kso]; rfl))
          refine lv_istore (lv' := [(4, .int (q_i y242)), (3, .int (q_i y206)), (0, .ref rd), (1, .ref so), (2, .ref dr)]) cx.1 cx.2.1 dX9_readLink_41 hl (by decide) rfl (fun ls hl => ?_)
          refine lv_iload cx.1 cx.2.1 dX9_readLink_43 (lv_at hl 0 rfl) ?_
          refine q_iconst cx dX9_readLink_45 ?_
          refine q_icne (tgt := 51) cx ⟨by omega, by omega⟩ ⟨by decide, by decide⟩ dX9_readLink_46 (by decide) (fun c261 => ?_) (fun c261 => ?_)
          · refine lv_iload cx.1 cx.2.1 dX9_readLink_51 (lv_at hl 0 rfl) ?_
            refine q_ild_n cx dX9_readLink_53 rfl (lv_at hl 1 rfl) ?_
            refine q_iceq (tgt := 73) cx ⟨by omega, by omega⟩ ⟨by omega, by omega⟩ dX9_readLink_54 (by decide) (fun c262 => ?_) (fun c262 => ?_)
            · refine q_ald_n cx dX9_readLink_73 rfl (lv_at hl 3 rfl) ?_
              refine q_iconst cx dX9_readLink_74 ?_
              refine q_cVi (As := [.int (q_i 3)]) (rest := []) cx hB (fun _ h => h) hN hso kso (by decide) rfl (f_fail l g hN hB.2.1 B so hso kso 3 (by decide) (by decide) ba hba kba tn (by omega) (by omega) x240 (by omega) (by omega) z252 z248 z256 g251 g258) q_cX9_75 q_dX8_fail (by decide) rfl rfl hl.1 rfl (Nat.le_of_ble_eq_true rfl) dX9_readLink_75 (fun y264 H locs f263 ry264 h265 hF hB => ?_)
              obtain ⟨qy264, z266, z267⟩ := h265
              have z268 : q_is (q_z f263 so 1) tn := Eq.trans (hF.z hso (by rw [kso]; rfl)) z252
              have z269 : q_is (q_z f263 dr 4) x187 := Eq.trans (hF.z hdr (by rw [kdr]; rfl)) z253
              have z270 : q_is (q_z f263 dr 3) x204 := Eq.trans (hF.z hdr (by rw [kdr]; rfl)) z254
              have z271 : q_is (q_z f263 so 8) x240 := Eq.trans (hF.z hso (by rw [kso]; rfl)) z248
              have z272 : q_ir (q_r f263 so 0) ba := Eq.trans (hF.r hso (by rw [kso]; rfl)) z256
              have z273 : q_ir (q_r f263 dr 0) nds := Eq.trans (hF.r hdr (by rw [kdr]; rfl)) z257
              have g274 : tk_tb f263 ba B tn := tk_tb_tr g258 (fun i9 => hF.z hba (by rw [kba]; rfl))
              have g275 : tk_ta K L f263 rd dr nds tA (tk_has (tk_lk tA)) := tk_ta_tr g259 (hF.z hrd (by rw [krd]; rfl)) (hF.z hrd (by rw [krd]; rfl)) (hF.z hrd (by rw [krd]; rfl)) (hF.z hdr (by rw [kdr]; rfl)) (hF.z hdr (by rw [kdr]; rfl)) (fun a9 h9 k9 => hF.j h9 (by rw [k9]; rfl)) (fun a9 h9 k9 => hF.z h9 (by rw [k9]; rfl)) (fun i9 => hF.r hnds (by rw [knds]; rfl))
              have g276 : tk_tc f263 so B tn := tk_tc_tr g251 (hF.z hso (by rw [kso]; rfl)) (hF.z hso (by rw [kso]; rfl)) (hF.z hso (by rw [kso]; rfl)) (hF.j hso (by rw [kso]; rfl)) (hF.z hso (by rw [kso]; rfl))
              subst qy264
              refine q_zret cx hr hlk hB dX9_readLink_78 (by decide) (by decide) ?_
              exact (Or.inr ⟨rfl, (tk_link_e3 (by have h7 := tk_ta_nl hta ex187; omega) (Eq.trans (Eq.symm ex203) t193) t213 (Eq.trans (Eq.symm ex240) t229) t249 (Or.inl (by omega)) z266 z267), g276⟩)
            · refine q_ald_n cx dX9_readLink_57 rfl (lv_at hl 4 rfl) ?_
              refine q_ild_n cx dX9_readLink_58 rfl (lv_at hl 1 rfl) ?_
              refine q_cVr (As := [.int (q_i y206)]) (rest := []) cx hB (fun _ h => h) hN hdr kdr (by decide) rfl (f_nodeAt l g hN hB.2.1 dr hdr kdr y206 (by omega) (by omega) nds hnds knds z257) q_cX9_137 q_dX10_nodeAt (by decide) rfl rfl hl.1 rfl (Nat.le_of_ble_eq_true rfl) dX9_readLink_59 (fun y278 H locs f277 h279 hF hB => ?_)
              obtain ⟨rfl, hy278, ky278, t280⟩ := h279
              obtain ⟨x281, ex281⟩ : ∃ zz, q_is (q_z f241 y278 5) zz := ⟨_, q_isr _⟩
              refine q_gX9_141_17 cx hB hy278 ky278 ex281 dX9_readLink_62 (fun lb282 ub282 => ?_)
              refine lv_iload cx.1 cx.2.1 dX9_readLink_65 (lv_at hl 0 rfl) ?_
              refine q_cSi (As := [.int (q_i x281), .int (q_i y242)]) (rest := []) cx hB (fun _ h => h) hN (f_has l g hN hB.2.1 x281 (by omega) (by omega) y242 (by omega) (by omega)) q_cX9_146 q_dX10_has (by decide) rfl rfl hl.1 rfl (Nat.le_of_ble_eq_true rfl) dX9_readLink_67 (fun y284 H locs f283 ry284 h285 hF hB => ?_)
              rcases h285 with h286 | h287
              · obtain ⟨rfl, qy284, t288⟩ := h286
                subst qy284
                refine q_ifeq (tgt := 79) cx ⟨by decide, by decide⟩ dX9_readLink_70 (by decide) (fun c289 => ?_) (fun c289 => ?_)
                · exact absurd c289 (by omega)
                · refine q_ald_n cx dX9_readLink_73 rfl (lv_at hl 3 rfl) ?_
                  refine q_iconst cx dX9_readLink_74 ?_
                  refine q_cVi (As := [.int (q_i 3)]) (rest := []) cx hB (fun _ h => h) hN hso kso (by decide) rfl (f_fail l g hN hB.2.1 B so hso kso 3 (by decide) (by decide) ba hba kba tn (by omega) (by omega) x240 (by omega) (by omega) z252 z248 z256 g251 g258) q_cX9_75 q_dX8_fail (by decide) rfl rfl hl.1 rfl (Nat.le_of_ble_eq_true rfl) dX9_readLink_75 (fun y291 H locs f290 ry291 h292 hF hB => ?_)
                  obtain ⟨qy291, z293, z294⟩ := h292
                  have z295 : q_is (q_z f290 so 1) tn := Eq.trans (hF.z hso (by rw [kso]; rfl)) z252
                  have z296 : q_is (q_z f290 dr 4) x187 := Eq.trans (hF.z hdr (by rw [kdr]; rfl)) z253
                  have z297 : q_is (q_z f290 dr 3) x204 := Eq.trans (hF.z hdr (by rw [kdr]; rfl)) z254
                  have z298 : q_is (q_z f290 so 8) x240 := Eq.trans (hF.z hso (by rw [kso]; rfl)) z248
                  have z299 : q_is (q_z f290 y278 5) x281 := Eq.trans (hF.z hy278 (by rw [ky278]; rfl)) ex281
                  have z300 : q_ir (q_r f290 so 0) ba := Eq.trans (hF.r hso (by rw [kso]; rfl)) z256
                  have z301 : q_ir (q_r f290 dr 0) nds := Eq.trans (hF.r hdr (by rw [kdr]; rfl)) z257
                  have g302 : tk_tb f290 ba B tn := tk_tb_tr g258 (fun i9 => hF.z hba (by rw [kba]; rfl))
                  have g303 : tk_ta K L f290 rd dr nds tA (tk_has (tk_lk tA)) := tk_ta_tr g259 (hF.z hrd (by rw [krd]; rfl)) (hF.z hrd (by rw [krd]; rfl)) (hF.z hrd (by rw [krd]; rfl)) (hF.z hdr (by rw [kdr]; rfl)) (hF.z hdr (by rw [kdr]; rfl)) (fun a9 h9 k9 => hF.j h9 (by rw [k9]; rfl)) (fun a9 h9 k9 => hF.z h9 (by rw [k9]; rfl)) (fun i9 => hF.r hnds (by rw [knds]; rfl))
                  have g304 : tk_tc f290 so B tn := tk_tc_tr g251 (hF.z hso (by rw [kso]; rfl)) (hF.z hso (by rw [kso]; rfl)) (hF.z hso (by rw [kso]; rfl)) (hF.j hso (by rw [kso]; rfl)) (hF.z hso (by rw [kso]; rfl))
                  subst qy291
                  refine q_zret cx hr hlk hB dX9_readLink_78 (by decide) (by decide) ?_
                  exact (Or.inr ⟨rfl, (tk_link_e3 (by have h7 := tk_ta_nl hta ex187; omega) (Eq.trans (Eq.symm ex203) t193) t213 (Eq.trans (Eq.symm ex240) t229) t249 (Or.inr (tk_ta_has g259 t280 (by have h7 := tk_ta_nn g259 z254; omega) (by omega) ex281 t288)) z293 z294), g304⟩)
              · obtain ⟨rfl, qy284, t305⟩ := h287
                subst qy284
                refine q_ifeq (tgt := 79) cx ⟨by decide, by decide⟩ dX9_readLink_70 (by decide) (fun c306 => ?_) (fun c306 => ?_)
                · refine q_ald_n cx dX9_readLink_79 rfl (lv_at hl 3 rfl) ?_
                  refine q_cVv (As := []) (rest := []) cx hB (fun _ h => h) hN hso kso (by decide) rfl (f_adv l g hN hB.2.1 B so hso kso ba hba kba tn (by omega) (by omega) x240 (by omega) (by omega) z252 z248 z256 g251 g258) q_cX9_78 q_dX8_advance (by decide) rfl rfl hl.1 rfl (Nat.le_of_ble_eq_true rfl) dX9_readLink_80 (fun H locs f307 h309 hF hB => ?_)
                  obtain ⟨t310, g311⟩ := h309
                  have z312 : q_is (q_z f307 so 1) tn := Eq.trans (hF.z hso (by rw [kso]; rfl)) z252
                  have z313 : q_is (q_z f307 dr 4) x187 := Eq.trans (hF.z hdr (by rw [kdr]; rfl)) z253
                  have z314 : q_is (q_z f307 dr 3) x204 := Eq.trans (hF.z hdr (by rw [kdr]; rfl)) z254
                  have z315 : q_is (q_z f307 so 2) 0 := Eq.trans (hF.z hso (by rw [kso]; rfl)) z246
                  have z316 : q_is (q_z f307 so 3) (-1) := Eq.trans (hF.z hso (by rw [kso]; rfl)) z247
                  have z317 : q_is (q_z f307 y278 5) x281 := Eq.trans (hF.z hy278 (by rw [ky278]; rfl)) ex281
                  have z318 : q_ir (q_r f307 so 0) ba := Eq.trans (hF.r hso (by rw [kso]; rfl)) z256
                  have z319 : q_ir (q_r f307 dr 0) nds := Eq.trans (hF.r hdr (by rw [kdr]; rfl)) z257
                  have g320 : tk_tb f307 ba B tn := tk_tb_tr g258 (fun i9 => hF.z hba (by rw [kba]; rfl))
                  have g321 : tk_ta K L f307 rd dr nds tA (tk_has (tk_lk tA)) := tk_ta_tr g259 (hF.z hrd (by rw [krd]; rfl)) (hF.z hrd (by rw [krd]; rfl)) (hF.z hrd (by rw [krd]; rfl)) (hF.z hdr (by rw [kdr]; rfl)) (hF.z hdr (by rw [kdr]; rfl)) (fun a9 h9 k9 => hF.j h9 (by rw [k9]; rfl)) (fun a9 h9 k9 => hF.z h9 (by rw [k9]; rfl)) (fun i9 => hF.r hnds (by rw [knds]; rfl))
                  obtain ⟨x322, ex322⟩ : ∃ zz, q_is (q_z f307 so 8) zz := ⟨_, q_isr _⟩
                  obtain ⟨lx322, ux322⟩ := q_isb ex322 (q_fib hB.2.1 hso kso (by decide) rfl)
                  obtain ⟨-, l0x322, u0x322, -, -⟩ := tk_tc_n g311 ex322
                  refine q_ald_n cx dX9_readLink_83 rfl (lv_at hl 4 rfl) ?_
                  refine q_ild_n cx dX9_readLink_84 rfl (lv_at hl 1 rfl) ?_
                  refine lv_iload cx.1 cx.2.1 dX9_readLink_85 (lv_at hl 0 rfl) ?_
                  refine q_cVv (As := [.int (q_i y206), .int (q_i y242)]) (rest := []) cx hB (fun _ h => h) hN hdr kdr (by decide) rfl (f_addLink l g hN hB.2.1 tA dr hdr kdr y206 (by omega) (by omega) y242 (by omega) (by omega) nds hnds knds rd hrd krd x187 (by omega) (by omega) z313 z319 (by have h7 := tk_ta_nn g321 z314; omega) (by have h7 := tk_ta_nn g321 z314; omega) g321) q_cX9_149 q_dX10_addLink (by decide) rfl rfl hl.1 rfl (Nat.le_of_ble_eq_true rfl) dX9_readLink_87 (fun H locs f323 h325 hF hB => ?_)
                  have t326 := h325
                  have z327 : q_is (q_z f323 so 1) tn := Eq.trans (hF.z hso (by rw [kso]; rfl)) z312
                  have z328 : q_is (q_z f323 dr 3) x204 := Eq.trans (hF.z hdr (by rw [kdr]; rfl)) z314
                  have z329 : q_is (q_z f323 so 2) 0 := Eq.trans (hF.z hso (by rw [kso]; rfl)) z315
                  have z330 : q_is (q_z f323 so 3) (-1) := Eq.trans (hF.z hso (by rw [kso]; rfl)) z316
                  have z331 : q_is (q_z f323 so 8) x322 := Eq.trans (hF.z hso (by rw [kso]; rfl)) ex322
                  have z332 : q_ir (q_r f323 so 0) ba := Eq.trans (hF.r hso (by rw [kso]; rfl)) z318
                  have z333 : q_ir (q_r f323 dr 0) nds := Eq.trans (hF.r hdr (by rw [kdr]; rfl)) z319
                  have g334 : tk_tb f323 ba B tn := tk_tb_tr g320 (fun i9 => hF.z hba (by rw [kba]; rfl))
                  have g335 : tk_tc f323 so B tn := tk_tc_tr g311 (hF.z hso (by rw [kso]; rfl)) (hF.z hso (by rw [kso]; rfl)) (hF.z hso (by rw [kso]; rfl)) (hF.j hso (by rw [kso]; rfl)) (hF.z hso (by rw [kso]; rfl))
                  refine q_iconst cx dX9_readLink_90 ?_
                  refine q_zret cx hr hlk hB dX9_readLink_91 (by decide) (by decide) ?_
                  exact (Or.inl ⟨rfl, z329, z330, ⟨(tk_al tA (Int.toNat y206) (Int.toNat y242)), tk_okp (tk_link_ok (by have h7 := tk_ta_nl hta ex187; omega) (Eq.trans (Eq.symm ex203) t193) t213 (Eq.trans (Eq.symm ex240) t229) t249 (tk_nor (by omega) (tk_ta_has g259 t280 (by have h7 := tk_ta_nn g259 z254; omega) (by omega) ex281 t305)) (Eq.trans (Eq.symm ex322) t310)) z331, t326⟩, g335⟩)
                · exact absurd c306 (by omega)
          · exact absurd c261 (by omega)
        · obtain ⟨qy242, t336, g337⟩ := h245
          have z338 : q_is (q_z f241 so 1) tn := Eq.trans (hF.z hso (by rw [kso]; rfl)) z231
          have z339 : q_is (q_z f241 dr 4) x187 := Eq.trans (hF.z hdr (by rw [kdr]; rfl)) z232
          have z340 : q_is (q_z f241 dr 3) x204 := Eq.trans (hF.z hdr (by rw [kdr]; rfl)) z233
          have z341 : q_is (q_z f241 so 8) x240 := Eq.trans (hF.z hso (by rw [kso]; rfl)) ex240
          have z342 : q_ir (q_r f241 so 0) ba := Eq.trans (hF.r hso (by rw [kso]; rfl)) z236
          have z343 : q_ir (q_r f241 dr 0) nds := Eq.trans (hF.r hdr (by rw [kdr]; rfl)) z237
          have g344 : tk_tb f241 ba B tn := tk_tb_tr g238 (fun i9 => hF.z hba (by rw [kba]; rfl))
          have g345 : tk_ta K L f241 rd dr nds tA (tk_has (tk_lk tA)) := tk_ta_tr g239 (hF.z hrd (by rw [krd]; rfl)) (hF.z hrd (by rw [krd]; rfl)) (hF.z hrd (by rw [krd]; rfl)) (hF.z hdr (by rw [kdr]; rfl)) (hF.z hdr (by rw [kdr]; rfl)) (fun a9 h9 k9 => hF.j h9 (by rw [k9]; rfl)) (fun a9 h9 k9 => hF.z h9 (by rw [k9]; rfl)) (fun i9 => hF.r hnds (by rw [knds]; rfl))
          have g346 : tk_tc f241 so B tn := tk_tc_tr g230 (hF.z hso (by rw [kso]; rfl)) (hF.z hso (by rw [kso]; rfl)) (hF.z hso (by rw [kso]; rfl)) (hF.j hso (by rw [kso]; rfl)) (hF.z hso (by rw [kso]; rfl))
          subst qy242
          refine lv_istore (lv' := [(4, .int (q_i (-1))), (3, .int (q_i y206)), (0, .ref rd), (1, .ref so), (2, .ref dr)]) cx.1 cx.2.1 dX9_readLink_41 hl (by decide) rfl (fun ls hl => ?_)
          refine lv_iload cx.1 cx.2.1 dX9_readLink_43 (lv_at hl 0 rfl) ?_
          refine q_iconst cx dX9_readLink_45 ?_
          refine q_icne (tgt := 51) cx ⟨by decide, by decide⟩ ⟨by decide, by decide⟩ dX9_readLink_46 (by decide) (fun c347 => ?_) (fun c347 => ?_)
          · exact absurd c347 (by omega)
          · refine q_iconst cx dX9_readLink_49 ?_
            refine q_zret cx hr hlk hB dX9_readLink_50 (by decide) (by decide) ?_
            exact (Or.inr ⟨rfl, (tk_link_e2 (by have h7 := tk_ta_nl hta ex187; omega) (Eq.trans (Eq.symm ex203) t193) t213 (Eq.trans (Eq.symm ex240) t229) t336), g337⟩)
      · exact absurd c225 (by omega)
    · obtain ⟨qy206, t348, g349⟩ := h209
      have z350 : q_is (q_z f205 so 1) tn := Eq.trans (hF.z hso (by rw [kso]; rfl)) z195
      have z351 : q_is (q_z f205 dr 4) x187 := Eq.trans (hF.z hdr (by rw [kdr]; rfl)) z198
      have z352 : q_is (q_z f205 so 8) x203 := Eq.trans (hF.z hso (by rw [kso]; rfl)) ex203
      have z353 : q_is (q_z f205 dr 3) x204 := Eq.trans (hF.z hdr (by rw [kdr]; rfl)) ex204
      have z354 : q_ir (q_r f205 so 0) ba := Eq.trans (hF.r hso (by rw [kso]; rfl)) z199
      have z355 : q_ir (q_r f205 dr 0) nds := Eq.trans (hF.r hdr (by rw [kdr]; rfl)) z200
      have g356 : tk_tb f205 ba B tn := tk_tb_tr g201 (fun i9 => hF.z hba (by rw [kba]; rfl))
      have g357 : tk_ta K L f205 rd dr nds tA (tk_has (tk_lk tA)) := tk_ta_tr g202 (hF.z hrd (by rw [krd]; rfl)) (hF.z hrd (by rw [krd]; rfl)) (hF.z hrd (by rw [krd]; rfl)) (hF.z hdr (by rw [kdr]; rfl)) (hF.z hdr (by rw [kdr]; rfl)) (fun a9 h9 k9 => hF.j h9 (by rw [k9]; rfl)) (fun a9 h9 k9 => hF.z h9 (by rw [k9]; rfl)) (fun i9 => hF.r hnds (by rw [knds]; rfl))
      have g358 : tk_tc f205 so B tn := tk_tc_tr g194 (hF.z hso (by rw [kso]; rfl)) (hF.z hso (by rw [kso]; rfl)) (hF.z hso (by rw [kso]; rfl)) (hF.j hso (by rw [kso]; rfl)) (hF.z hso (by rw [kso]; rfl))
      subst qy206
      refine lv_istore_n (lv' := [(3, .int (q_i (-1))), (0, .ref rd), (1, .ref so), (2, .ref dr)]) cx.1 cx.2.1 dX9_readLink_24 rfl hl (by decide) rfl (fun ls hl => ?_)
      refine q_ild_n cx dX9_readLink_25 rfl (lv_at hl 0 rfl) ?_
      refine q_iconst cx dX9_readLink_26 ?_
      refine q_icne (tgt := 32) cx ⟨by decide, by decide⟩ ⟨by decide, by decide⟩ dX9_readLink_27 (by decide) (fun c359 => ?_) (fun c359 => ?_)
      · exact absurd c359 (by omega)
      · refine q_iconst cx dX9_readLink_30 ?_
        refine q_zret cx hr hlk hB dX9_readLink_31 (by decide) (by decide) ?_
        exact (Or.inr ⟨rfl, (tk_link_e1 (by have h7 := tk_ta_nl hta ex187; omega) (Eq.trans (Eq.symm ex203) t193) t348), g349⟩)
  · refine q_ald_n cx dX9_readLink_9 rfl (lv_at hl 1 rfl) ?_
    refine q_iconst cx dX9_readLink_10 ?_
    refine q_cVi (As := [.int (q_i 5)]) (rest := []) cx hB (fun _ h => h) hN hso kso (by decide) rfl (f_fail l g hN hB.2.1 B so hso kso 5 (by decide) (by decide) ba hba kba tn (by omega) (by omega) ss (by omega) (by omega) hf0 hf1 hr0 htc htb) q_cX9_75 q_dX8_fail (by decide) rfl rfl hl.1 rfl (Nat.le_of_ble_eq_true rfl) dX9_readLink_11 (fun y361 H locs f360 ry361 h362 hF hB => ?_)
    obtain ⟨qy361, z363, z364⟩ := h362
    have z365 : q_is (q_z f360 so 1) tn := Eq.trans (hF.z hso (by rw [kso]; rfl)) hf0
    have z366 : q_is (q_z f360 so 8) ss := Eq.trans (hF.z hso (by rw [kso]; rfl)) hf1
    have z367 : q_is (q_z f360 dr 4) x187 := Eq.trans (hF.z hdr (by rw [kdr]; rfl)) ex187
    have z368 : q_ir (q_r f360 so 0) ba := Eq.trans (hF.r hso (by rw [kso]; rfl)) hr0
    have z369 : q_ir (q_r f360 dr 0) nds := Eq.trans (hF.r hdr (by rw [kdr]; rfl)) hr1
    have g370 : tk_tc f360 so B tn := tk_tc_tr htc (hF.z hso (by rw [kso]; rfl)) (hF.z hso (by rw [kso]; rfl)) (hF.z hso (by rw [kso]; rfl)) (hF.j hso (by rw [kso]; rfl)) (hF.z hso (by rw [kso]; rfl))
    have g371 : tk_tb f360 ba B tn := tk_tb_tr htb (fun i9 => hF.z hba (by rw [kba]; rfl))
    have g372 : tk_ta K L f360 rd dr nds tA (tk_has (tk_lk tA)) := tk_ta_tr hta (hF.z hrd (by rw [krd]; rfl)) (hF.z hrd (by rw [krd]; rfl)) (hF.z hrd (by rw [krd]; rfl)) (hF.z hdr (by rw [kdr]; rfl)) (hF.z hdr (by rw [kdr]; rfl)) (fun a9 h9 k9 => hF.j h9 (by rw [k9]; rfl)) (fun a9 h9 k9 => hF.z h9 (by rw [k9]; rfl)) (fun i9 => hF.r hnds (by rw [knds]; rfl))
    subst qy361
    refine q_zret cx hr hlk hB dX9_readLink_14 (by decide) (by decide) ?_
    exact (Or.inr ⟨rfl, (tk_link_e5 (by have h7 := tk_ta_nl hta ex187; omega) z363 z364), g370⟩)
