set_option maxHeartbeats 4000000 in
set_option maxRecDepth 100000 in
theorem r_readsNode0 (l : Launch) (g : q_G) {K : Nat → Nat} {L : List Nat} (hN : L.Nodup) {f : Nat → va_E} (hT : q_Ty g K L f) (mo : Nat) (hmo : mo ∈ L) (kmo : K mo = 12) (sr : Nat) (hsr : sr ∈ L) (ksr : K sr = 151) (nm : Nat) (hnm : nm ∈ L) (knm : K nm = 156) (bu : Nat) (hbu : bu ∈ L) (kbu : K bu = 150) (xp : Int) (lxp : 0 ≤ xp) (uxp : xp ≤ 600) (hf0 : q_is (q_z f mo 8) 0) (hf1 : q_is (q_z f mo 4) xp) (hr0 : q_ir (q_r f mo 13) sr) (hr1 : q_ir (q_r f mo 18) nm) (hr2 : q_ir (q_r f mo 1) bu) (hgr : q_gr f sr) : q_Ct l g K L yX12_readsNode cX12_readsNode 3 none 4 94 [.ref mo] f [(12, 4, 9), (12, 12, 12), (151, 0, 0), (151, 10, 89), (156, 0, 9)] (q_Pv (fun (f1 : Nat → va_E) => (q_is (q_z f1 mo 8) 0 ∧ (xp ≤ q_z f1 mo 4) ∧ (k_po (q_z f1 mo 6) (q_z f1 mo 4) xp) ∧ q_gr f1 sr) ∨ (1 ≤ q_z f1 mo 8 ∧ q_z f1 mo 8 ≤ 5))) := by
  refine q_ofb (by decide +kernel) hN hT (Nat.le_of_ble_eq_true rfl) ?_
  intro p e s m below meth c ls cx hr hlk hB hl
  have hl : lv_has ls 3 [(0, .ref mo)] := hl
  obtain ⟨H, hH⟩ : ∃ H : Heap, H = s.heap := ⟨_, rfl⟩
  obtain ⟨locs, hlocs⟩ : ∃ z : List Loc, z = [] := ⟨_, rfl⟩
  rw [← hH, ← hlocs] at hB
  rw [← hH, ← hlocs]
  refine q_ald_n cx dX12_readsNode_0 rfl (lv_at hl 0 rfl) ?_
  refine q_gX12_20 cx hB hmo kmo hr0 dX12_readsNode_1 (fun hb476 kb476 => ?_)
  refine q_iconst cx dX12_readsNode_4 ?_
  obtain ⟨x477, ex477⟩ : ∃ zz, q_is (q_z f sr (Int.toNat 0)) zz := ⟨_, q_isr _⟩
  refine q_iald (lo := 0) (hi := 10) (n := 658) cx hB hsr ksr (by decide) rfl rfl (by decide) (by decide) (by decide) rfl ex477 dX12_readsNode_5 (fun lb478 ub478 => ?_)
  refine lv_istore_n (lv' := [(1, .int (q_i x477)), (0, .ref mo)]) cx.1 cx.2.1 dX12_readsNode_6 rfl hl (by decide) rfl (fun ls hl => ?_)
  refine q_ild_n cx dX12_readsNode_7 rfl (lv_at hl 0 rfl) ?_
  refine q_bipush cx dX12_readsNode_8 rfl ?_
  refine q_icne (tgt := 18) cx ⟨by omega, by omega⟩ ⟨by decide, by decide⟩ dX12_readsNode_10 (by decide) (fun c479 => ?_) (fun c479 => ?_)
  · refine q_ald_n cx dX12_readsNode_18 rfl (lv_at hl 1 rfl) ?_
    refine q_cVi (As := []) (rest := []) cx hB (fun _ h => h) hN hmo kmo (by decide) rfl (r_isGood0 l g hN hB.2.1 mo hmo kmo hf0) q_cX12_130 q_dX12_isGood (by decide) rfl rfl hl.1 rfl (Nat.le_of_ble_eq_true rfl) dX12_readsNode_19 (fun y481 H locs f480 ry481 h482 hF hB => ?_)
    obtain ⟨rfl, qy481⟩ := h482
    subst qy481
    refine q_ifeq (tgt := 29) cx ⟨by decide, by decide⟩ dX12_readsNode_22 (by decide) (fun c483 => ?_) (fun c483 => ?_)
    · exact absurd c483 (by omega)
    · refine q_ald_n cx dX12_readsNode_25 rfl (lv_at hl 1 rfl) ?_
      obtain ⟨x484, ex484⟩ : ∃ zz, q_is (q_z f mo 3) zz := ⟨_, q_isr _⟩
      obtain ⟨lx484, ux484⟩ := q_isb ex484 (q_fib hB.2.1 hmo kmo (by decide) rfl)
      refine q_cVv (As := []) (rest := []) cx hB (fun _ h => h) hN hmo kmo (by decide) rfl (r_goOn l g hN hB.2.1 mo hmo kmo bu hbu kbu xp (by omega) (by omega) x484 (by omega) (by omega) hf1 ex484 hr2) q_cX12_140 q_dX12_goOn (by decide) rfl rfl hl.1 rfl (Nat.le_of_ble_eq_true rfl) dX12_readsNode_26 (fun H locs f485 h487 hF hB => ?_)
      obtain ⟨t488, t489⟩ := h487
      have z490 : q_is (q_z f485 mo 8) 0 := Eq.trans (hF.z hmo (by rw [kmo]; rfl)) hf0
      have z491 : q_is (q_z f485 sr 0) x477 := Eq.trans (hF.z hsr (by rw [ksr]; rfl)) ex477
      have z492 : q_is (q_z f485 mo 3) x484 := Eq.trans (hF.z hmo (by rw [kmo]; rfl)) ex484
      have z493 : q_ir (q_r f485 mo 13) sr := Eq.trans (hF.r hmo (by rw [kmo]; rfl)) hr0
      have z494 : q_ir (q_r f485 mo 18) nm := Eq.trans (hF.r hmo (by rw [kmo]; rfl)) hr1
      have z495 : q_ir (q_r f485 mo 1) bu := Eq.trans (hF.r hmo (by rw [kmo]; rfl)) hr2
      have g496 : q_gr f485 sr := q_gr_fr hgr (fun i9 _ => hF.z hsr (by rw [ksr]; rfl))
      obtain ⟨x497, ex497⟩ : ∃ zz, q_is (q_z f485 mo 4) zz := ⟨_, q_isr _⟩
      obtain ⟨lx497, ux497⟩ := q_isb ex497 (q_fib hB.2.1 hmo kmo (by decide) rfl)
      obtain ⟨x498, ex498⟩ : ∃ zz, q_is (q_z f485 mo 6) zz := ⟨_, q_isr _⟩
      obtain ⟨lx498, ux498⟩ := q_isb ex498 (q_fib hB.2.1 hmo kmo (by decide) rfl)
      replace t488 := q_isl9 ex497 t488
      replace t489 := k_po_si ex498 ex497 t489
      refine q_ald_n cx dX12_readsNode_29 rfl (lv_at hl 1 rfl) ?_
      refine q_cVv (As := []) (rest := []) cx hB (fun _ h => h) hN hmo kmo (by decide) rfl (r_mustBeWord0 l g hN hB.2.1 mo hmo kmo z490) q_cX12_175 q_dX12_mustBeWord (by decide) rfl rfl hl.1 rfl (Nat.le_of_ble_eq_true rfl) dX12_readsNode_30 (fun H locs f499 h501 hF hB => ?_)
      rcases h501 with h502 | h503
      · have z504 := h502
        have z505 : q_is (q_z f499 sr 0) x477 := Eq.trans (hF.z hsr (by rw [ksr]; rfl)) z491
        have z506 : q_is (q_z f499 mo 3) x484 := Eq.trans (hF.z hmo (by rw [kmo]; rfl)) z492
        have z507 : q_is (q_z f499 mo 4) x497 := Eq.trans (hF.z hmo (by rw [kmo]; rfl)) ex497
        have z508 : q_is (q_z f499 mo 6) x498 := Eq.trans (hF.z hmo (by rw [kmo]; rfl)) ex498
        have z509 : q_ir (q_r f499 mo 13) sr := Eq.trans (hF.r hmo (by rw [kmo]; rfl)) z493
        have z510 : q_ir (q_r f499 mo 18) nm := Eq.trans (hF.r hmo (by rw [kmo]; rfl)) z494
        have z511 : q_ir (q_r f499 mo 1) bu := Eq.trans (hF.r hmo (by rw [kmo]; rfl)) z495
        have g512 : q_gr f499 sr := q_gr_fr g496 (fun i9 _ => hF.z hsr (by rw [ksr]; rfl))
        refine q_ald_n cx dX12_readsNode_33 rfl (lv_at hl 1 rfl) ?_
        refine q_cVi (As := []) (rest := []) cx hB (fun _ h => h) hN hmo kmo (by decide) rfl (r_isGood0 l g hN hB.2.1 mo hmo kmo z504) q_cX12_130 q_dX12_isGood (by decide) rfl rfl hl.1 rfl (Nat.le_of_ble_eq_true rfl) dX12_readsNode_34 (fun y514 H locs f513 ry514 h515 hF hB => ?_)
        obtain ⟨rfl, qy514⟩ := h515
        subst qy514
        refine q_ifeq (tgt := 53) cx ⟨by decide, by decide⟩ dX12_readsNode_37 (by decide) (fun c516 => ?_) (fun c516 => ?_)
        · exact absurd c516 (by omega)
        · refine q_ald_n cx dX12_readsNode_40 rfl (lv_at hl 1 rfl) ?_
          refine q_cVi (As := []) (rest := []) cx hB (fun _ h => h) hN hmo kmo (by decide) rfl (r_named l g hN hB.2.1 mo hmo kmo sr hsr ksr nm hnm knm z509 z510) q_cX12_178 q_dX12_named (by decide) rfl rfl hl.1 rfl (Nat.le_of_ble_eq_true rfl) dX12_readsNode_41 (fun y518 H locs f517 ry518 h519 hF hB => ?_)
          obtain ⟨rfl, ly518, uy518⟩ := h519
          refine q_iconst cx dX12_readsNode_44 ?_
          refine q_iceq (tgt := 53) cx ⟨by omega, by omega⟩ ⟨by decide, by decide⟩ dX12_readsNode_45 (by decide) (fun c520 => ?_) (fun c520 => ?_)
          · refine q_ald_n cx dX12_readsNode_53 rfl (lv_at hl 1 rfl) ?_
            refine q_cVi (As := []) (rest := []) cx hB (fun _ h => h) hN hmo kmo (by decide) rfl (r_isGood0 l g hN hB.2.1 mo hmo kmo z504) q_cX12_130 q_dX12_isGood (by decide) rfl rfl hl.1 rfl (Nat.le_of_ble_eq_true rfl) dX12_readsNode_54 (fun y522 H locs f521 ry522 h523 hF hB => ?_)
            obtain ⟨rfl, qy522⟩ := h523
            subst qy522
            refine q_ifne (tgt := 61) cx ⟨by decide, by decide⟩ dX12_readsNode_57 (by decide) (fun c524 => ?_) (fun c524 => ?_)
            · refine q_ald_n cx dX12_readsNode_61 rfl (lv_at hl 1 rfl) ?_
              refine q_gX12_35 cx hB hmo kmo z510 dX12_readsNode_62 (fun hb525 kb525 => ?_)
              refine q_ild_n cx dX12_readsNode_65 rfl (lv_at hl 0 rfl) ?_
              refine q_ald_n cx dX12_readsNode_66 rfl (lv_at hl 1 rfl) ?_
              obtain ⟨j526, ej526⟩ : ∃ zz, q_j f499 mo 12 = zz := ⟨_, rfl⟩
              refine q_gX12_110 cx hB hmo kmo ej526 dX12_readsNode_67 ?_
              refine q_last (n := 10) cx hB hnm knm (by decide) rfl rfl (by omega) (by omega) (by decide) rfl (q_inWi (lo := 0) (hi := 9) (by decide) (by omega) (by omega)) dX12_readsNode_70 (fun H locs f527 ef527 z528 hB => ?_)
              have z529 : q_is (q_z f527 sr 0) x477 := by rw [ef527, q_setz (Or.inl (fun q => by rw [q, knm] at ksr; exact absurd ksr (by decide)))]; exact z505
              have z530 : q_is (q_z f527 mo 3) x484 := by rw [ef527, q_setz (Or.inl (fun q => by rw [q, knm] at kmo; exact absurd kmo (by decide)))]; exact z506
              have z531 : q_is (q_z f527 mo 4) x497 := by rw [ef527, q_setz (Or.inl (fun q => by rw [q, knm] at kmo; exact absurd kmo (by decide)))]; exact z507
              have z532 : q_is (q_z f527 mo 6) x498 := by rw [ef527, q_setz (Or.inl (fun q => by rw [q, knm] at kmo; exact absurd kmo (by decide)))]; exact z508
              have z533 : q_is (q_z f527 mo 8) 0 := by rw [ef527, q_setz (Or.inl (fun q => by rw [q, knm] at kmo; exact absurd kmo (by decide)))]; exact z504
              have z534 : q_ir (q_r f527 mo 13) sr := by rw [ef527, q_setr (Or.inl (fun q => by rw [q, knm] at kmo; exact absurd kmo (by decide)))]; exact z509
              have z535 : q_ir (q_r f527 mo 18) nm := by rw [ef527, q_setr (Or.inl (fun q => by rw [q, knm] at kmo; exact absurd kmo (by decide)))]; exact z510
              have z536 : q_ir (q_r f527 mo 1) bu := by rw [ef527, q_setr (Or.inl (fun q => by rw [q, knm] at kmo; exact absurd kmo (by decide)))]; exact z511
              have g537 : q_gr f527 sr := q_gr_ne g512 ef527 (fun q => q_kne (k := 151) (k2 := 156) (by decide) ksr knm q)
              refine q_ald_n cx dX12_readsNode_71 rfl (lv_at hl 1 rfl) ?_
              refine q_cVv (As := []) (rest := []) cx hB (fun _ h => h) hN hmo kmo (by decide) rfl (r_goOn l g hN hB.2.1 mo hmo kmo bu hbu kbu x497 (by omega) (by omega) x484 (by omega) (by omega) z531 z530 z536) q_cX12_140 q_dX12_goOn (by decide) rfl rfl hl.1 rfl (Nat.le_of_ble_eq_true rfl) dX12_readsNode_72 (fun H locs f538 h540 hF hB => ?_)
              obtain ⟨t541, t542⟩ := h540
              have z543 : q_is (q_z f538 sr 0) x477 := Eq.trans (hF.z hsr (by rw [ksr]; rfl)) z529
              have z544 : q_is (q_z f538 mo 3) x484 := Eq.trans (hF.z hmo (by rw [kmo]; rfl)) z530
              have z545 : q_is (q_z f538 mo 8) 0 := Eq.trans (hF.z hmo (by rw [kmo]; rfl)) z533
              have z546 : q_ir (q_r f538 mo 13) sr := Eq.trans (hF.r hmo (by rw [kmo]; rfl)) z534
              have z547 : q_ir (q_r f538 mo 18) nm := Eq.trans (hF.r hmo (by rw [kmo]; rfl)) z535
              have z548 : q_ir (q_r f538 mo 1) bu := Eq.trans (hF.r hmo (by rw [kmo]; rfl)) z536
              have g549 : q_gr f538 sr := q_gr_fr g537 (fun i9 _ => hF.z hsr (by rw [ksr]; rfl))
              obtain ⟨x550, ex550⟩ : ∃ zz, q_is (q_z f538 mo 4) zz := ⟨_, q_isr _⟩
              obtain ⟨lx550, ux550⟩ := q_isb ex550 (q_fib hB.2.1 hmo kmo (by decide) rfl)
              obtain ⟨x551, ex551⟩ : ∃ zz, q_is (q_z f538 mo 6) zz := ⟨_, q_isr _⟩
              obtain ⟨lx551, ux551⟩ := q_isb ex551 (q_fib hB.2.1 hmo kmo (by decide) rfl)
              replace t541 := q_isl9 ex550 t541
              replace t542 := k_po_si ex551 ex550 t542
              refine q_ald_n cx dX12_readsNode_75 rfl (lv_at hl 1 rfl) ?_
              refine q_ild_n cx dX12_readsNode_76 rfl (lv_at hl 0 rfl) ?_
              refine q_iconst cx dX12_readsNode_77 ?_
              refine q_ald_n cx dX12_readsNode_78 rfl (lv_at hl 1 rfl) ?_
              refine lv_ldc2 (v := q_l 81486) cx.1 cx.2.1 cx.2.2.2.1 (cx.2.2.2.2 _ q_h1796) dX12_readsNode_79 ?_
              refine q_iconst cx dX12_readsNode_82 ?_
              refine q_bipush cx dX12_readsNode_83 rfl ?_
              refine q_cVi (As := [.long (q_l 81486), .int (q_i 0), .int (q_i 59)]) (rest := [.int (q_i 0), .int (q_i x477), .ref mo]) cx hB (fun _ h => h) hN hmo kmo (by decide) rfl (r_after0 l g hN hB.2.1 mo hmo kmo (q_l 81486) 0 (by decide) (by decide) 59 (by decide) (by decide) bu hbu kbu x550 (by omega) (by omega) z545 ex550 z548) q_cX12_198 q_dX12_after (by decide) rfl rfl hl.1 rfl (Nat.le_of_ble_eq_true rfl) dX12_readsNode_85 (fun y553 H locs f552 ry553 h554 hF hB => ?_)
              rcases h554 with h555 | h556
              · obtain ⟨z557, t558, t559, t560, t561⟩ := h555
                have z562 : q_is (q_z f552 sr 0) x477 := Eq.trans (hF.z hsr (by rw [ksr]; rfl)) z543
                have z563 : q_is (q_z f552 mo 3) x484 := Eq.trans (hF.z hmo (by rw [kmo]; rfl)) z544
                have z564 : q_ir (q_r f552 mo 13) sr := Eq.trans (hF.r hmo (by rw [kmo]; rfl)) z546
                have z565 : q_ir (q_r f552 mo 18) nm := Eq.trans (hF.r hmo (by rw [kmo]; rfl)) z547
                have z566 : q_ir (q_r f552 mo 1) bu := Eq.trans (hF.r hmo (by rw [kmo]; rfl)) z548
                have g567 : q_gr f552 sr := q_gr_fr g549 (fun i9 _ => hF.z hsr (by rw [ksr]; rfl))
                obtain ⟨x568, ex568⟩ : ∃ zz, q_is (q_z f552 mo 4) zz := ⟨_, q_isr _⟩
                obtain ⟨lx568, ux568⟩ := q_isb ex568 (q_fib hB.2.1 hmo kmo (by decide) rfl)
                obtain ⟨x569, ex569⟩ : ∃ zz, q_is (q_z f552 mo 6) zz := ⟨_, q_isr _⟩
                obtain ⟨lx569, ux569⟩ := q_isb ex569 (q_fib hB.2.1 hmo kmo (by decide) rfl)
                replace t558 := q_isl9 ex568 t558
                replace t559 := k_po_si ex569 ex568 t559
                refine q_cVv (As := [.int (q_i x477), .int (q_i 0), .int (q_i y553)]) (rest := []) cx hB (fun _ h => h) hN hmo kmo (by decide) rfl (r_setsNode0 l g hN hB.2.1 mo hmo kmo x477 (by omega) (by omega) 0 (by decide) (by decide) y553 (by omega) (by omega) sr hsr ksr z564 g567) q_cX12_202 q_dX12_setsNode (by decide) rfl rfl hl.1 rfl (Nat.le_of_ble_eq_true rfl) dX12_readsNode_88 (fun H locs f570 h572 hF hB => ?_)
                have g573 := h572
                have z574 : q_is (q_z f570 sr 0) x477 := Eq.trans (hF.z hsr (by rw [ksr]; rfl)) z562
                have z575 : q_is (q_z f570 mo 3) x484 := Eq.trans (hF.z hmo (by rw [kmo]; rfl)) z563
                have z576 : q_is (q_z f570 mo 8) 0 := Eq.trans (hF.z hmo (by rw [kmo]; rfl)) z557
                have z577 : q_is (q_z f570 mo 4) x568 := Eq.trans (hF.z hmo (by rw [kmo]; rfl)) ex568
                have z578 : q_is (q_z f570 mo 6) x569 := Eq.trans (hF.z hmo (by rw [kmo]; rfl)) ex569
                have z579 : q_ir (q_r f570 mo 13) sr := Eq.trans (hF.r hmo (by rw [kmo]; rfl)) z564
                have z580 : q_ir (q_r f570 mo 18) nm := Eq.trans (hF.r hmo (by rw [kmo]; rfl)) z565
                have z581 : q_ir (q_r f570 mo 1) bu := Eq.trans (hF.r hmo (by rw [kmo]; rfl)) z566
                refine q_ald_n cx dX12_readsNode_91 rfl (lv_at hl 1 rfl) ?_
                refine lv_ldc2 (v := q_l 20194516) cx.1 cx.2.1 cx.2.2.2.1 (cx.2.2.2.2 _ q_h1812) dX12_readsNode_92 ?_
                refine q_cVi (As := [.long (q_l 20194516)]) (rest := []) cx hB (fun _ h => h) hN hmo kmo (by decide) rfl (r_isWord0 l g hN hB.2.1 mo hmo kmo (q_l 20194516) z576) q_cX12_143 q_dX12_isWord (by decide) rfl rfl hl.1 rfl (Nat.le_of_ble_eq_true rfl) dX12_readsNode_95 (fun y583 H locs f582 ry583 h584 hF hB => ?_)
                rcases h584 with h585 | h586
                · obtain ⟨rfl, qy583, t587⟩ := h585
                  subst qy583
                  refine lv_istore_n (lv' := [(2, .int (q_i 1)), (1, .int (q_i x477)), (0, .ref mo)]) cx.1 cx.2.1 dX12_readsNode_98 rfl hl (by decide) rfl (fun ls hl => ?_)
                  refine q_ild_n cx dX12_readsNode_99 rfl (lv_at hl 0 rfl) ?_
                  refine q_ifeq (tgt := 107) cx ⟨by decide, by decide⟩ dX12_readsNode_100 (by decide) (fun c588 => ?_) (fun c588 => ?_)
                  · exact absurd c588 (by omega)
                  · refine q_ald_n cx dX12_readsNode_103 rfl (lv_at hl 2 rfl) ?_
                    refine q_cVv (As := []) (rest := []) cx hB (fun _ h => h) hN hmo kmo (by decide) rfl (r_goOn l g hN hB.2.1 mo hmo kmo bu hbu kbu x568 (by omega) (by omega) x484 (by omega) (by omega) z577 z575 z581) q_cX12_140 q_dX12_goOn (by decide) rfl rfl hl.1 rfl (Nat.le_of_ble_eq_true rfl) dX12_readsNode_104 (fun H locs f589 h591 hF hB => ?_)
                    obtain ⟨t592, t593⟩ := h591
                    have z594 : q_is (q_z f589 sr 0) x477 := Eq.trans (hF.z hsr (by rw [ksr]; rfl)) z574
                    have z595 : q_is (q_z f589 mo 3) x484 := Eq.trans (hF.z hmo (by rw [kmo]; rfl)) z575
                    have z596 : q_is (q_z f589 mo 8) 0 := Eq.trans (hF.z hmo (by rw [kmo]; rfl)) z576
                    have z597 : q_ir (q_r f589 mo 13) sr := Eq.trans (hF.r hmo (by rw [kmo]; rfl)) z579
                    have z598 : q_ir (q_r f589 mo 18) nm := Eq.trans (hF.r hmo (by rw [kmo]; rfl)) z580
                    have z599 : q_ir (q_r f589 mo 1) bu := Eq.trans (hF.r hmo (by rw [kmo]; rfl)) z581
                    have g600 : q_gr f589 sr := q_gr_fr g573 (fun i9 _ => hF.z hsr (by rw [ksr]; rfl))
                    obtain ⟨x601, ex601⟩ : ∃ zz, q_is (q_z f589 mo 4) zz := ⟨_, q_isr _⟩
                    obtain ⟨lx601, ux601⟩ := q_isb ex601 (q_fib hB.2.1 hmo kmo (by decide) rfl)
                    obtain ⟨x602, ex602⟩ : ∃ zz, q_is (q_z f589 mo 6) zz := ⟨_, q_isr _⟩
                    obtain ⟨lx602, ux602⟩ := q_isb ex602 (q_fib hB.2.1 hmo kmo (by decide) rfl)
                    replace t592 := q_isl9 ex601 t592
                    replace t593 := k_po_si ex602 ex601 t593
                    refine q_ald_n cx dX12_readsNode_107 rfl (lv_at hl 2 rfl) ?_
                    refine q_ild_n cx dX12_readsNode_108 rfl (lv_at hl 1 rfl) ?_
                    refine q_iconst cx dX12_readsNode_109 ?_
                    refine q_ild_n cx dX12_readsNode_110 rfl (lv_at hl 0 rfl) ?_
                    refine q_ifeq (tgt := 124) cx ⟨by decide, by decide⟩ dX12_readsNode_111 (by decide) (fun c603 => ?_) (fun c603 => ?_)
                    · exact absurd c603 (by omega)
                    · refine q_ald_n cx dX12_readsNode_114 rfl (lv_at hl 2 rfl) ?_
                      refine q_iconst cx dX12_readsNode_115 ?_
                      refine q_bipush cx dX12_readsNode_116 rfl ?_
                      refine q_cVi (As := [.int (q_i 0), .int (q_i 59)]) (rest := [.int (q_i 1), .int (q_i x477), .ref mo]) cx hB (fun _ h => h) hN hmo kmo (by decide) rfl (r_number0 l g hN hB.2.1 mo hmo kmo 0 (by decide) (by decide) 59 (by decide) (by decide) bu hbu kbu x601 (by omega) (by omega) z596 ex601 z599) q_cX12_193 q_dX12_number (by decide) rfl rfl hl.1 rfl (Nat.le_of_ble_eq_true rfl) dX12_readsNode_118 (fun y605 H locs f604 ry605 h606 hF hB => ?_)
                      rcases h606 with h607 | h608
                      · obtain ⟨z609, t610, t611, t612, t613⟩ := h607
                        have z614 : q_is (q_z f604 sr 0) x477 := Eq.trans (hF.z hsr (by rw [ksr]; rfl)) z594
                        have z615 : q_is (q_z f604 mo 3) x484 := Eq.trans (hF.z hmo (by rw [kmo]; rfl)) z595
                        have z616 : q_ir (q_r f604 mo 13) sr := Eq.trans (hF.r hmo (by rw [kmo]; rfl)) z597
                        have z617 : q_ir (q_r f604 mo 18) nm := Eq.trans (hF.r hmo (by rw [kmo]; rfl)) z598
                        have z618 : q_ir (q_r f604 mo 1) bu := Eq.trans (hF.r hmo (by rw [kmo]; rfl)) z599
                        have g619 : q_gr f604 sr := q_gr_fr g600 (fun i9 _ => hF.z hsr (by rw [ksr]; rfl))
                        obtain ⟨x620, ex620⟩ : ∃ zz, q_is (q_z f604 mo 4) zz := ⟨_, q_isr _⟩
                        obtain ⟨lx620, ux620⟩ := q_isb ex620 (q_fib hB.2.1 hmo kmo (by decide) rfl)
                        obtain ⟨x621, ex621⟩ : ∃ zz, q_is (q_z f604 mo 6) zz := ⟨_, q_isr _⟩
                        obtain ⟨lx621, ux621⟩ := q_isb ex621 (q_fib hB.2.1 hmo kmo (by decide) rfl)
                        replace t610 := q_isl9 ex620 t610
                        replace t611 := k_po_si ex621 ex620 t611
                        refine lv_goto (tgt := 125) cx.1 cx.2.1 dX12_readsNode_121 (by decide) ?_
                        refine q_cVv (As := [.int (q_i x477), .int (q_i 1), .int (q_i y605)]) (rest := []) cx hB (fun _ h => h) hN hmo kmo (by decide) rfl (r_setsNode1 l g hN hB.2.1 mo hmo kmo x477 (by omega) (by omega) 1 (by decide) (by decide) y605 (by omega) (by omega) sr hsr ksr z616 g619) q_cX12_202 q_dX12_setsNode (by decide) rfl rfl hl.1 rfl (Nat.le_of_ble_eq_true rfl) dX12_readsNode_125 (fun H locs f622 h624 hF hB => ?_)
                        have g625 := h624
                        have z626 : q_is (q_z f622 sr 0) x477 := Eq.trans (hF.z hsr (by rw [ksr]; rfl)) z614
                        have z627 : q_is (q_z f622 mo 3) x484 := Eq.trans (hF.z hmo (by rw [kmo]; rfl)) z615
                        have z628 : q_is (q_z f622 mo 8) 0 := Eq.trans (hF.z hmo (by rw [kmo]; rfl)) z609
                        have z629 : q_is (q_z f622 mo 4) x620 := Eq.trans (hF.z hmo (by rw [kmo]; rfl)) ex620
                        have z630 : q_is (q_z f622 mo 6) x621 := Eq.trans (hF.z hmo (by rw [kmo]; rfl)) ex621
                        have z631 : q_ir (q_r f622 mo 13) sr := Eq.trans (hF.r hmo (by rw [kmo]; rfl)) z616
                        have z632 : q_ir (q_r f622 mo 18) nm := Eq.trans (hF.r hmo (by rw [kmo]; rfl)) z617
                        have z633 : q_ir (q_r f622 mo 1) bu := Eq.trans (hF.r hmo (by rw [kmo]; rfl)) z618
                        refine q_ald_n cx dX12_readsNode_128 rfl (lv_at hl 2 rfl) ?_
                        refine q_ild_n cx dX12_readsNode_129 rfl (lv_at hl 1 rfl) ?_
                        refine q_iconst cx dX12_readsNode_130 ?_
                        refine q_ald_n cx dX12_readsNode_131 rfl (lv_at hl 2 rfl) ?_
                        refine lv_ldc2 (v := q_l 182634745) cx.1 cx.2.1 cx.2.2.2.1 (cx.2.2.2.2 _ q_h1813) dX12_readsNode_132 ?_
                        refine q_iconst cx dX12_readsNode_135 ?_
                        refine q_sipush cx dX12_readsNode_136 rfl ?_
                        refine q_cVi (As := [.long (q_l 182634745), .int (q_i 1), .int (q_i 999)]) (rest := [.int (q_i 2), .int (q_i x477), .ref mo]) cx hB (fun _ h => h) hN hmo kmo (by decide) rfl (r_after0 l g hN hB.2.1 mo hmo kmo (q_l 182634745) 1 (by decide) (by decide) 999 (by decide) (by decide) bu hbu kbu x620 (by omega) (by omega) z628 z629 z633) q_cX12_198 q_dX12_after (by decide) rfl rfl hl.1 rfl (Nat.le_of_ble_eq_true rfl) dX12_readsNode_139 (fun y635 H locs f634 ry635 h636 hF hB => ?_)
                        rcases h636 with h637 | h638
                        · obtain ⟨z639, t640, t641, t642, t643⟩ := h637
                          have z644 : q_is (q_z f634 sr 0) x477 := Eq.trans (hF.z hsr (by rw [ksr]; rfl)) z626
                          have z645 : q_is (q_z f634 mo 3) x484 := Eq.trans (hF.z hmo (by rw [kmo]; rfl)) z627
                          have z646 : q_ir (q_r f634 mo 13) sr := Eq.trans (hF.r hmo (by rw [kmo]; rfl)) z631
                          have z647 : q_ir (q_r f634 mo 18) nm := Eq.trans (hF.r hmo (by rw [kmo]; rfl)) z632
                          have z648 : q_ir (q_r f634 mo 1) bu := Eq.trans (hF.r hmo (by rw [kmo]; rfl)) z633
                          have g649 : q_gr f634 sr := q_gr_fr g625 (fun i9 _ => hF.z hsr (by rw [ksr]; rfl))
                          obtain ⟨x650, ex650⟩ : ∃ zz, q_is (q_z f634 mo 4) zz := ⟨_, q_isr _⟩
                          obtain ⟨lx650, ux650⟩ := q_isb ex650 (q_fib hB.2.1 hmo kmo (by decide) rfl)
                          obtain ⟨x651, ex651⟩ : ∃ zz, q_is (q_z f634 mo 6) zz := ⟨_, q_isr _⟩
                          obtain ⟨lx651, ux651⟩ := q_isb ex651 (q_fib hB.2.1 hmo kmo (by decide) rfl)
                          replace t640 := q_isl9 ex650 t640
                          replace t641 := k_po_si ex651 ex650 t641
                          refine q_cVv (As := [.int (q_i x477), .int (q_i 2), .int (q_i y635)]) (rest := []) cx hB (fun _ h => h) hN hmo kmo (by decide) rfl (r_setsNode2 l g hN hB.2.1 mo hmo kmo x477 (by omega) (by omega) 2 (by decide) (by decide) y635 (by omega) (by omega) sr hsr ksr z646 g649) q_cX12_202 q_dX12_setsNode (by decide) rfl rfl hl.1 rfl (Nat.le_of_ble_eq_true rfl) dX12_readsNode_142 (fun H locs f652 h654 hF hB => ?_)
                          obtain ⟨t655, t656, g657⟩ := h654
                          have z658 : q_is (q_z f652 sr 0) x477 := Eq.trans (hF.z hsr (by rw [ksr]; rfl)) z644
                          have z659 : q_is (q_z f652 mo 3) x484 := Eq.trans (hF.z hmo (by rw [kmo]; rfl)) z645
                          have z660 : q_is (q_z f652 mo 8) 0 := Eq.trans (hF.z hmo (by rw [kmo]; rfl)) z639
                          have z661 : q_is (q_z f652 mo 4) x650 := Eq.trans (hF.z hmo (by rw [kmo]; rfl)) ex650
                          have z662 : q_is (q_z f652 mo 6) x651 := Eq.trans (hF.z hmo (by rw [kmo]; rfl)) ex651
                          have z663 : q_ir (q_r f652 mo 13) sr := Eq.trans (hF.r hmo (by rw [kmo]; rfl)) z646
                          have z664 : q_ir (q_r f652 mo 18) nm := Eq.trans (hF.r hmo (by rw [kmo]; rfl)) z647
                          have z665 : q_ir (q_r f652 mo 1) bu := Eq.trans (hF.r hmo (by rw [kmo]; rfl)) z648
                          refine q_ald_n cx dX12_readsNode_145 rfl (lv_at hl 2 rfl) ?_
                          refine q_cVi (As := []) (rest := []) cx hB (fun _ h => h) hN hmo kmo (by decide) rfl (r_isGood0 l g hN hB.2.1 mo hmo kmo z660) q_cX12_130 q_dX12_isGood (by decide) rfl rfl hl.1 rfl (Nat.le_of_ble_eq_true rfl) dX12_readsNode_146 (fun y667 H locs f666 ry667 h668 hF hB => ?_)
                          obtain ⟨rfl, qy667⟩ := h668
                          subst qy667
                          refine q_ifeq (tgt := 162) cx ⟨by decide, by decide⟩ dX12_readsNode_149 (by decide) (fun c669 => ?_) (fun c669 => ?_)
                          · exact absurd c669 (by omega)
                          · refine q_ald_n cx dX12_readsNode_152 rfl (lv_at hl 2 rfl) ?_
                            refine q_gX12_20 cx hB hmo kmo z663 dX12_readsNode_153 (fun hb670 kb670 => ?_)
                            refine q_iconst cx dX12_readsNode_156 ?_
                            refine lv_dup2_11 cx.1 cx.2.1 dX12_readsNode_157 rfl rfl ?_
                            refine q_iald (lo := 0) (hi := 10) (n := 658) cx hB hsr ksr (by decide) rfl rfl (by decide) (by decide) (by decide) rfl z658 dX12_readsNode_158 (fun lb672 ub672 => ?_)
                            refine q_iconst cx dX12_readsNode_159 ?_
                            refine q_iadd cx dX12_readsNode_160 ?_
                            refine q_iast (lo := 0) (hi := 10) (n := 658) cx hB hsr ksr (by decide) rfl rfl (by decide) (by decide) (by decide) rfl ⟨by omega, by omega⟩ (by omega) (by omega) rfl dX12_readsNode_161 (fun H locs f673 ef673 z674 hB => ?_)
                            have z675 : q_is (q_z f673 mo 3) x484 := by rw [ef673, q_setz (Or.inr (by decide))]; exact z659
                            have z676 : q_is (q_z f673 mo 8) 0 := by rw [ef673, q_setz (Or.inr (by decide))]; exact z660
                            have z677 : q_is (q_z f673 mo 4) x650 := by rw [ef673, q_setz (Or.inr (by decide))]; exact z661
                            have z678 : q_is (q_z f673 mo 6) x651 := by rw [ef673, q_setz (Or.inr (by decide))]; exact z662
                            have z679 : q_ir (q_r f673 mo 13) sr := by rw [ef673, q_setr (Or.inr (by decide))]; exact z663
                            have z680 : q_ir (q_r f673 mo 18) nm := by rw [ef673, q_setr (Or.inr (by decide))]; exact z664
                            have z681 : q_ir (q_r f673 mo 1) bu := by rw [ef673, q_setr (Or.inr (by decide))]; exact z665
                            have g682 : q_gr f673 sr := q_gr_put g657 ef673 z674 rfl (by omega) (by omega)
                            refine q_vret cx hr hlk hB dX12_readsNode_162 ?_
                            exact (Or.inl ⟨z676, (q_isl z677 (by omega)), (k_po_is z678 z677 (k_po_mono t641 (by omega))), g682⟩)
                        · obtain ⟨lz683, uz683⟩ := h638
                          have z684 : q_is (q_z f634 sr 0) x477 := Eq.trans (hF.z hsr (by rw [ksr]; rfl)) z626
                          have z685 : q_is (q_z f634 mo 3) x484 := Eq.trans (hF.z hmo (by rw [kmo]; rfl)) z627
                          have z686 : q_ir (q_r f634 mo 13) sr := Eq.trans (hF.r hmo (by rw [kmo]; rfl)) z631
                          have z687 : q_ir (q_r f634 mo 18) nm := Eq.trans (hF.r hmo (by rw [kmo]; rfl)) z632
                          have z688 : q_ir (q_r f634 mo 1) bu := Eq.trans (hF.r hmo (by rw [kmo]; rfl)) z633
                          have g689 : q_gr f634 sr := q_gr_fr g625 (fun i9 _ => hF.z hsr (by rw [ksr]; rfl))
                          obtain ⟨x690, ex690⟩ : ∃ zz, q_is (q_z f634 mo 8) zz := ⟨_, q_isr _⟩
                          obtain ⟨lx690, ux690⟩ := q_isb ex690 ⟨lz683, uz683⟩
                          obtain ⟨x691, ex691⟩ : ∃ zz, q_is (q_z f634 mo 4) zz := ⟨_, q_isr _⟩
                          obtain ⟨lx691, ux691⟩ := q_isb ex691 (q_fib hB.2.1 hmo kmo (by decide) rfl)
                          obtain ⟨x692, ex692⟩ : ∃ zz, q_is (q_z f634 mo 6) zz := ⟨_, q_isr _⟩
                          obtain ⟨lx692, ux692⟩ := q_isb ex692 (q_fib hB.2.1 hmo kmo (by decide) rfl)
                          refine q_cVv (As := [.int (q_i x477), .int (q_i 2), .int (q_i y635)]) (rest := []) cx hB (fun _ h => h) hN hmo kmo (by decide) rfl (r_setsNodej l g hN hB.2.1 mo hmo kmo x477 (by omega) (by omega) 2 (by decide) (by decide) y635 (by omega) (by omega) sr hsr ksr z686) q_cX12_202 q_dX12_setsNode (by decide) rfl rfl hl.1 rfl (Nat.le_of_ble_eq_true rfl) dX12_readsNode_142 (fun H locs f693 h695 hF hB => ?_)
                          have z696 : q_is (q_z f693 sr 0) x477 := Eq.trans (hF.z hsr (by rw [ksr]; rfl)) z684
                          have z697 : q_is (q_z f693 mo 3) x484 := Eq.trans (hF.z hmo (by rw [kmo]; rfl)) z685
                          have z698 : q_is (q_z f693 mo 8) x690 := Eq.trans (hF.z hmo (by rw [kmo]; rfl)) ex690
                          have z699 : q_is (q_z f693 mo 4) x691 := Eq.trans (hF.z hmo (by rw [kmo]; rfl)) ex691
                          have z700 : q_is (q_z f693 mo 6) x692 := Eq.trans (hF.z hmo (by rw [kmo]; rfl)) ex692
                          have z701 : q_ir (q_r f693 mo 13) sr := Eq.trans (hF.r hmo (by rw [kmo]; rfl)) z686
                          have z702 : q_ir (q_r f693 mo 18) nm := Eq.trans (hF.r hmo (by rw [kmo]; rfl)) z687
                          have z703 : q_ir (q_r f693 mo 1) bu := Eq.trans (hF.r hmo (by rw [kmo]; rfl)) z688
                          refine q_ald_n cx dX12_readsNode_145 rfl (lv_at hl 2 rfl) ?_
                          refine q_cVi (As := []) (rest := []) cx hB (fun _ h => h) hN hmo kmo (by decide) rfl (r_isGood1 l g hN hB.2.1 mo hmo kmo x690 (by omega) (by omega) z698) q_cX12_130 q_dX12_isGood (by decide) rfl rfl hl.1 rfl (Nat.le_of_ble_eq_true rfl) dX12_readsNode_146 (fun y705 H locs f704 ry705 h706 hF hB => ?_)
                          obtain ⟨rfl, qy705⟩ := h706
                          subst qy705
                          refine q_ifeq (tgt := 162) cx ⟨by decide, by decide⟩ dX12_readsNode_149 (by decide) (fun c707 => ?_) (fun c707 => ?_)
                          · refine q_vret cx hr hlk hB dX12_readsNode_162 ?_
                            exact (Or.inr ⟨(q_isl z698 (by omega)), (q_isu z698 (by omega))⟩)
                          · exact absurd c707 (by omega)
                      · obtain ⟨lz708, uz708⟩ := h608
                        have z709 : q_is (q_z f604 sr 0) x477 := Eq.trans (hF.z hsr (by rw [ksr]; rfl)) z594
                        have z710 : q_is (q_z f604 mo 3) x484 := Eq.trans (hF.z hmo (by rw [kmo]; rfl)) z595
                        have z711 : q_ir (q_r f604 mo 13) sr := Eq.trans (hF.r hmo (by rw [kmo]; rfl)) z597
                        have z712 : q_ir (q_r f604 mo 18) nm := Eq.trans (hF.r hmo (by rw [kmo]; rfl)) z598
                        have z713 : q_ir (q_r f604 mo 1) bu := Eq.trans (hF.r hmo (by rw [kmo]; rfl)) z599
                        have g714 : q_gr f604 sr := q_gr_fr g600 (fun i9 _ => hF.z hsr (by rw [ksr]; rfl))
                        obtain ⟨x715, ex715⟩ : ∃ zz, q_is (q_z f604 mo 8) zz := ⟨_, q_isr _⟩
                        obtain ⟨lx715, ux715⟩ := q_isb ex715 ⟨lz708, uz708⟩
                        obtain ⟨x716, ex716⟩ : ∃ zz, q_is (q_z f604 mo 4) zz := ⟨_, q_isr _⟩
                        obtain ⟨lx716, ux716⟩ := q_isb ex716 (q_fib hB.2.1 hmo kmo (by decide) rfl)
                        obtain ⟨x717, ex717⟩ : ∃ zz, q_is (q_z f604 mo 6) zz := ⟨_, q_isr _⟩
                        obtain ⟨lx717, ux717⟩ := q_isb ex717 (q_fib hB.2.1 hmo kmo (by decide) rfl)
                        refine lv_goto (tgt := 125) cx.1 cx.2.1 dX12_readsNode_121 (by decide) ?_
                        refine q_cVv (As := [.int (q_i x477), .int (q_i 1), .int (q_i y605)]) (rest := []) cx hB (fun _ h => h) hN hmo kmo (by decide) rfl (r_setsNodej l g hN hB.2.1 mo hmo kmo x477 (by omega) (by omega) 1 (by decide) (by decide) y605 (by omega) (by omega) sr hsr ksr z711) q_cX12_202 q_dX12_setsNode (by decide) rfl rfl hl.1 rfl (Nat.le_of_ble_eq_true rfl) dX12_readsNode_125 (fun H locs f718 h720 hF hB => ?_)
                        have z721 : q_is (q_z f718 sr 0) x477 := Eq.trans (hF.z hsr (by rw [ksr]; rfl)) z709
                        have z722 : q_is (q_z f718 mo 3) x484 := Eq.trans (hF.z hmo (by rw [kmo]; rfl)) z710
                        have z723 : q_is (q_z f718 mo 8) x715 := Eq.trans (hF.z hmo (by rw [kmo]; rfl)) ex715
                        have z724 : q_is (q_z f718 mo 4) x716 := Eq.trans (hF.z hmo (by rw [kmo]; rfl)) ex716
                        have z725 : q_is (q_z f718 mo 6) x717 := Eq.trans (hF.z hmo (by rw [kmo]; rfl)) ex717
                        have z726 : q_ir (q_r f718 mo 13) sr := Eq.trans (hF.r hmo (by rw [kmo]; rfl)) z711
                        have z727 : q_ir (q_r f718 mo 18) nm := Eq.trans (hF.r hmo (by rw [kmo]; rfl)) z712
                        have z728 : q_ir (q_r f718 mo 1) bu := Eq.trans (hF.r hmo (by rw [kmo]; rfl)) z713
                        refine q_ald_n cx dX12_readsNode_128 rfl (lv_at hl 2 rfl) ?_
                        refine q_ild_n cx dX12_readsNode_129 rfl (lv_at hl 1 rfl) ?_
                        refine q_iconst cx dX12_readsNode_130 ?_
                        refine q_ald_n cx dX12_readsNode_131 rfl (lv_at hl 2 rfl) ?_
                        refine lv_ldc2 (v := q_l 182634745) cx.1 cx.2.1 cx.2.2.2.1 (cx.2.2.2.2 _ q_h1813) dX12_readsNode_132 ?_
                        refine q_iconst cx dX12_readsNode_135 ?_
                        refine q_sipush cx dX12_readsNode_136 rfl ?_
                        refine q_cVi (As := [.long (q_l 182634745), .int (q_i 1), .int (q_i 999)]) (rest := [.int (q_i 2), .int (q_i x477), .ref mo]) cx hB (fun _ h => h) hN hmo kmo (by decide) rfl (r_after1 l g hN hB.2.1 mo hmo kmo (q_l 182634745) 1 (by decide) (by decide) 999 (by decide) (by decide) x715 (by omega) (by omega) z723) q_cX12_198 q_dX12_after (by decide) rfl rfl hl.1 rfl (Nat.le_of_ble_eq_true rfl) dX12_readsNode_139 (fun y730 H locs f729 ry730 h731 hF hB => ?_)
                        obtain rfl := h731
                        refine q_cVv (As := [.int (q_i x477), .int (q_i 2), .int (q_i y730)]) (rest := []) cx hB (fun _ h => h) hN hmo kmo (by decide) rfl (r_setsNodej l g hN hB.2.1 mo hmo kmo x477 (by omega) (by omega) 2 (by decide) (by decide) y730 (by omega) (by omega) sr hsr ksr z726) q_cX12_202 q_dX12_setsNode (by decide) rfl rfl hl.1 rfl (Nat.le_of_ble_eq_true rfl) dX12_readsNode_142 (fun H locs f732 h734 hF hB => ?_)
                        have z735 : q_is (q_z f732 sr 0) x477 := Eq.trans (hF.z hsr (by rw [ksr]; rfl)) z721
                        have z736 : q_is (q_z f732 mo 3) x484 := Eq.trans (hF.z hmo (by rw [kmo]; rfl)) z722
                        have z737 : q_is (q_z f732 mo 8) x715 := Eq.trans (hF.z hmo (by rw [kmo]; rfl)) z723
                        have z738 : q_is (q_z f732 mo 4) x716 := Eq.trans (hF.z hmo (by rw [kmo]; rfl)) z724
                        have z739 : q_is (q_z f732 mo 6) x717 := Eq.trans (hF.z hmo (by rw [kmo]; rfl)) z725
                        have z740 : q_ir (q_r f732 mo 13) sr := Eq.trans (hF.r hmo (by rw [kmo]; rfl)) z726
                        have z741 : q_ir (q_r f732 mo 18) nm := Eq.trans (hF.r hmo (by rw [kmo]; rfl)) z727
                        have z742 : q_ir (q_r f732 mo 1) bu := Eq.trans (hF.r hmo (by rw [kmo]; rfl)) z728
                        refine q_ald_n cx dX12_readsNode_145 rfl (lv_at hl 2 rfl) ?_
                        refine q_cVi (As := []) (rest := []) cx hB (fun _ h => h) hN hmo kmo (by decide) rfl (r_isGood1 l g hN hB.2.1 mo hmo kmo x715 (by omega) (by omega) z737) q_cX12_130 q_dX12_isGood (by decide) rfl rfl hl.1 rfl (Nat.le_of_ble_eq_true rfl) dX12_readsNode_146 (fun y744 H locs f743 ry744 h745 hF hB => ?_)
                        obtain ⟨rfl, qy744⟩ := h745
                        subst qy744
                        refine q_ifeq (tgt := 162) cx ⟨by decide, by decide⟩ dX12_readsNode_149 (by decide) (fun c746 => ?_) (fun c746 => ?_)
                        · refine q_vret cx hr hlk hB dX12_readsNode_162 ?_
                          exact (Or.inr ⟨(q_isl z737 (by omega)), (q_isu z737 (by omega))⟩)
                        · exact absurd c746 (by omega)
                · obtain ⟨rfl, qy583⟩ := h586
                  subst qy583
                  refine lv_istore_n (lv' := [(2, .int (q_i 0)), (1, .int (q_i x477)), (0, .ref mo)]) cx.1 cx.2.1 dX12_readsNode_98 rfl hl (by decide) rfl (fun ls hl => ?_)
                  refine q_ild_n cx dX12_readsNode_99 rfl (lv_at hl 0 rfl) ?_
                  refine q_ifeq (tgt := 107) cx ⟨by decide, by decide⟩ dX12_readsNode_100 (by decide) (fun c747 => ?_) (fun c747 => ?_)
                  · refine q_ald_n cx dX12_readsNode_107 rfl (lv_at hl 2 rfl) ?_
                    refine q_ild_n cx dX12_readsNode_108 rfl (lv_at hl 1 rfl) ?_
                    refine q_iconst cx dX12_readsNode_109 ?_
                    refine q_ild_n cx dX12_readsNode_110 rfl (lv_at hl 0 rfl) ?_
                    refine q_ifeq (tgt := 124) cx ⟨by decide, by decide⟩ dX12_readsNode_111 (by decide) (fun c748 => ?_) (fun c748 => ?_)
                    · refine q_iconst cx dX12_readsNode_124 ?_
                      refine q_cVv (As := [.int (q_i x477), .int (q_i 1), .int (q_i 0)]) (rest := []) cx hB (fun _ h => h) hN hmo kmo (by decide) rfl (r_setsNode1 l g hN hB.2.1 mo hmo kmo x477 (by omega) (by omega) 1 (by decide) (by decide) 0 (by decide) (by decide) sr hsr ksr z579 g573) q_cX12_202 q_dX12_setsNode (by decide) rfl rfl hl.1 rfl (Nat.le_of_ble_eq_true rfl) dX12_readsNode_125 (fun H locs f749 h751 hF hB => ?_)
                      have g752 := h751
                      have z753 : q_is (q_z f749 sr 0) x477 := Eq.trans (hF.z hsr (by rw [ksr]; rfl)) z574
                      have z754 : q_is (q_z f749 mo 3) x484 := Eq.trans (hF.z hmo (by rw [kmo]; rfl)) z575
                      have z755 : q_is (q_z f749 mo 8) 0 := Eq.trans (hF.z hmo (by rw [kmo]; rfl)) z576
                      have z756 : q_is (q_z f749 mo 4) x568 := Eq.trans (hF.z hmo (by rw [kmo]; rfl)) z577
                      have z757 : q_is (q_z f749 mo 6) x569 := Eq.trans (hF.z hmo (by rw [kmo]; rfl)) z578
                      have z758 : q_ir (q_r f749 mo 13) sr := Eq.trans (hF.r hmo (by rw [kmo]; rfl)) z579
                      have z759 : q_ir (q_r f749 mo 18) nm := Eq.trans (hF.r hmo (by rw [kmo]; rfl)) z580
                      have z760 : q_ir (q_r f749 mo 1) bu := Eq.trans (hF.r hmo (by rw [kmo]; rfl)) z581
                      refine q_ald_n cx dX12_readsNode_128 rfl (lv_at hl 2 rfl) ?_
                      refine q_ild_n cx dX12_readsNode_129 rfl (lv_at hl 1 rfl) ?_
                      refine q_iconst cx dX12_readsNode_130 ?_
                      refine q_ald_n cx dX12_readsNode_131 rfl (lv_at hl 2 rfl) ?_
                      refine lv_ldc2 (v := q_l 182634745) cx.1 cx.2.1 cx.2.2.2.1 (cx.2.2.2.2 _ q_h1813) dX12_readsNode_132 ?_
                      refine q_iconst cx dX12_readsNode_135 ?_
                      refine q_sipush cx dX12_readsNode_136 rfl ?_
                      refine q_cVi (As := [.long (q_l 182634745), .int (q_i 1), .int (q_i 999)]) (rest := [.int (q_i 2), .int (q_i x477), .ref mo]) cx hB (fun _ h => h) hN hmo kmo (by decide) rfl (r_after0 l g hN hB.2.1 mo hmo kmo (q_l 182634745) 1 (by decide) (by decide) 999 (by decide) (by decide) bu hbu kbu x568 (by omega) (by omega) z755 z756 z760) q_cX12_198 q_dX12_after (by decide) rfl rfl hl.1 rfl (Nat.le_of_ble_eq_true rfl) dX12_readsNode_139 (fun y762 H locs f761 ry762 h763 hF hB => ?_)
                      rcases h763 with h764 | h765
                      · obtain ⟨z766, t767, t768, t769, t770⟩ := h764
                        have z771 : q_is (q_z f761 sr 0) x477 := Eq.trans (hF.z hsr (by rw [ksr]; rfl)) z753
                        have z772 : q_is (q_z f761 mo 3) x484 := Eq.trans (hF.z hmo (by rw [kmo]; rfl)) z754
                        have z773 : q_ir (q_r f761 mo 13) sr := Eq.trans (hF.r hmo (by rw [kmo]; rfl)) z758
                        have z774 : q_ir (q_r f761 mo 18) nm := Eq.trans (hF.r hmo (by rw [kmo]; rfl)) z759
                        have z775 : q_ir (q_r f761 mo 1) bu := Eq.trans (hF.r hmo (by rw [kmo]; rfl)) z760
                        have g776 : q_gr f761 sr := q_gr_fr g752 (fun i9 _ => hF.z hsr (by rw [ksr]; rfl))
                        obtain ⟨x777, ex777⟩ : ∃ zz, q_is (q_z f761 mo 4) zz := ⟨_, q_isr _⟩
                        obtain ⟨lx777, ux777⟩ := q_isb ex777 (q_fib hB.2.1 hmo kmo (by decide) rfl)
                        obtain ⟨x778, ex778⟩ : ∃ zz, q_is (q_z f761 mo 6) zz := ⟨_, q_isr _⟩
                        obtain ⟨lx778, ux778⟩ := q_isb ex778 (q_fib hB.2.1 hmo kmo (by decide) rfl)
                        replace t767 := q_isl9 ex777 t767
                        replace t768 := k_po_si ex778 ex777 t768
                        refine q_cVv (As := [.int (q_i x477), .int (q_i 2), .int (q_i y762)]) (rest := []) cx hB (fun _ h => h) hN hmo kmo (by decide) rfl (r_setsNode2 l g hN hB.2.1 mo hmo kmo x477 (by omega) (by omega) 2 (by decide) (by decide) y762 (by omega) (by omega) sr hsr ksr z773 g776) q_cX12_202 q_dX12_setsNode (by decide) rfl rfl hl.1 rfl (Nat.le_of_ble_eq_true rfl) dX12_readsNode_142 (fun H locs f779 h781 hF hB => ?_)
                        obtain ⟨t782, t783, g784⟩ := h781
                        have z785 : q_is (q_z f779 sr 0) x477 := Eq.trans (hF.z hsr (by rw [ksr]; rfl)) z771
                        have z786 : q_is (q_z f779 mo 3) x484 := Eq.trans (hF.z hmo (by rw [kmo]; rfl)) z772
                        have z787 : q_is (q_z f779 mo 8) 0 := Eq.trans (hF.z hmo (by rw [kmo]; rfl)) z766
                        have z788 : q_is (q_z f779 mo 4) x777 := Eq.trans (hF.z hmo (by rw [kmo]; rfl)) ex777
                        have z789 : q_is (q_z f779 mo 6) x778 := Eq.trans (hF.z hmo (by rw [kmo]; rfl)) ex778
                        have z790 : q_ir (q_r f779 mo 13) sr := Eq.trans (hF.r hmo (by rw [kmo]; rfl)) z773
                        have z791 : q_ir (q_r f779 mo 18) nm := Eq.trans (hF.r hmo (by rw [kmo]; rfl)) z774
                        have z792 : q_ir (q_r f779 mo 1) bu := Eq.trans (hF.r hmo (by rw [kmo]; rfl)) z775
                        refine q_ald_n cx dX12_readsNode_145 rfl (lv_at hl 2 rfl) ?_
                        refine q_cVi (As := []) (rest := []) cx hB (fun _ h => h) hN hmo kmo (by decide) rfl (r_isGood0 l g hN hB.2.1 mo hmo kmo z787) q_cX12_130 q_dX12_isGood (by decide) rfl rfl hl.1 rfl (Nat.le_of_ble_eq_true rfl) dX12_readsNode_146 (fun y794 H locs f793 ry794 h795 hF hB => ?_)
                        obtain ⟨rfl, qy794⟩ := h795
                        subst qy794
                        refine q_ifeq (tgt := 162) cx ⟨by decide, by decide⟩ dX12_readsNode_149 (by decide) (fun c796 => ?_) (fun c796 => ?_)
                        · exact absurd c796 (by omega)
                        · refine q_ald_n cx dX12_readsNode_152 rfl (lv_at hl 2 rfl) ?_
                          refine q_gX12_20 cx hB hmo kmo z790 dX12_readsNode_153 (fun hb797 kb797 => ?_)
                          refine q_iconst cx dX12_readsNode_156 ?_
                          refine lv_dup2_11 cx.1 cx.2.1 dX12_readsNode_157 rfl rfl ?_
                          refine q_iald (lo := 0) (hi := 10) (n := 658) cx hB hsr ksr (by decide) rfl rfl (by decide) (by decide) (by decide) rfl z785 dX12_readsNode_158 (fun lb799 ub799 => ?_)
                          refine q_iconst cx dX12_readsNode_159 ?_
                          refine q_iadd cx dX12_readsNode_160 ?_
                          refine q_iast (lo := 0) (hi := 10) (n := 658) cx hB hsr ksr (by decide) rfl rfl (by decide) (by decide) (by decide) rfl ⟨by omega, by omega⟩ (by omega) (by omega) rfl dX12_readsNode_161 (fun H locs f800 ef800 z801 hB => ?_)
                          have z802 : q_is (q_z f800 mo 3) x484 := by rw [ef800, q_setz (Or.inr (by decide))]; exact z786
                          have z803 : q_is (q_z f800 mo 8) 0 := by rw [ef800, q_setz (Or.inr (by decide))]; exact z787
                          have z804 : q_is (q_z f800 mo 4) x777 := by rw [ef800, q_setz (Or.inr (by decide))]; exact z788
                          have z805 : q_is (q_z f800 mo 6) x778 := by rw [ef800, q_setz (Or.inr (by decide))]; exact z789
                          have z806 : q_ir (q_r f800 mo 13) sr := by rw [ef800, q_setr (Or.inr (by decide))]; exact z790
                          have z807 : q_ir (q_r f800 mo 18) nm := by rw [ef800, q_setr (Or.inr (by decide))]; exact z791
                          have z808 : q_ir (q_r f800 mo 1) bu := by rw [ef800, q_setr (Or.inr (by decide))]; exact z792
                          have g809 : q_gr f800 sr := q_gr_put g784 ef800 z801 rfl (by omega) (by omega)
                          refine q_vret cx hr hlk hB dX12_readsNode_162 ?_
                          exact (Or.inl ⟨z803, (q_isl z804 (by omega)), (k_po_is z805 z804 (k_po_mono t768 (by omega))), g809⟩)
                      · obtain ⟨lz810, uz810⟩ := h765
                        have z811 : q_is (q_z f761 sr 0) x477 := Eq.trans (hF.z hsr (by rw [ksr]; rfl)) z753
                        have z812 : q_is (q_z f761 mo 3) x484 := Eq.trans (hF.z hmo (by rw [kmo]; rfl)) z754
                        have z813 : q_ir (q_r f761 mo 13) sr := Eq.trans (hF.r hmo (by rw [kmo]; rfl)) z758
                        have z814 : q_ir (q_r f761 mo 18) nm := Eq.trans (hF.r hmo (by rw [kmo]; rfl)) z759
                        have z815 : q_ir (q_r f761 mo 1) bu := Eq.trans (hF.r hmo (by rw [kmo]; rfl)) z760
                        have g816 : q_gr f761 sr := q_gr_fr g752 (fun i9 _ => hF.z hsr (by rw [ksr]; rfl))
                        obtain ⟨x817, ex817⟩ : ∃ zz, q_is (q_z f761 mo 8) zz := ⟨_, q_isr _⟩
                        obtain ⟨lx817, ux817⟩ := q_isb ex817 ⟨lz810, uz810⟩
                        obtain ⟨x818, ex818⟩ : ∃ zz, q_is (q_z f761 mo 4) zz := ⟨_, q_isr _⟩
                        obtain ⟨lx818, ux818⟩ := q_isb ex818 (q_fib hB.2.1 hmo kmo (by decide) rfl)
                        obtain ⟨x819, ex819⟩ : ∃ zz, q_is (q_z f761 mo 6) zz := ⟨_, q_isr _⟩
                        obtain ⟨lx819, ux819⟩ := q_isb ex819 (q_fib hB.2.1 hmo kmo (by decide) rfl)
                        refine q_cVv (As := [.int (q_i x477), .int (q_i 2), .int (q_i y762)]) (rest := []) cx hB (fun _ h => h) hN hmo kmo (by decide) rfl (r_setsNodej l g hN hB.2.1 mo hmo kmo x477 (by omega) (by omega) 2 (by decide) (by decide) y762 (by omega) (by omega) sr hsr ksr z813) q_cX12_202 q_dX12_setsNode (by decide) rfl rfl hl.1 rfl (Nat.le_of_ble_eq_true rfl) dX12_readsNode_142 (fun H locs f820 h822 hF hB => ?_)
                        have z823 : q_is (q_z f820 sr 0) x477 := Eq.trans (hF.z hsr (by rw [ksr]; rfl)) z811
                        have z824 : q_is (q_z f820 mo 3) x484 := Eq.trans (hF.z hmo (by rw [kmo]; rfl)) z812
                        have z825 : q_is (q_z f820 mo 8) x817 := Eq.trans (hF.z hmo (by rw [kmo]; rfl)) ex817
                        have z826 : q_is (q_z f820 mo 4) x818 := Eq.trans (hF.z hmo (by rw [kmo]; rfl)) ex818
                        have z827 : q_is (q_z f820 mo 6) x819 := Eq.trans (hF.z hmo (by rw [kmo]; rfl)) ex819
                        have z828 : q_ir (q_r f820 mo 13) sr := Eq.trans (hF.r hmo (by rw [kmo]; rfl)) z813
                        have z829 : q_ir (q_r f820 mo 18) nm := Eq.trans (hF.r hmo (by rw [kmo]; rfl)) z814
                        have z830 : q_ir (q_r f820 mo 1) bu := Eq.trans (hF.r hmo (by rw [kmo]; rfl)) z815
                        refine q_ald_n cx dX12_readsNode_145 rfl (lv_at hl 2 rfl) ?_
                        refine q_cVi (As := []) (rest := []) cx hB (fun _ h => h) hN hmo kmo (by decide) rfl (r_isGood1 l g hN hB.2.1 mo hmo kmo x817 (by omega) (by omega) z825) q_cX12_130 q_dX12_isGood (by decide) rfl rfl hl.1 rfl (Nat.le_of_ble_eq_true rfl) dX12_readsNode_146 (fun y832 H locs f831 ry832 h833 hF hB => ?_)
                        obtain ⟨rfl, qy832⟩ := h833
                        subst qy832
                        refine q_ifeq (tgt := 162) cx ⟨by decide, by decide⟩ dX12_readsNode_149 (by decide) (fun c834 => ?_) (fun c834 => ?_)
                        · refine q_vret cx hr hlk hB dX12_readsNode_162 ?_
                          exact (Or.inr ⟨(q_isl z825 (by omega)), (q_isu z825 (by omega))⟩)
                        · exact absurd c834 (by omega)
                    · exact absurd c748 (by omega)
                  · exact absurd c747 (by omega)
              · obtain ⟨lz835, uz835⟩ := h556
                have z836 : q_is (q_z f552 sr 0) x477 := Eq.trans (hF.z hsr (by rw [ksr]; rfl)) z543
                have z837 : q_is (q_z f552 mo 3) x484 := Eq.trans (hF.z hmo (by rw [kmo]; rfl)) z544
                have z838 : q_ir (q_r f552 mo 13) sr := Eq.trans (hF.r hmo (by rw [kmo]; rfl)) z546
                have z839 : q_ir (q_r f552 mo 18) nm := Eq.trans (hF.r hmo (by rw [kmo]; rfl)) z547
                have z840 : q_ir (q_r f552 mo 1) bu := Eq.trans (hF.r hmo (by rw [kmo]; rfl)) z548
                have g841 : q_gr f552 sr := q_gr_fr g549 (fun i9 _ => hF.z hsr (by rw [ksr]; rfl))
                obtain ⟨x842, ex842⟩ : ∃ zz, q_is (q_z f552 mo 8) zz := ⟨_, q_isr _⟩
                obtain ⟨lx842, ux842⟩ := q_isb ex842 ⟨lz835, uz835⟩
                obtain ⟨x843, ex843⟩ : ∃ zz, q_is (q_z f552 mo 4) zz := ⟨_, q_isr _⟩
                obtain ⟨lx843, ux843⟩ := q_isb ex843 (q_fib hB.2.1 hmo kmo (by decide) rfl)
                obtain ⟨x844, ex844⟩ : ∃ zz, q_is (q_z f552 mo 6) zz := ⟨_, q_isr _⟩
                obtain ⟨lx844, ux844⟩ := q_isb ex844 (q_fib hB.2.1 hmo kmo (by decide) rfl)
                refine q_cVv (As := [.int (q_i x477), .int (q_i 0), .int (q_i y553)]) (rest := []) cx hB (fun _ h => h) hN hmo kmo (by decide) rfl (r_setsNodej l g hN hB.2.1 mo hmo kmo x477 (by omega) (by omega) 0 (by decide) (by decide) y553 (by omega) (by omega) sr hsr ksr z838) q_cX12_202 q_dX12_setsNode (by decide) rfl rfl hl.1 rfl (Nat.le_of_ble_eq_true rfl) dX12_readsNode_88 (fun H locs f845 h847 hF hB => ?_)
                have z848 : q_is (q_z f845 sr 0) x477 := Eq.trans (hF.z hsr (by rw [ksr]; rfl)) z836
                have z849 : q_is (q_z f845 mo 3) x484 := Eq.trans (hF.z hmo (by rw [kmo]; rfl)) z837
                have z850 : q_is (q_z f845 mo 8) x842 := Eq.trans (hF.z hmo (by rw [kmo]; rfl)) ex842
                have z851 : q_is (q_z f845 mo 4) x843 := Eq.trans (hF.z hmo (by rw [kmo]; rfl)) ex843
                have z852 : q_is (q_z f845 mo 6) x844 := Eq.trans (hF.z hmo (by rw [kmo]; rfl)) ex844
                have z853 : q_ir (q_r f845 mo 13) sr := Eq.trans (hF.r hmo (by rw [kmo]; rfl)) z838
                have z854 : q_ir (q_r f845 mo 18) nm := Eq.trans (hF.r hmo (by rw [kmo]; rfl)) z839
                have z855 : q_ir (q_r f845 mo 1) bu := Eq.trans (hF.r hmo (by rw [kmo]; rfl)) z840
                refine q_ald_n cx dX12_readsNode_91 rfl (lv_at hl 1 rfl) ?_
                refine lv_ldc2 (v := q_l 20194516) cx.1 cx.2.1 cx.2.2.2.1 (cx.2.2.2.2 _ q_h1812) dX12_readsNode_92 ?_
                refine q_cVi (As := [.long (q_l 20194516)]) (rest := []) cx hB (fun _ h => h) hN hmo kmo (by decide) rfl (r_isWord1 l g hN hB.2.1 mo hmo kmo (q_l 20194516) x842 (by omega) (by omega) z850) q_cX12_143 q_dX12_isWord (by decide) rfl rfl hl.1 rfl (Nat.le_of_ble_eq_true rfl) dX12_readsNode_95 (fun y857 H locs f856 ry857 h858 hF hB => ?_)
                obtain ⟨rfl, qy857⟩ := h858
                subst qy857
                refine lv_istore_n (lv' := [(2, .int (q_i 0)), (1, .int (q_i x477)), (0, .ref mo)]) cx.1 cx.2.1 dX12_readsNode_98 rfl hl (by decide) rfl (fun ls hl => ?_)
                refine q_ild_n cx dX12_readsNode_99 rfl (lv_at hl 0 rfl) ?_
                refine q_ifeq (tgt := 107) cx ⟨by decide, by decide⟩ dX12_readsNode_100 (by decide) (fun c859 => ?_) (fun c859 => ?_)
                · refine q_ald_n cx dX12_readsNode_107 rfl (lv_at hl 2 rfl) ?_
                  refine q_ild_n cx dX12_readsNode_108 rfl (lv_at hl 1 rfl) ?_
                  refine q_iconst cx dX12_readsNode_109 ?_
                  refine q_ild_n cx dX12_readsNode_110 rfl (lv_at hl 0 rfl) ?_
                  refine q_ifeq (tgt := 124) cx ⟨by decide, by decide⟩ dX12_readsNode_111 (by decide) (fun c860 => ?_) (fun c860 => ?_)
                  · refine q_iconst cx dX12_readsNode_124 ?_
                    refine q_cVv (As := [.int (q_i x477), .int (q_i 1), .int (q_i 0)]) (rest := []) cx hB (fun _ h => h) hN hmo kmo (by decide) rfl (r_setsNodej l g hN hB.2.1 mo hmo kmo x477 (by omega) (by omega) 1 (by decide) (by decide) 0 (by decide) (by decide) sr hsr ksr z853) q_cX12_202 q_dX12_setsNode (by decide) rfl rfl hl.1 rfl (Nat.le_of_ble_eq_true rfl) dX12_readsNode_125 (fun H locs f861 h863 hF hB => ?_)
                    have z864 : q_is (q_z f861 sr 0) x477 := Eq.trans (hF.z hsr (by rw [ksr]; rfl)) z848
                    have z865 : q_is (q_z f861 mo 3) x484 := Eq.trans (hF.z hmo (by rw [kmo]; rfl)) z849
                    have z866 : q_is (q_z f861 mo 8) x842 := Eq.trans (hF.z hmo (by rw [kmo]; rfl)) z850
                    have z867 : q_is (q_z f861 mo 4) x843 := Eq.trans (hF.z hmo (by rw [kmo]; rfl)) z851
                    have z868 : q_is (q_z f861 mo 6) x844 := Eq.trans (hF.z hmo (by rw [kmo]; rfl)) z852
                    have z869 : q_ir (q_r f861 mo 13) sr := Eq.trans (hF.r hmo (by rw [kmo]; rfl)) z853
                    have z870 : q_ir (q_r f861 mo 18) nm := Eq.trans (hF.r hmo (by rw [kmo]; rfl)) z854
                    have z871 : q_ir (q_r f861 mo 1) bu := Eq.trans (hF.r hmo (by rw [kmo]; rfl)) z855
                    refine q_ald_n cx dX12_readsNode_128 rfl (lv_at hl 2 rfl) ?_
                    refine q_ild_n cx dX12_readsNode_129 rfl (lv_at hl 1 rfl) ?_
                    refine q_iconst cx dX12_readsNode_130 ?_
                    refine q_ald_n cx dX12_readsNode_131 rfl (lv_at hl 2 rfl) ?_
                    refine lv_ldc2 (v := q_l 182634745) cx.1 cx.2.1 cx.2.2.2.1 (cx.2.2.2.2 _ q_h1813) dX12_readsNode_132 ?_
                    refine q_iconst cx dX12_readsNode_135 ?_
                    refine q_sipush cx dX12_readsNode_136 rfl ?_
                    refine q_cVi (As := [.long (q_l 182634745), .int (q_i 1), .int (q_i 999)]) (rest := [.int (q_i 2), .int (q_i x477), .ref mo]) cx hB (fun _ h => h) hN hmo kmo (by decide) rfl (r_after1 l g hN hB.2.1 mo hmo kmo (q_l 182634745) 1 (by decide) (by decide) 999 (by decide) (by decide) x842 (by omega) (by omega) z866) q_cX12_198 q_dX12_after (by decide) rfl rfl hl.1 rfl (Nat.le_of_ble_eq_true rfl) dX12_readsNode_139 (fun y873 H locs f872 ry873 h874 hF hB => ?_)
                    obtain rfl := h874
                    refine q_cVv (As := [.int (q_i x477), .int (q_i 2), .int (q_i y873)]) (rest := []) cx hB (fun _ h => h) hN hmo kmo (by decide) rfl (r_setsNodej l g hN hB.2.1 mo hmo kmo x477 (by omega) (by omega) 2 (by decide) (by decide) y873 (by omega) (by omega) sr hsr ksr z869) q_cX12_202 q_dX12_setsNode (by decide) rfl rfl hl.1 rfl (Nat.le_of_ble_eq_true rfl) dX12_readsNode_142 (fun H locs f875 h877 hF hB => ?_)
                    have z878 : q_is (q_z f875 sr 0) x477 := Eq.trans (hF.z hsr (by rw [ksr]; rfl)) z864
                    have z879 : q_is (q_z f875 mo 3) x484 := Eq.trans (hF.z hmo (by rw [kmo]; rfl)) z865
                    have z880 : q_is (q_z f875 mo 8) x842 := Eq.trans (hF.z hmo (by rw [kmo]; rfl)) z866
                    have z881 : q_is (q_z f875 mo 4) x843 := Eq.trans (hF.z hmo (by rw [kmo]; rfl)) z867
                    have z882 : q_is (q_z f875 mo 6) x844 := Eq.trans (hF.z hmo (by rw [kmo]; rfl)) z868
                    have z883 : q_ir (q_r f875 mo 13) sr := Eq.trans (hF.r hmo (by rw [kmo]; rfl)) z869
                    have z884 : q_ir (q_r f875 mo 18) nm := Eq.trans (hF.r hmo (by rw [kmo]; rfl)) z870
                    have z885 : q_ir (q_r f875 mo 1) bu := Eq.trans (hF.r hmo (by rw [kmo]; rfl)) z871
                    refine q_ald_n cx dX12_readsNode_145 rfl (lv_at hl 2 rfl) ?_
                    refine q_cVi (As := []) (rest := []) cx hB (fun _ h => h) hN hmo kmo (by decide) rfl (r_isGood1 l g hN hB.2.1 mo hmo kmo x842 (by omega) (by omega) z880) q_cX12_130 q_dX12_isGood (by decide) rfl rfl hl.1 rfl (Nat.le_of_ble_eq_true rfl) dX12_readsNode_146 (fun y887 H locs f886 ry887 h888 hF hB => ?_)
                    obtain ⟨rfl, qy887⟩ := h888
                    subst qy887
                    refine q_ifeq (tgt := 162) cx ⟨by decide, by decide⟩ dX12_readsNode_149 (by decide) (fun c889 => ?_) (fun c889 => ?_)
                    · refine q_vret cx hr hlk hB dX12_readsNode_162 ?_
                      exact (Or.inr ⟨(q_isl z880 (by omega)), (q_isu z880 (by omega))⟩)
                    · exact absurd c889 (by omega)
                  · exact absurd c860 (by omega)
                · exact absurd c859 (by omega)
            · exact absurd c524 (by omega)
          · refine q_ald_n cx dX12_readsNode_48 rfl (lv_at hl 1 rfl) ?_
            refine q_iconst cx dX12_readsNode_49 ?_
            refine q_cVv (As := [.int (q_i 3)]) (rest := []) cx hB (fun _ h => h) hN hmo kmo (by decide) rfl (r_wrong0 l g hN hB.2.1 mo hmo kmo 3 (by decide) (by decide) z504) q_cX12_137 q_dX12_wrong (by decide) rfl rfl hl.1 rfl (Nat.le_of_ble_eq_true rfl) dX12_readsNode_50 (fun H locs f890 h892 hF hB => ?_)
            obtain ⟨lz893, uz893⟩ := h892
            have z894 : q_is (q_z f890 sr 0) x477 := Eq.trans (hF.z hsr (by rw [ksr]; rfl)) z505
            have z895 : q_is (q_z f890 mo 3) x484 := Eq.trans (hF.z hmo (by rw [kmo]; rfl)) z506
            have z896 : q_is (q_z f890 mo 4) x497 := Eq.trans (hF.z hmo (by rw [kmo]; rfl)) z507
            have z897 : q_is (q_z f890 mo 6) x498 := Eq.trans (hF.z hmo (by rw [kmo]; rfl)) z508
            have z898 : q_ir (q_r f890 mo 13) sr := Eq.trans (hF.r hmo (by rw [kmo]; rfl)) z509
            have z899 : q_ir (q_r f890 mo 18) nm := Eq.trans (hF.r hmo (by rw [kmo]; rfl)) z510
            have z900 : q_ir (q_r f890 mo 1) bu := Eq.trans (hF.r hmo (by rw [kmo]; rfl)) z511
            have g901 : q_gr f890 sr := q_gr_fr g512 (fun i9 _ => hF.z hsr (by rw [ksr]; rfl))
            obtain ⟨x902, ex902⟩ : ∃ zz, q_is (q_z f890 mo 8) zz := ⟨_, q_isr _⟩
            obtain ⟨lx902, ux902⟩ := q_isb ex902 ⟨lz893, uz893⟩
            refine q_ald_n cx dX12_readsNode_53 rfl (lv_at hl 1 rfl) ?_
            refine q_cVi (As := []) (rest := []) cx hB (fun _ h => h) hN hmo kmo (by decide) rfl (r_isGood1 l g hN hB.2.1 mo hmo kmo x902 (by omega) (by omega) ex902) q_cX12_130 q_dX12_isGood (by decide) rfl rfl hl.1 rfl (Nat.le_of_ble_eq_true rfl) dX12_readsNode_54 (fun y904 H locs f903 ry904 h905 hF hB => ?_)
            obtain ⟨rfl, qy904⟩ := h905
            subst qy904
            refine q_ifne (tgt := 61) cx ⟨by decide, by decide⟩ dX12_readsNode_57 (by decide) (fun c906 => ?_) (fun c906 => ?_)
            · exact absurd c906 (by omega)
            · refine q_vret cx hr hlk hB dX12_readsNode_60 ?_
              exact (Or.inr ⟨(q_isl ex902 (by omega)), (q_isu ex902 (by omega))⟩)
      · obtain ⟨lz907, uz907⟩ := h503
        have z908 : q_is (q_z f499 sr 0) x477 := Eq.trans (hF.z hsr (by rw [ksr]; rfl)) z491
        have z909 : q_is (q_z f499 mo 3) x484 := Eq.trans (hF.z hmo (by rw [kmo]; rfl)) z492
        have z910 : q_is (q_z f499 mo 4) x497 := Eq.trans (hF.z hmo (by rw [kmo]; rfl)) ex497
        have z911 : q_is (q_z f499 mo 6) x498 := Eq.trans (hF.z hmo (by rw [kmo]; rfl)) ex498
        have z912 : q_ir (q_r f499 mo 13) sr := Eq.trans (hF.r hmo (by rw [kmo]; rfl)) z493
        have z913 : q_ir (q_r f499 mo 18) nm := Eq.trans (hF.r hmo (by rw [kmo]; rfl)) z494
        have z914 : q_ir (q_r f499 mo 1) bu := Eq.trans (hF.r hmo (by rw [kmo]; rfl)) z495
        have g915 : q_gr f499 sr := q_gr_fr g496 (fun i9 _ => hF.z hsr (by rw [ksr]; rfl))
        obtain ⟨x916, ex916⟩ : ∃ zz, q_is (q_z f499 mo 8) zz := ⟨_, q_isr _⟩
        obtain ⟨lx916, ux916⟩ := q_isb ex916 ⟨lz907, uz907⟩
        refine q_ald_n cx dX12_readsNode_33 rfl (lv_at hl 1 rfl) ?_
        refine q_cVi (As := []) (rest := []) cx hB (fun _ h => h) hN hmo kmo (by decide) rfl (r_isGood1 l g hN hB.2.1 mo hmo kmo x916 (by omega) (by omega) ex916) q_cX12_130 q_dX12_isGood (by decide) rfl rfl hl.1 rfl (Nat.le_of_ble_eq_true rfl) dX12_readsNode_34 (fun y918 H locs f917 ry918 h919 hF hB => ?_)
        obtain ⟨rfl, qy918⟩ := h919
        subst qy918
        refine q_ifeq (tgt := 53) cx ⟨by decide, by decide⟩ dX12_readsNode_37 (by decide) (fun c920 => ?_) (fun c920 => ?_)
        · refine q_ald_n cx dX12_readsNode_53 rfl (lv_at hl 1 rfl) ?_
          refine q_cVi (As := []) (rest := []) cx hB (fun _ h => h) hN hmo kmo (by decide) rfl (r_isGood1 l g hN hB.2.1 mo hmo kmo x916 (by omega) (by omega) ex916) q_cX12_130 q_dX12_isGood (by decide) rfl rfl hl.1 rfl (Nat.le_of_ble_eq_true rfl) dX12_readsNode_54 (fun y922 H locs f921 ry922 h923 hF hB => ?_)
          obtain ⟨rfl, qy922⟩ := h923
          subst qy922
          refine q_ifne (tgt := 61) cx ⟨by decide, by decide⟩ dX12_readsNode_57 (by decide) (fun c924 => ?_) (fun c924 => ?_)
          · exact absurd c924 (by omega)
          · refine q_vret cx hr hlk hB dX12_readsNode_60 ?_
            exact (Or.inr ⟨(q_isl ex916 (by omega)), (q_isu ex916 (by omega))⟩)
        · exact absurd c920 (by omega)
  · refine q_ald_n cx dX12_readsNode_13 rfl (lv_at hl 1 rfl) ?_
    refine q_iconst cx dX12_readsNode_14 ?_
    refine q_cVv (As := [.int (q_i 5)]) (rest := []) cx hB (fun _ h => h) hN hmo kmo (by decide) rfl (r_wrong0 l g hN hB.2.1 mo hmo kmo 5 (by decide) (by decide) hf0) q_cX12_137 q_dX12_wrong (by decide) rfl rfl hl.1 rfl (Nat.le_of_ble_eq_true rfl) dX12_readsNode_15 (fun H locs f925 h927 hF hB => ?_)
    obtain ⟨lz928, uz928⟩ := h927
    have z929 : q_is (q_z f925 mo 4) xp := Eq.trans (hF.z hmo (by rw [kmo]; rfl)) hf1
    have z930 : q_is (q_z f925 sr 0) x477 := Eq.trans (hF.z hsr (by rw [ksr]; rfl)) ex477
    have z931 : q_ir (q_r f925 mo 13) sr := Eq.trans (hF.r hmo (by rw [kmo]; rfl)) hr0
    have z932 : q_ir (q_r f925 mo 18) nm := Eq.trans (hF.r hmo (by rw [kmo]; rfl)) hr1
    have z933 : q_ir (q_r f925 mo 1) bu := Eq.trans (hF.r hmo (by rw [kmo]; rfl)) hr2
    have g934 : q_gr f925 sr := q_gr_fr hgr (fun i9 _ => hF.z hsr (by rw [ksr]; rfl))
    obtain ⟨x935, ex935⟩ : ∃ zz, q_is (q_z f925 mo 8) zz := ⟨_, q_isr _⟩
    obtain ⟨lx935, ux935⟩ := q_isb ex935 ⟨lz928, uz928⟩
    refine q_ald_n cx dX12_readsNode_18 rfl (lv_at hl 1 rfl) ?_
    refine q_cVi (As := []) (rest := []) cx hB (fun _ h => h) hN hmo kmo (by decide) rfl (r_isGood1 l g hN hB.2.1 mo hmo kmo x935 (by omega) (by omega) ex935) q_cX12_130 q_dX12_isGood (by decide) rfl rfl hl.1 rfl (Nat.le_of_ble_eq_true rfl) dX12_readsNode_19 (fun y937 H locs f936 ry937 h938 hF hB => ?_)
    obtain ⟨rfl, qy937⟩ := h938
    subst qy937
    refine q_ifeq (tgt := 29) cx ⟨by decide, by decide⟩ dX12_readsNode_22 (by decide) (fun c939 => ?_) (fun c939 => ?_)
    · refine q_ald_n cx dX12_readsNode_29 rfl (lv_at hl 1 rfl) ?_
      refine q_cVv (As := []) (rest := []) cx hB (fun _ h => h) hN hmo kmo (by decide) rfl (r_mustBeWord1 l g hN hB.2.1 mo hmo kmo x935 (by omega) (by omega) ex935) q_cX12_175 q_dX12_mustBeWord (by decide) rfl rfl hl.1 rfl (Nat.le_of_ble_eq_true rfl) dX12_readsNode_30 (fun H locs f940 h942 hF hB => ?_)
      obtain rfl := h942
      refine q_ald_n cx dX12_readsNode_33 rfl (lv_at hl 1 rfl) ?_
      refine q_cVi (As := []) (rest := []) cx hB (fun _ h => h) hN hmo kmo (by decide) rfl (r_isGood1 l g hN hB.2.1 mo hmo kmo x935 (by omega) (by omega) ex935) q_cX12_130 q_dX12_isGood (by decide) rfl rfl hl.1 rfl (Nat.le_of_ble_eq_true rfl) dX12_readsNode_34 (fun y944 H locs f943 ry944 h945 hF hB => ?_)
      obtain ⟨rfl, qy944⟩ := h945
      subst qy944
      refine q_ifeq (tgt := 53) cx ⟨by decide, by decide⟩ dX12_readsNode_37 (by decide) (fun c946 => ?_) (fun c946 => ?_)
      · refine q_ald_n cx dX12_readsNode_53 rfl (lv_at hl 1 rfl) ?_
        refine q_cVi (As := []) (rest := []) cx hB (fun _ h => h) hN hmo kmo (by decide) rfl (r_isGood1 l g hN hB.2.1 mo hmo kmo x935 (by omega) (by omega) ex935) q_cX12_130 q_dX12_isGood (by decide) rfl rfl hl.1 rfl (Nat.le_of_ble_eq_true rfl) dX12_readsNode_54 (fun y948 H locs f947 ry948 h949 hF hB => ?_)
        obtain ⟨rfl, qy948⟩ := h949
        subst qy948
        refine q_ifne (tgt := 61) cx ⟨by decide, by decide⟩ dX12_readsNode_57 (by decide) (fun c950 => ?_) (fun c950 => ?_)
        · exact absurd c950 (by omega)
        · refine q_vret cx hr hlk hB dX12_readsNode_60 ?_
          exact (Or.inr ⟨(q_isl ex935 (by omega)), (q_isu ex935 (by omega))⟩)
      · exact absurd c946 (by omega)
    · exact absurd c939 (by omega)
