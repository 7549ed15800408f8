set_option maxHeartbeats 4000000 in
set_option maxRecDepth 100000 in
theorem f_mreadsNode (l : Launch) (g : q_G) {K : Nat → Nat} {L : List Nat} (hN : L.Nodup) {f : Nat → va_E} (hT : q_Ty g K L f) (B : Nat → Int) (tA : tk_A) (mo : Nat) (hmo : mo ∈ L) (kmo : K mo = 12) (sr : Nat) (hsr : sr ∈ L) (ksr : K sr = 151) (nm : Nat) (hnm : nm ∈ L) (knm : K nm = 156) (bu : Nat) (hbu : bu ∈ L) (kbu : K bu = 150) (tn : Int) (ltn : 0 ≤ tn) (utn : tn ≤ 600) (ss : Int) (lss : 0 ≤ ss) (uss : ss ≤ 600) (so9 : Int) (lso9 : 1 ≤ so9) (uso9 : so9 ≤ 1) (hf0 : q_is (q_z f mo 3) tn) (hf1 : q_is (q_z f mo 5) ss) (hf2 : q_is (q_z f mo 8) 0) (hf3 : q_is (q_z f mo 9) (-1)) (hf4 : q_is (q_z f mo 6) so9) (hr0 : q_ir (q_r f mo 13) sr) (hr1 : q_ir (q_r f mo 18) nm) (hr2 : q_ir (q_r f mo 1) bu) (hgr : q_gr f sr) (htr : tk_tr f mo B tn) (hub : tk_ub f bu B tn) (htm : tk_tm f mo sr nm tA) : q_Ct l g K L yX12_readsNode cX12_readsNode 3 none 4 94 [.ref mo] f [(12, 4, 9), (12, 12, 12), (151, 0, 0), (151, 10, 89), (156, 0, 9)] (q_Pv (fun (f1 : Nat → va_E) => (q_is (q_z f1 mo 8) 0 ∧ q_is (q_z f1 mo 9) (-1) ∧ (∃ A1 : tk_A, tk_node B tn ss tA = tk_ok (q_z f1 mo 5, A1) ∧ tk_tm f1 mo sr nm A1) ∧ q_gr f1 sr ∧ (tk_tr f1 mo B tn)) ∨ (1 ≤ q_z f1 mo 8 ∧ q_z f1 mo 8 ≤ 5 ∧ (tk_node B tn ss tA = tk_er (q_z f1 mo 8) (q_z f1 mo 9)) ∧ (tk_tr f1 mo B tn)))) := by
  refine q_ofb (by decide +kernel) hN hT (Nat.le_of_ble_eq_true rfl) ?_
  intro p e s m below meth c ls cx hr hlk hB hl
  have hl : lv_has ls 3 [(0, .ref mo)] := hl
  obtain ⟨H, hH⟩ : ∃ H : Heap, H = s.heap := ⟨_, rfl⟩
  obtain ⟨locs, hlocs⟩ : ∃ z : List Loc, z = [] := ⟨_, rfl⟩
  rw [← hH, ← hlocs] at hB
  rw [← hH, ← hlocs]
  refine q_ald_n cx dX12_readsNode_0 rfl (lv_at hl 0 rfl) ?_
  refine q_gX12_20 cx hB hmo kmo hr0 dX12_readsNode_1 (fun hb602 kb602 => ?_)
  refine q_iconst cx dX12_readsNode_4 ?_
  obtain ⟨x603, ex603⟩ : ∃ zz, q_is (q_z f sr (Int.toNat 0)) zz := ⟨_, q_isr _⟩
  refine q_iald (lo := 0) (hi := 10) (n := 658) cx hB hsr ksr (by decide) rfl rfl (by decide) (by decide) (by decide) rfl ex603 dX12_readsNode_5 (fun lb604 ub604 => ?_)
  refine lv_istore_n (lv' := [(1, .int (q_i x603)), (0, .ref mo)]) cx.1 cx.2.1 dX12_readsNode_6 rfl hl (by decide) rfl (fun ls hl => ?_)
  refine q_ild_n cx dX12_readsNode_7 rfl (lv_at hl 0 rfl) ?_
  refine q_bipush cx dX12_readsNode_8 rfl ?_
  refine q_icne (tgt := 18) cx ⟨by omega, by omega⟩ ⟨by decide, by decide⟩ dX12_readsNode_10 (by decide) (fun c605 => ?_) (fun c605 => ?_)
  · refine q_ald_n cx dX12_readsNode_18 rfl (lv_at hl 1 rfl) ?_
    refine q_cVi (As := []) (rest := []) cx hB (fun _ h => h) hN hmo kmo (by decide) rfl (f_misGood l g hN hB.2.1 mo hmo kmo hf2) q_cX12_130 q_dX12_isGood (by decide) rfl rfl hl.1 rfl (Nat.le_of_ble_eq_true rfl) dX12_readsNode_19 (fun y607 H locs f606 ry607 h608 hF hB => ?_)
    obtain ⟨rfl, qy607⟩ := h608
    subst qy607
    refine q_ifeq (tgt := 29) cx ⟨by decide, by decide⟩ dX12_readsNode_22 (by decide) (fun c609 => ?_) (fun c609 => ?_)
    · exact absurd c609 (by omega)
    · refine q_ald_n cx dX12_readsNode_25 rfl (lv_at hl 1 rfl) ?_
      refine q_cVv (As := []) (rest := []) cx hB (fun _ h => h) hN hmo kmo (by decide) rfl (f_mon l g hN hB.2.1 B mo hmo kmo bu hbu kbu tn (by omega) (by omega) ss (by omega) (by omega) hf0 hf1 hr2 htr hub) q_cX12_140 q_dX12_goOn (by decide) rfl rfl hl.1 rfl (Nat.le_of_ble_eq_true rfl) dX12_readsNode_26 (fun H locs f610 h612 hF hB => ?_)
      obtain ⟨t613, g614⟩ := h612
      have z615 : q_is (q_z f610 mo 3) tn := Eq.trans (hF.z hmo (by rw [kmo]; rfl)) hf0
      have z616 : q_is (q_z f610 mo 8) 0 := Eq.trans (hF.z hmo (by rw [kmo]; rfl)) hf2
      have z617 : q_is (q_z f610 mo 9) (-1) := Eq.trans (hF.z hmo (by rw [kmo]; rfl)) hf3
      have z618 : q_is (q_z f610 sr 0) x603 := Eq.trans (hF.z hsr (by rw [ksr]; rfl)) ex603
      have z619 : q_ir (q_r f610 mo 13) sr := Eq.trans (hF.r hmo (by rw [kmo]; rfl)) hr0
      have z620 : q_ir (q_r f610 mo 18) nm := Eq.trans (hF.r hmo (by rw [kmo]; rfl)) hr1
      have z621 : q_ir (q_r f610 mo 1) bu := Eq.trans (hF.r hmo (by rw [kmo]; rfl)) hr2
      have g622 : q_gr f610 sr := q_gr_fr hgr (fun i9 _ => hF.z hsr (by rw [ksr]; rfl))
      have g623 : tk_ub f610 bu B tn := tk_ub_tr hub (fun i9 => hF.z hbu (by rw [kbu]; rfl))
      have g624 : tk_tm f610 mo sr nm tA := tk_tm_tr htm (hF.z hmo (by rw [kmo]; rfl)) (fun i9 h9 k9 => hF.z hsr (by rw [ksr]; exact q_inWr rfl h9 k9)) (fun i9 h9 k9 => hF.z hsr (by rw [ksr]; exact q_inWr rfl h9 k9)) (fun i9 => hF.j hnm (by rw [knm]; rfl))
      obtain ⟨x625, ex625⟩ : ∃ zz, q_is (q_z f610 mo 5) zz := ⟨_, q_isr _⟩
      obtain ⟨lx625, ux625⟩ := q_isb ex625 (q_fib hB.2.1 hmo kmo (by decide) rfl)
      obtain ⟨-, l0x625, u0x625, -, -⟩ := tk_tr_n g614 ex625
      refine q_ald_n cx dX12_readsNode_29 rfl (lv_at hl 1 rfl) ?_
      refine q_cVv (As := []) (rest := []) cx hB (fun _ h => h) hN hmo kmo (by decide) rfl (f_mmustBeWord l g hN hB.2.1 B mo hmo kmo bu hbu kbu tn (by omega) (by omega) x625 (by omega) (by omega) z615 ex625 z616 z617 z621 g614 g623) q_cX12_175 q_dX12_mustBeWord (by decide) rfl rfl hl.1 rfl (Nat.le_of_ble_eq_true rfl) dX12_readsNode_30 (fun H locs f626 h628 hF hB => ?_)
      rcases h628 with h629 | h630
      · obtain ⟨z631, z632, z633, z634, t635, g636⟩ := h629
        have z637 : q_is (q_z f626 mo 3) tn := Eq.trans (hF.z hmo (by rw [kmo]; rfl)) z615
        have z638 : q_is (q_z f626 sr 0) x603 := Eq.trans (hF.z hsr (by rw [ksr]; rfl)) z618
        have z639 : q_is (q_z f626 mo 5) x625 := Eq.trans (hF.z hmo (by rw [kmo]; rfl)) ex625
        have z640 : q_ir (q_r f626 mo 13) sr := Eq.trans (hF.r hmo (by rw [kmo]; rfl)) z619
        have z641 : q_ir (q_r f626 mo 18) nm := Eq.trans (hF.r hmo (by rw [kmo]; rfl)) z620
        have z642 : q_ir (q_r f626 mo 1) bu := Eq.trans (hF.r hmo (by rw [kmo]; rfl)) z621
        have g643 : q_gr f626 sr := q_gr_fr g622 (fun i9 _ => hF.z hsr (by rw [ksr]; rfl))
        have g644 : tk_ub f626 bu B tn := tk_ub_tr g623 (fun i9 => hF.z hbu (by rw [kbu]; rfl))
        have g645 : tk_tm f626 mo sr nm tA := tk_tm_tr g624 (hF.z hmo (by rw [kmo]; rfl)) (fun i9 h9 k9 => hF.z hsr (by rw [ksr]; exact q_inWr rfl h9 k9)) (fun i9 h9 k9 => hF.z hsr (by rw [ksr]; exact q_inWr rfl h9 k9)) (fun i9 => hF.j hnm (by rw [knm]; rfl))
        have g646 : tk_tr f626 mo B tn := tk_tr_tr g614 (hF.z hmo (by rw [kmo]; rfl)) (hF.z hmo (by rw [kmo]; rfl)) (hF.z hmo (by rw [kmo]; rfl)) (hF.z hmo (by rw [kmo]; rfl)) (hF.j hmo (by rw [kmo]; rfl))
        refine q_ald_n cx dX12_readsNode_33 rfl (lv_at hl 1 rfl) ?_
        refine q_cVi (As := []) (rest := []) cx hB (fun _ h => h) hN hmo kmo (by decide) rfl (f_misGood l g hN hB.2.1 mo hmo kmo z631) q_cX12_130 q_dX12_isGood (by decide) rfl rfl hl.1 rfl (Nat.le_of_ble_eq_true rfl) dX12_readsNode_34 (fun y648 H locs f647 ry648 h649 hF hB => ?_)
        obtain ⟨rfl, qy648⟩ := h649
        subst qy648
        refine q_ifeq (tgt := 53) cx ⟨by decide, by decide⟩ dX12_readsNode_37 (by decide) (fun c650 => ?_) (fun c650 => ?_)
        · exact absurd c650 (by omega)
        · refine q_ald_n cx dX12_readsNode_40 rfl (lv_at hl 1 rfl) ?_
          refine q_cVi (As := []) (rest := []) cx hB (fun _ h => h) hN hmo kmo (by decide) rfl (f_mnamed l g hN hB.2.1 B tA mo hmo kmo sr hsr ksr nm hnm knm tn (by omega) (by omega) x625 (by omega) (by omega) x603 (by omega) (by omega) z637 z633 z638 z640 z641 t635 g636 g645) q_cX12_178 q_dX12_named (by decide) rfl rfl hl.1 rfl (Nat.le_of_ble_eq_true rfl) dX12_readsNode_41 (fun y652 H locs f651 ry652 h653 hF hB => ?_)
          rcases h653 with h654 | h655
          · obtain ⟨rfl, ly652, uy652, t656, t657⟩ := h654
            refine q_iconst cx dX12_readsNode_44 ?_
            refine q_iceq (tgt := 53) cx ⟨by omega, by omega⟩ ⟨by decide, by decide⟩ dX12_readsNode_45 (by decide) (fun c658 => ?_) (fun c658 => ?_)
            · exact absurd c658 (by omega)
            · refine q_ald_n cx dX12_readsNode_48 rfl (lv_at hl 1 rfl) ?_
              refine q_iconst cx dX12_readsNode_49 ?_
              refine q_cVv (As := [.int (q_i 3)]) (rest := []) cx hB (fun _ h => h) hN hmo kmo (by decide) rfl (f_mwrongk l g hN hB.2.1 mo hmo kmo 3 (by decide) (by decide) x625 (by omega) (by omega) 1 (by decide) (by decide) z633 z634 z631 z632) q_cX12_137 q_dX12_wrong (by decide) rfl rfl hl.1 rfl (Nat.le_of_ble_eq_true rfl) dX12_readsNode_50 (fun H locs f659 h661 hF hB => ?_)
              obtain ⟨z662, z663⟩ := h661
              have z664 : q_is (q_z f659 mo 3) tn := Eq.trans (hF.z hmo (by rw [kmo]; rfl)) z637
              have z665 : q_is (q_z f659 sr 0) x603 := Eq.trans (hF.z hsr (by rw [ksr]; rfl)) z638
              have z666 : q_is (q_z f659 mo 5) x625 := Eq.trans (hF.z hmo (by rw [kmo]; rfl)) z633
              have z667 : q_is (q_z f659 mo 6) 1 := Eq.trans (hF.z hmo (by rw [kmo]; rfl)) z634
              have z668 : q_ir (q_r f659 mo 13) sr := Eq.trans (hF.r hmo (by rw [kmo]; rfl)) z640
              have z669 : q_ir (q_r f659 mo 18) nm := Eq.trans (hF.r hmo (by rw [kmo]; rfl)) z641
              have z670 : q_ir (q_r f659 mo 1) bu := Eq.trans (hF.r hmo (by rw [kmo]; rfl)) z642
              have g671 : q_gr f659 sr := q_gr_fr g643 (fun i9 _ => hF.z hsr (by rw [ksr]; rfl))
              have g672 : tk_ub f659 bu B tn := tk_ub_tr g644 (fun i9 => hF.z hbu (by rw [kbu]; rfl))
              have g673 : tk_tm f659 mo sr nm tA := tk_tm_tr g645 (hF.z hmo (by rw [kmo]; rfl)) (fun i9 h9 k9 => hF.z hsr (by rw [ksr]; exact q_inWr rfl h9 k9)) (fun i9 h9 k9 => hF.z hsr (by rw [ksr]; exact q_inWr rfl h9 k9)) (fun i9 => hF.j hnm (by rw [knm]; rfl))
              have g674 : tk_tr f659 mo B tn := tk_tr_tr g636 (hF.z hmo (by rw [kmo]; rfl)) (hF.z hmo (by rw [kmo]; rfl)) (hF.z hmo (by rw [kmo]; rfl)) (hF.z hmo (by rw [kmo]; rfl)) (hF.j hmo (by rw [kmo]; rfl))
              refine q_ald_n cx dX12_readsNode_53 rfl (lv_at hl 1 rfl) ?_
              refine q_cVi (As := []) (rest := []) cx hB (fun _ h => h) hN hmo kmo (by decide) rfl (r_isGood1 l g hN hB.2.1 mo hmo kmo 3 (by decide) (by decide) z662) q_cX12_130 q_dX12_isGood (by decide) rfl rfl hl.1 rfl (Nat.le_of_ble_eq_true rfl) dX12_readsNode_54 (fun y676 H locs f675 ry676 h677 hF hB => ?_)
              obtain ⟨rfl, qy676⟩ := h677
              subst qy676
              refine q_ifne (tgt := 61) cx ⟨by decide, by decide⟩ dX12_readsNode_57 (by decide) (fun c678 => ?_) (fun c678 => ?_)
              · exact absurd c678 (by omega)
              · refine q_vret cx hr hlk hB dX12_readsNode_60 ?_
                exact (Or.inr ⟨(q_isl z662 (by omega)), (q_isu z662 (by omega)), (tk_node_e3 (by have h7 := tk_tm_nn htm ex603; omega) (Eq.trans (Eq.symm ex625) t613) t635 t656 z662 z663), g674⟩)
          · obtain ⟨rfl, qy652, t679⟩ := h655
            subst qy652
            refine q_iconst cx dX12_readsNode_44 ?_
            refine q_iceq (tgt := 53) cx ⟨by decide, by decide⟩ ⟨by decide, by decide⟩ dX12_readsNode_45 (by decide) (fun c680 => ?_) (fun c680 => ?_)
            · refine q_ald_n cx dX12_readsNode_53 rfl (lv_at hl 1 rfl) ?_
              refine q_cVi (As := []) (rest := []) cx hB (fun _ h => h) hN hmo kmo (by decide) rfl (f_misGood l g hN hB.2.1 mo hmo kmo z631) q_cX12_130 q_dX12_isGood (by decide) rfl rfl hl.1 rfl (Nat.le_of_ble_eq_true rfl) dX12_readsNode_54 (fun y682 H locs f681 ry682 h683 hF hB => ?_)
              obtain ⟨rfl, qy682⟩ := h683
              subst qy682
              refine q_ifne (tgt := 61) cx ⟨by decide, by decide⟩ dX12_readsNode_57 (by decide) (fun c684 => ?_) (fun c684 => ?_)
              · refine q_ald_n cx dX12_readsNode_61 rfl (lv_at hl 1 rfl) ?_
                refine q_gX12_35 cx hB hmo kmo z641 dX12_readsNode_62 (fun hb685 kb685 => ?_)
                refine q_ild_n cx dX12_readsNode_65 rfl (lv_at hl 0 rfl) ?_
                refine q_ald_n cx dX12_readsNode_66 rfl (lv_at hl 1 rfl) ?_
                refine q_gX12_110 cx hB hmo kmo (tk_tr_w g636 z633 t635) dX12_readsNode_67 ?_
                refine q_last (n := 10) cx hB hnm knm (by decide) rfl rfl (by omega) (by omega) (by decide) rfl (q_inWi (lo := 0) (hi := 9) (by decide) (by omega) (by omega)) dX12_readsNode_70 (fun H locs f686 ef686 z687 hB => ?_)
                have z688 : q_is (q_z f686 mo 3) tn := by rw [ef686, q_setz (Or.inl (fun q => by rw [q, knm] at kmo; exact absurd kmo (by decide)))]; exact z637
                have z689 : q_is (q_z f686 sr 0) x603 := by rw [ef686, q_setz (Or.inl (fun q => by rw [q, knm] at ksr; exact absurd ksr (by decide)))]; exact z638
                have z690 : q_is (q_z f686 mo 5) x625 := by rw [ef686, q_setz (Or.inl (fun q => by rw [q, knm] at kmo; exact absurd kmo (by decide)))]; exact z633
                have z691 : q_is (q_z f686 mo 8) 0 := by rw [ef686, q_setz (Or.inl (fun q => by rw [q, knm] at kmo; exact absurd kmo (by decide)))]; exact z631
                have z692 : q_is (q_z f686 mo 9) (-1) := by rw [ef686, q_setz (Or.inl (fun q => by rw [q, knm] at kmo; exact absurd kmo (by decide)))]; exact z632
                have z693 : q_is (q_z f686 mo 6) 1 := by rw [ef686, q_setz (Or.inl (fun q => by rw [q, knm] at kmo; exact absurd kmo (by decide)))]; exact z634
                have z694 : q_j f686 mo 12 = (tk_mw (tk_w B tn x625)) := by rw [ef686, q_setj (Or.inl (fun q => by rw [q, knm] at kmo; exact absurd kmo (by decide)))]; exact (tk_tr_w g636 z633 t635)
                have z695 : q_ir (q_r f686 mo 13) sr := by rw [ef686, q_setr (Or.inl (fun q => by rw [q, knm] at kmo; exact absurd kmo (by decide)))]; exact z640
                have z696 : q_ir (q_r f686 mo 18) nm := by rw [ef686, q_setr (Or.inl (fun q => by rw [q, knm] at kmo; exact absurd kmo (by decide)))]; exact z641
                have z697 : q_ir (q_r f686 mo 1) bu := by rw [ef686, q_setr (Or.inl (fun q => by rw [q, knm] at kmo; exact absurd kmo (by decide)))]; exact z642
                have g698 : q_gr f686 sr := q_gr_ne g643 ef686 (fun q => q_kne (k := 151) (k2 := 156) (by decide) ksr knm q)
                have g699 : tk_ub f686 bu B tn := tk_ub_tr g644 (fun i9 => by rw [ef686, q_setz (Or.inl (fun q => by rw [q, knm] at kbu; exact absurd kbu (by decide)))])
                have g700 : tk_tm f686 mo sr nm tA := tk_tm_pn g645 (by have h7 := tk_tm_nn g645 z638; omega) ef686 (by rw [ef686, q_setz (Or.inl (fun q => by rw [q, knm] at kmo; exact absurd kmo (by decide)))]) (fun i9 h9 k9 => by rw [ef686, q_setz (Or.inl (fun q => by rw [q, knm] at ksr; exact absurd ksr (by decide)))]) (fun i9 h9 k9 => by rw [ef686, q_setz (Or.inl (fun q => by rw [q, knm] at ksr; exact absurd ksr (by decide)))])
                have g701 : tk_tr f686 mo B tn := tk_tr_tr g636 (by rw [ef686, q_setz (Or.inl (fun q => by rw [q, knm] at kmo; exact absurd kmo (by decide)))]) (by rw [ef686, q_setz (Or.inl (fun q => by rw [q, knm] at kmo; exact absurd kmo (by decide)))]) (by rw [ef686, q_setz (Or.inl (fun q => by rw [q, knm] at kmo; exact absurd kmo (by decide)))]) (by rw [ef686, q_setz (Or.inl (fun q => by rw [q, knm] at kmo; exact absurd kmo (by decide)))]) (by rw [ef686, q_setj (Or.inl (fun q => by rw [q, knm] at kmo; exact absurd kmo (by decide)))])
                have hnw9 : q_j f686 nm (Int.toNat x603) = tk_mw (tk_w B tn x625) := z687
                refine q_ald_n cx dX12_readsNode_71 rfl (lv_at hl 1 rfl) ?_
                refine q_cVv (As := []) (rest := []) cx hB (fun _ h => h) hN hmo kmo (by decide) rfl (f_mon l g hN hB.2.1 B mo hmo kmo bu hbu kbu tn (by omega) (by omega) x625 (by omega) (by omega) z688 z690 z697 g701 g699) q_cX12_140 q_dX12_goOn (by decide) rfl rfl hl.1 rfl (Nat.le_of_ble_eq_true rfl) dX12_readsNode_72 (fun H locs f702 h704 hF hB => ?_)
                obtain ⟨t705, g706⟩ := h704
                have z707 : q_is (q_z f702 mo 3) tn := Eq.trans (hF.z hmo (by rw [kmo]; rfl)) z688
                have z708 : q_is (q_z f702 sr 0) x603 := Eq.trans (hF.z hsr (by rw [ksr]; rfl)) z689
                have z709 : q_is (q_z f702 mo 8) 0 := Eq.trans (hF.z hmo (by rw [kmo]; rfl)) z691
                have z710 : q_is (q_z f702 mo 9) (-1) := Eq.trans (hF.z hmo (by rw [kmo]; rfl)) z692
                have z711 : q_ir (q_r f702 mo 13) sr := Eq.trans (hF.r hmo (by rw [kmo]; rfl)) z695
                have z712 : q_ir (q_r f702 mo 18) nm := Eq.trans (hF.r hmo (by rw [kmo]; rfl)) z696
                have z713 : q_ir (q_r f702 mo 1) bu := Eq.trans (hF.r hmo (by rw [kmo]; rfl)) z697
                have g714 : q_gr f702 sr := q_gr_fr g698 (fun i9 _ => hF.z hsr (by rw [ksr]; rfl))
                have g715 : tk_ub f702 bu B tn := tk_ub_tr g699 (fun i9 => hF.z hbu (by rw [kbu]; rfl))
                have g716 : tk_tm f702 mo sr nm tA := tk_tm_tr g700 (hF.z hmo (by rw [kmo]; rfl)) (fun i9 h9 k9 => hF.z hsr (by rw [ksr]; exact q_inWr rfl h9 k9)) (fun i9 h9 k9 => hF.z hsr (by rw [ksr]; exact q_inWr rfl h9 k9)) (fun i9 => hF.j hnm (by rw [knm]; rfl))
                have g717 : q_j f702 nm (Int.toNat x603) = tk_mw (tk_w B tn x625) := tk_nw_tr hnw9 (fun i9 => hF.j hnm (by rw [knm]; rfl))
                obtain ⟨x718, ex718⟩ : ∃ zz, q_is (q_z f702 mo 5) zz := ⟨_, q_isr _⟩
                obtain ⟨lx718, ux718⟩ := q_isb ex718 (q_fib hB.2.1 hmo kmo (by decide) rfl)
                obtain ⟨-, l0x718, u0x718, -, -⟩ := tk_tr_n g706 ex718
                refine q_ald_n cx dX12_readsNode_75 rfl (lv_at hl 1 rfl) ?_
                refine q_ild_n cx dX12_readsNode_76 rfl (lv_at hl 0 rfl) ?_
                refine q_iconst cx dX12_readsNode_77 ?_
                refine q_ald_n cx dX12_readsNode_78 rfl (lv_at hl 1 rfl) ?_
                refine lv_ldc2 (v := q_l 81486) cx.1 cx.2.1 cx.2.2.2.1 (cx.2.2.2.2 _ q_h1796) dX12_readsNode_79 ?_
                refine q_iconst cx dX12_readsNode_82 ?_
                refine q_bipush cx dX12_readsNode_83 rfl ?_
                refine q_cVi (As := [.long (q_l 81486), .int (q_i 0), .int (q_i 59)]) (rest := [.int (q_i 0), .int (q_i x603), .ref mo]) cx hB (fun _ h => h) hN hmo kmo (by decide) rfl (f_mafter l g hN hB.2.1 B tk_wBorn mo hmo kmo (q_l 81486) 0 (by decide) (by decide) 59 (by decide) (by decide) bu hbu kbu tn (by omega) (by omega) x718 (by omega) (by omega) z707 ex718 z709 z710 z713 (by decide +kernel : (q_l 81486) = tk_mw tk_wBorn) tk_iBorn g706 g715) q_cX12_198 q_dX12_after (by decide) rfl rfl hl.1 rfl (Nat.le_of_ble_eq_true rfl) dX12_readsNode_85 (fun y720 H locs f719 ry720 h721 hF hB => ?_)
                rcases h721 with h722 | h723
                · obtain ⟨z724, z725, t726, t727, t728, g729⟩ := h722
                  have z730 : q_is (q_z f719 mo 3) tn := Eq.trans (hF.z hmo (by rw [kmo]; rfl)) z707
                  have z731 : q_is (q_z f719 sr 0) x603 := Eq.trans (hF.z hsr (by rw [ksr]; rfl)) z708
                  have z732 : q_ir (q_r f719 mo 13) sr := Eq.trans (hF.r hmo (by rw [kmo]; rfl)) z711
                  have z733 : q_ir (q_r f719 mo 18) nm := Eq.trans (hF.r hmo (by rw [kmo]; rfl)) z712
                  have z734 : q_ir (q_r f719 mo 1) bu := Eq.trans (hF.r hmo (by rw [kmo]; rfl)) z713
                  have g735 : q_gr f719 sr := q_gr_fr g714 (fun i9 _ => hF.z hsr (by rw [ksr]; rfl))
                  have g736 : tk_ub f719 bu B tn := tk_ub_tr g715 (fun i9 => hF.z hbu (by rw [kbu]; rfl))
                  have g737 : tk_tm f719 mo sr nm tA := tk_tm_tr g716 (hF.z hmo (by rw [kmo]; rfl)) (fun i9 h9 k9 => hF.z hsr (by rw [ksr]; exact q_inWr rfl h9 k9)) (fun i9 h9 k9 => hF.z hsr (by rw [ksr]; exact q_inWr rfl h9 k9)) (fun i9 => hF.j hnm (by rw [knm]; rfl))
                  have g738 : q_j f719 nm (Int.toNat x603) = tk_mw (tk_w B tn x625) := tk_nw_tr g717 (fun i9 => hF.j hnm (by rw [knm]; rfl))
                  obtain ⟨x739, ex739⟩ : ∃ zz, q_is (q_z f719 mo 5) zz := ⟨_, q_isr _⟩
                  obtain ⟨lx739, ux739⟩ := q_isb ex739 (q_fib hB.2.1 hmo kmo (by decide) rfl)
                  obtain ⟨-, l0x739, u0x739, -, -⟩ := tk_tr_n g729 ex739
                  refine q_cVv (As := [.int (q_i x603), .int (q_i 0), .int (q_i y720)]) (rest := []) cx hB (fun _ h => h) hN hmo kmo (by decide) rfl (r_setsNode0 l g hN hB.2.1 mo hmo kmo x603 (by omega) (by omega) 0 (by decide) (by decide) y720 (by omega) (by omega) sr hsr ksr z732 g735) q_cX12_202 q_dX12_setsNode (by decide) rfl rfl hl.1 rfl (Nat.le_of_ble_eq_true rfl) dX12_readsNode_88 (fun H locs f740 h742 hF hB => ?_)
                  have g743 := h742
                  have z744 : q_is (q_z f740 mo 3) tn := Eq.trans (hF.z hmo (by rw [kmo]; rfl)) z730
                  have z745 : q_is (q_z f740 sr 0) x603 := Eq.trans (hF.z hsr (by rw [ksr]; rfl)) z731
                  have z746 : q_is (q_z f740 mo 8) 0 := Eq.trans (hF.z hmo (by rw [kmo]; rfl)) z724
                  have z747 : q_is (q_z f740 mo 9) (-1) := Eq.trans (hF.z hmo (by rw [kmo]; rfl)) z725
                  have z748 : q_is (q_z f740 mo 5) x739 := Eq.trans (hF.z hmo (by rw [kmo]; rfl)) ex739
                  have z749 : q_ir (q_r f740 mo 13) sr := Eq.trans (hF.r hmo (by rw [kmo]; rfl)) z732
                  have z750 : q_ir (q_r f740 mo 18) nm := Eq.trans (hF.r hmo (by rw [kmo]; rfl)) z733
                  have z751 : q_ir (q_r f740 mo 1) bu := Eq.trans (hF.r hmo (by rw [kmo]; rfl)) z734
                  have g752 : tk_ub f740 bu B tn := tk_ub_tr g736 (fun i9 => hF.z hbu (by rw [kbu]; rfl))
                  have g753 : tk_tm f740 mo sr nm tA := tk_tm_tr g737 (hF.z hmo (by rw [kmo]; rfl)) (fun i9 h9 k9 => hF.z hsr (by rw [ksr]; exact q_inWr rfl h9 k9)) (fun i9 h9 k9 => hF.z hsr (by rw [ksr]; exact q_inWr rfl h9 k9)) (fun i9 => hF.j hnm (by rw [knm]; rfl))
                  have g754 : q_j f740 nm (Int.toNat x603) = tk_mw (tk_w B tn x625) := tk_nw_tr g738 (fun i9 => hF.j hnm (by rw [knm]; rfl))
                  have g755 : tk_tr f740 mo B tn := tk_tr_tr g729 (hF.z hmo (by rw [kmo]; rfl)) (hF.z hmo (by rw [kmo]; rfl)) (hF.z hmo (by rw [kmo]; rfl)) (hF.z hmo (by rw [kmo]; rfl)) (hF.j hmo (by rw [kmo]; rfl))
                  refine q_ald_n cx dX12_readsNode_91 rfl (lv_at hl 1 rfl) ?_
                  refine lv_ldc2 (v := q_l 20194516) cx.1 cx.2.1 cx.2.2.2.1 (cx.2.2.2.2 _ q_h1812) dX12_readsNode_92 ?_
                  refine q_cVi (As := [.long (q_l 20194516)]) (rest := []) cx hB (fun _ h => h) hN hmo kmo (by decide) rfl (f_misWord l g hN hB.2.1 B tk_wShift mo hmo kmo (q_l 20194516) bu hbu kbu tn (by omega) (by omega) x739 (by omega) (by omega) z744 z748 z746 z747 z751 (by decide +kernel : (q_l 20194516) = tk_mw tk_wShift) tk_iShift g755 g752) q_cX12_143 q_dX12_isWord (by decide) rfl rfl hl.1 rfl (Nat.le_of_ble_eq_true rfl) dX12_readsNode_95 (fun y757 H locs f756 ry757 h758 hF hB => ?_)
                  rcases h758 with h759 | h760
                  · obtain ⟨rfl, qy757, z761, t762⟩ := h759
                    subst qy757
                    refine lv_istore_n (lv' := [(2, .int (q_i 1)), (1, .int (q_i x603)), (0, .ref mo)]) cx.1 cx.2.1 dX12_readsNode_98 rfl hl (by decide) rfl (fun ls hl => ?_)
                    refine q_ild_n cx dX12_readsNode_99 rfl (lv_at hl 0 rfl) ?_
                    refine q_ifeq (tgt := 107) cx ⟨by decide, by decide⟩ dX12_readsNode_100 (by decide) (fun c763 => ?_) (fun c763 => ?_)
                    · exact absurd c763 (by omega)
                    · refine q_ald_n cx dX12_readsNode_103 rfl (lv_at hl 2 rfl) ?_
                      refine q_cVv (As := []) (rest := []) cx hB (fun _ h => h) hN hmo kmo (by decide) rfl (f_mon l g hN hB.2.1 B mo hmo kmo bu hbu kbu tn (by omega) (by omega) x739 (by omega) (by omega) z744 z748 z751 g755 g752) q_cX12_140 q_dX12_goOn (by decide) rfl rfl hl.1 rfl (Nat.le_of_ble_eq_true rfl) dX12_readsNode_104 (fun H locs f764 h766 hF hB => ?_)
                      obtain ⟨t767, g768⟩ := h766
                      have z769 : q_is (q_z f764 mo 3) tn := Eq.trans (hF.z hmo (by rw [kmo]; rfl)) z744
                      have z770 : q_is (q_z f764 sr 0) x603 := Eq.trans (hF.z hsr (by rw [ksr]; rfl)) z745
                      have z771 : q_is (q_z f764 mo 8) 0 := Eq.trans (hF.z hmo (by rw [kmo]; rfl)) z746
                      have z772 : q_is (q_z f764 mo 9) (-1) := Eq.trans (hF.z hmo (by rw [kmo]; rfl)) z747
                      have z773 : q_ir (q_r f764 mo 13) sr := Eq.trans (hF.r hmo (by rw [kmo]; rfl)) z749
                      have z774 : q_ir (q_r f764 mo 18) nm := Eq.trans (hF.r hmo (by rw [kmo]; rfl)) z750
                      have z775 : q_ir (q_r f764 mo 1) bu := Eq.trans (hF.r hmo (by rw [kmo]; rfl)) z751
                      have g776 : q_gr f764 sr := q_gr_fr g743 (fun i9 _ => hF.z hsr (by rw [ksr]; rfl))
                      have g777 : tk_ub f764 bu B tn := tk_ub_tr g752 (fun i9 => hF.z hbu (by rw [kbu]; rfl))
                      have g778 : tk_tm f764 mo sr nm tA := tk_tm_tr g753 (hF.z hmo (by rw [kmo]; rfl)) (fun i9 h9 k9 => hF.z hsr (by rw [ksr]; exact q_inWr rfl h9 k9)) (fun i9 h9 k9 => hF.z hsr (by rw [ksr]; exact q_inWr rfl h9 k9)) (fun i9 => hF.j hnm (by rw [knm]; rfl))
                      have g779 : q_j f764 nm (Int.toNat x603) = tk_mw (tk_w B tn x625) := tk_nw_tr g754 (fun i9 => hF.j hnm (by rw [knm]; rfl))
                      obtain ⟨x780, ex780⟩ : ∃ zz, q_is (q_z f764 mo 5) zz := ⟨_, q_isr _⟩
                      obtain ⟨lx780, ux780⟩ := q_isb ex780 (q_fib hB.2.1 hmo kmo (by decide) rfl)
                      obtain ⟨-, l0x780, u0x780, -, -⟩ := tk_tr_n g768 ex780
                      refine q_ald_n cx dX12_readsNode_107 rfl (lv_at hl 2 rfl) ?_
                      refine q_ild_n cx dX12_readsNode_108 rfl (lv_at hl 1 rfl) ?_
                      refine q_iconst cx dX12_readsNode_109 ?_
                      refine q_ild_n cx dX12_readsNode_110 rfl (lv_at hl 0 rfl) ?_
                      refine q_ifeq (tgt := 124) cx ⟨by decide, by decide⟩ dX12_readsNode_111 (by decide) (fun c781 => ?_) (fun c781 => ?_)
                      · exact absurd c781 (by omega)
                      · refine q_ald_n cx dX12_readsNode_114 rfl (lv_at hl 2 rfl) ?_
                        refine q_iconst cx dX12_readsNode_115 ?_
                        refine q_bipush cx dX12_readsNode_116 rfl ?_
                        refine q_cVi (As := [.int (q_i 0), .int (q_i 59)]) (rest := [.int (q_i 1), .int (q_i x603), .ref mo]) cx hB (fun _ h => h) hN hmo kmo (by decide) rfl (f_mnumber l g hN hB.2.1 B mo hmo kmo 0 (by decide) (by decide) 59 (by decide) (by decide) bu hbu kbu tn (by omega) (by omega) x780 (by omega) (by omega) z769 ex780 z771 z772 z775 g768 g777) q_cX12_193 q_dX12_number (by decide) rfl rfl hl.1 rfl (Nat.le_of_ble_eq_true rfl) dX12_readsNode_118 (fun y783 H locs f782 ry783 h784 hF hB => ?_)
                        rcases h784 with h785 | h786
                        · obtain ⟨z787, z788, t789, t790, t791, g792⟩ := h785
                          have z793 : q_is (q_z f782 mo 3) tn := Eq.trans (hF.z hmo (by rw [kmo]; rfl)) z769
                          have z794 : q_is (q_z f782 sr 0) x603 := Eq.trans (hF.z hsr (by rw [ksr]; rfl)) z770
                          have z795 : q_ir (q_r f782 mo 13) sr := Eq.trans (hF.r hmo (by rw [kmo]; rfl)) z773
                          have z796 : q_ir (q_r f782 mo 18) nm := Eq.trans (hF.r hmo (by rw [kmo]; rfl)) z774
                          have z797 : q_ir (q_r f782 mo 1) bu := Eq.trans (hF.r hmo (by rw [kmo]; rfl)) z775
                          have g798 : q_gr f782 sr := q_gr_fr g776 (fun i9 _ => hF.z hsr (by rw [ksr]; rfl))
                          have g799 : tk_ub f782 bu B tn := tk_ub_tr g777 (fun i9 => hF.z hbu (by rw [kbu]; rfl))
                          have g800 : tk_tm f782 mo sr nm tA := tk_tm_tr g778 (hF.z hmo (by rw [kmo]; rfl)) (fun i9 h9 k9 => hF.z hsr (by rw [ksr]; exact q_inWr rfl h9 k9)) (fun i9 h9 k9 => hF.z hsr (by rw [ksr]; exact q_inWr rfl h9 k9)) (fun i9 => hF.j hnm (by rw [knm]; rfl))
                          have g801 : q_j f782 nm (Int.toNat x603) = tk_mw (tk_w B tn x625) := tk_nw_tr g779 (fun i9 => hF.j hnm (by rw [knm]; rfl))
                          obtain ⟨x802, ex802⟩ : ∃ zz, q_is (q_z f782 mo 5) zz := ⟨_, q_isr _⟩
                          obtain ⟨lx802, ux802⟩ := q_isb ex802 (q_fib hB.2.1 hmo kmo (by decide) rfl)
                          obtain ⟨-, l0x802, u0x802, -, -⟩ := tk_tr_n g792 ex802
                          refine lv_goto (tgt := 125) cx.1 cx.2.1 dX12_readsNode_121 (by decide) ?_
                          refine q_cVv (As := [.int (q_i x603), .int (q_i 1), .int (q_i y783)]) (rest := []) cx hB (fun _ h => h) hN hmo kmo (by decide) rfl (r_setsNode1 l g hN hB.2.1 mo hmo kmo x603 (by omega) (by omega) 1 (by decide) (by decide) y783 (by omega) (by omega) sr hsr ksr z795 g798) q_cX12_202 q_dX12_setsNode (by decide) rfl rfl hl.1 rfl (Nat.le_of_ble_eq_true rfl) dX12_readsNode_125 (fun H locs f803 h805 hF hB => ?_)
                          have g806 := h805
                          have z807 : q_is (q_z f803 mo 3) tn := Eq.trans (hF.z hmo (by rw [kmo]; rfl)) z793
                          have z808 : q_is (q_z f803 sr 0) x603 := Eq.trans (hF.z hsr (by rw [ksr]; rfl)) z794
                          have z809 : q_is (q_z f803 mo 8) 0 := Eq.trans (hF.z hmo (by rw [kmo]; rfl)) z787
                          have z810 : q_is (q_z f803 mo 9) (-1) := Eq.trans (hF.z hmo (by rw [kmo]; rfl)) z788
                          have z811 : q_is (q_z f803 mo 5) x802 := Eq.trans (hF.z hmo (by rw [kmo]; rfl)) ex802
                          have z812 : q_ir (q_r f803 mo 13) sr := Eq.trans (hF.r hmo (by rw [kmo]; rfl)) z795
                          have z813 : q_ir (q_r f803 mo 18) nm := Eq.trans (hF.r hmo (by rw [kmo]; rfl)) z796
                          have z814 : q_ir (q_r f803 mo 1) bu := Eq.trans (hF.r hmo (by rw [kmo]; rfl)) z797
                          have g815 : tk_ub f803 bu B tn := tk_ub_tr g799 (fun i9 => hF.z hbu (by rw [kbu]; rfl))
                          have g816 : tk_tm f803 mo sr nm tA := tk_tm_tr g800 (hF.z hmo (by rw [kmo]; rfl)) (fun i9 h9 k9 => hF.z hsr (by rw [ksr]; exact q_inWr rfl h9 k9)) (fun i9 h9 k9 => hF.z hsr (by rw [ksr]; exact q_inWr rfl h9 k9)) (fun i9 => hF.j hnm (by rw [knm]; rfl))
                          have g817 : q_j f803 nm (Int.toNat x603) = tk_mw (tk_w B tn x625) := tk_nw_tr g801 (fun i9 => hF.j hnm (by rw [knm]; rfl))
                          have g818 : tk_tr f803 mo B tn := tk_tr_tr g792 (hF.z hmo (by rw [kmo]; rfl)) (hF.z hmo (by rw [kmo]; rfl)) (hF.z hmo (by rw [kmo]; rfl)) (hF.z hmo (by rw [kmo]; rfl)) (hF.j hmo (by rw [kmo]; rfl))
                          refine q_ald_n cx dX12_readsNode_128 rfl (lv_at hl 2 rfl) ?_
                          refine q_ild_n cx dX12_readsNode_129 rfl (lv_at hl 1 rfl) ?_
                          refine q_iconst cx dX12_readsNode_130 ?_
                          refine q_ald_n cx dX12_readsNode_131 rfl (lv_at hl 2 rfl) ?_
                          refine lv_ldc2 (v := q_l 182634745) cx.1 cx.2.1 cx.2.2.2.1 (cx.2.2.2.2 _ q_h1813) dX12_readsNode_132 ?_
                          refine q_iconst cx dX12_readsNode_135 ?_
                          refine q_sipush cx dX12_readsNode_136 rfl ?_
                          refine q_cVi (As := [.long (q_l 182634745), .int (q_i 1), .int (q_i 999)]) (rest := [.int (q_i 2), .int (q_i x603), .ref mo]) cx hB (fun _ h => h) hN hmo kmo (by decide) rfl (f_mafter l g hN hB.2.1 B tk_wEnergy mo hmo kmo (q_l 182634745) 1 (by decide) (by decide) 999 (by decide) (by decide) bu hbu kbu tn (by omega) (by omega) x802 (by omega) (by omega) z807 z811 z809 z810 z814 (by decide +kernel : (q_l 182634745) = tk_mw tk_wEnergy) tk_iEnergy g818 g815) q_cX12_198 q_dX12_after (by decide) rfl rfl hl.1 rfl (Nat.le_of_ble_eq_true rfl) dX12_readsNode_139 (fun y820 H locs f819 ry820 h821 hF hB => ?_)
                          rcases h821 with h822 | h823
                          · obtain ⟨z824, z825, t826, t827, t828, g829⟩ := h822
                            have z830 : q_is (q_z f819 mo 3) tn := Eq.trans (hF.z hmo (by rw [kmo]; rfl)) z807
                            have z831 : q_is (q_z f819 sr 0) x603 := Eq.trans (hF.z hsr (by rw [ksr]; rfl)) z808
                            have z832 : q_ir (q_r f819 mo 13) sr := Eq.trans (hF.r hmo (by rw [kmo]; rfl)) z812
                            have z833 : q_ir (q_r f819 mo 18) nm := Eq.trans (hF.r hmo (by rw [kmo]; rfl)) z813
                            have z834 : q_ir (q_r f819 mo 1) bu := Eq.trans (hF.r hmo (by rw [kmo]; rfl)) z814
                            have g835 : q_gr f819 sr := q_gr_fr g806 (fun i9 _ => hF.z hsr (by rw [ksr]; rfl))
                            have g836 : tk_ub f819 bu B tn := tk_ub_tr g815 (fun i9 => hF.z hbu (by rw [kbu]; rfl))
                            have g837 : tk_tm f819 mo sr nm tA := tk_tm_tr g816 (hF.z hmo (by rw [kmo]; rfl)) (fun i9 h9 k9 => hF.z hsr (by rw [ksr]; exact q_inWr rfl h9 k9)) (fun i9 h9 k9 => hF.z hsr (by rw [ksr]; exact q_inWr rfl h9 k9)) (fun i9 => hF.j hnm (by rw [knm]; rfl))
                            have g838 : q_j f819 nm (Int.toNat x603) = tk_mw (tk_w B tn x625) := tk_nw_tr g817 (fun i9 => hF.j hnm (by rw [knm]; rfl))
                            obtain ⟨x839, ex839⟩ : ∃ zz, q_is (q_z f819 mo 5) zz := ⟨_, q_isr _⟩
                            obtain ⟨lx839, ux839⟩ := q_isb ex839 (q_fib hB.2.1 hmo kmo (by decide) rfl)
                            obtain ⟨-, l0x839, u0x839, -, -⟩ := tk_tr_n g829 ex839
                            refine q_cVv (As := [.int (q_i x603), .int (q_i 2), .int (q_i y820)]) (rest := []) cx hB (fun _ h => h) hN hmo kmo (by decide) rfl (r_setsNode2 l g hN hB.2.1 mo hmo kmo x603 (by omega) (by omega) 2 (by decide) (by decide) y820 (by omega) (by omega) sr hsr ksr z832 g835) q_cX12_202 q_dX12_setsNode (by decide) rfl rfl hl.1 rfl (Nat.le_of_ble_eq_true rfl) dX12_readsNode_142 (fun H locs f840 h842 hF hB => ?_)
                            obtain ⟨t843, t844, g845⟩ := h842
                            have z846 : q_is (q_z f840 mo 3) tn := Eq.trans (hF.z hmo (by rw [kmo]; rfl)) z830
                            have z847 : q_is (q_z f840 sr 0) x603 := Eq.trans (hF.z hsr (by rw [ksr]; rfl)) z831
                            have z848 : q_is (q_z f840 mo 8) 0 := Eq.trans (hF.z hmo (by rw [kmo]; rfl)) z824
                            have z849 : q_is (q_z f840 mo 9) (-1) := Eq.trans (hF.z hmo (by rw [kmo]; rfl)) z825
                            have z850 : q_is (q_z f840 mo 5) x839 := Eq.trans (hF.z hmo (by rw [kmo]; rfl)) ex839
                            have z851 : q_ir (q_r f840 mo 13) sr := Eq.trans (hF.r hmo (by rw [kmo]; rfl)) z832
                            have z852 : q_ir (q_r f840 mo 18) nm := Eq.trans (hF.r hmo (by rw [kmo]; rfl)) z833
                            have z853 : q_ir (q_r f840 mo 1) bu := Eq.trans (hF.r hmo (by rw [kmo]; rfl)) z834
                            have g854 : tk_ub f840 bu B tn := tk_ub_tr g836 (fun i9 => hF.z hbu (by rw [kbu]; rfl))
                            have g855 : tk_tm f840 mo sr nm tA := tk_tm_tr g837 (hF.z hmo (by rw [kmo]; rfl)) (fun i9 h9 k9 => hF.z hsr (by rw [ksr]; exact q_inWr rfl h9 k9)) (fun i9 h9 k9 => hF.z hsr (by rw [ksr]; exact q_inWr rfl h9 k9)) (fun i9 => hF.j hnm (by rw [knm]; rfl))
                            have g856 : q_j f840 nm (Int.toNat x603) = tk_mw (tk_w B tn x625) := tk_nw_tr g838 (fun i9 => hF.j hnm (by rw [knm]; rfl))
                            have g857 : tk_tr f840 mo B tn := tk_tr_tr g829 (hF.z hmo (by rw [kmo]; rfl)) (hF.z hmo (by rw [kmo]; rfl)) (hF.z hmo (by rw [kmo]; rfl)) (hF.z hmo (by rw [kmo]; rfl)) (hF.j hmo (by rw [kmo]; rfl))
                            refine q_ald_n cx dX12_readsNode_145 rfl (lv_at hl 2 rfl) ?_
                            refine q_cVi (As := []) (rest := []) cx hB (fun _ h => h) hN hmo kmo (by decide) rfl (f_misGood l g hN hB.2.1 mo hmo kmo z848) q_cX12_130 q_dX12_isGood (by decide) rfl rfl hl.1 rfl (Nat.le_of_ble_eq_true rfl) dX12_readsNode_146 (fun y859 H locs f858 ry859 h860 hF hB => ?_)
                            obtain ⟨rfl, qy859⟩ := h860
                            subst qy859
                            refine q_ifeq (tgt := 162) cx ⟨by decide, by decide⟩ dX12_readsNode_149 (by decide) (fun c861 => ?_) (fun c861 => ?_)
                            · exact absurd c861 (by omega)
                            · refine q_ald_n cx dX12_readsNode_152 rfl (lv_at hl 2 rfl) ?_
                              refine q_gX12_20 cx hB hmo kmo z851 dX12_readsNode_153 (fun hb862 kb862 => ?_)
                              refine q_iconst cx dX12_readsNode_156 ?_
                              refine lv_dup2_11 cx.1 cx.2.1 dX12_readsNode_157 rfl rfl ?_
                              refine q_iald (lo := 0) (hi := 10) (n := 658) cx hB hsr ksr (by decide) rfl rfl (by decide) (by decide) (by decide) rfl z847 dX12_readsNode_158 (fun lb864 ub864 => ?_)
                              refine q_iconst cx dX12_readsNode_159 ?_
                              refine q_iadd cx dX12_readsNode_160 ?_
                              refine q_iast (lo := 0) (hi := 10) (n := 658) cx hB hsr ksr (by decide) rfl rfl (by decide) (by decide) (by decide) rfl ⟨by omega, by omega⟩ (by omega) (by omega) rfl dX12_readsNode_161 (fun H locs f865 ef865 z866 hB => ?_)
                              have z867 : q_is (q_z f865 mo 3) tn := by rw [ef865, q_setz (Or.inr (by decide))]; exact z846
                              have z868 : q_is (q_z f865 mo 8) 0 := by rw [ef865, q_setz (Or.inr (by decide))]; exact z848
                              have z869 : q_is (q_z f865 mo 9) (-1) := by rw [ef865, q_setz (Or.inr (by decide))]; exact z849
                              have z870 : q_is (q_z f865 mo 5) x839 := by rw [ef865, q_setz (Or.inr (by decide))]; exact z850
                              have z871 : q_ir (q_r f865 mo 13) sr := by rw [ef865, q_setr (Or.inr (by decide))]; exact z851
                              have z872 : q_ir (q_r f865 mo 18) nm := by rw [ef865, q_setr (Or.inr (by decide))]; exact z852
                              have z873 : q_ir (q_r f865 mo 1) bu := by rw [ef865, q_setr (Or.inr (by decide))]; exact z853
                              have g874 : q_gr f865 sr := q_gr_put g845 ef865 z866 rfl (by omega) (by omega)
                              have g875 : tk_ub f865 bu B tn := tk_ub_tr g854 (fun i9 => by rw [ef865, q_setz (Or.inl (fun q => by rw [q, ksr] at kbu; exact absurd kbu (by decide)))])
                              have g876 : tk_tm f865 mo sr nm (tk_an tA (tk_w B tn x625)) := tk_tm_an g855 (k := Int.toNat x603) (by have h7 := tk_tm_nn g855 z847; omega) (by omega) (tk_w_isw (by omega)) t679 g856 ef865 (Eq.trans z866 (by omega)) (tk_nz 12 151 kmo ksr rfl) (tk_nz 156 151 knm ksr rfl)
                              have g877 : q_j f865 nm (Int.toNat x603) = tk_mw (tk_w B tn x625) := tk_nw_tr g856 (fun i9 => by rw [ef865, q_setj (Or.inl (fun q => by rw [q, ksr] at knm; exact absurd knm (by decide)))])
                              have g878 : tk_tr f865 mo B tn := tk_tr_tr g857 (by rw [ef865, q_setz (Or.inr (by decide))]) (by rw [ef865, q_setz (Or.inr (by decide))]) (by rw [ef865, q_setz (Or.inr (by decide))]) (by rw [ef865, q_setz (Or.inr (by decide))]) (by rw [ef865, q_setj (Or.inr (by decide))])
                              refine q_vret cx hr hlk hB dX12_readsNode_162 ?_
                              exact (Or.inl ⟨z868, z869, ⟨(tk_an tA (tk_w B tn x625)), tk_okp (Eq.trans (tk_node_go (by have h7 := tk_tm_nn htm ex603; omega) (Eq.trans (Eq.symm ex625) t613) t635 t679 (Eq.trans (Eq.symm ex718) t705)) (tk_bd_ok (tk_rst_ok (tk_okx t726 ex739) (tk_shift_y t762 (Eq.trans (Eq.symm ex780) t767) (tk_okx t789 ex802)) (tk_okx t826 ex839)) _)) z870, g876⟩, g874, g878⟩)
                          · obtain ⟨lz879, uz879, t880, g881⟩ := h823
                            have z882 : q_is (q_z f819 mo 3) tn := Eq.trans (hF.z hmo (by rw [kmo]; rfl)) z807
                            have z883 : q_is (q_z f819 sr 0) x603 := Eq.trans (hF.z hsr (by rw [ksr]; rfl)) z808
                            have z884 : q_ir (q_r f819 mo 13) sr := Eq.trans (hF.r hmo (by rw [kmo]; rfl)) z812
                            have z885 : q_ir (q_r f819 mo 18) nm := Eq.trans (hF.r hmo (by rw [kmo]; rfl)) z813
                            have z886 : q_ir (q_r f819 mo 1) bu := Eq.trans (hF.r hmo (by rw [kmo]; rfl)) z814
                            have g887 : q_gr f819 sr := q_gr_fr g806 (fun i9 _ => hF.z hsr (by rw [ksr]; rfl))
                            have g888 : tk_ub f819 bu B tn := tk_ub_tr g815 (fun i9 => hF.z hbu (by rw [kbu]; rfl))
                            have g889 : tk_tm f819 mo sr nm tA := tk_tm_tr g816 (hF.z hmo (by rw [kmo]; rfl)) (fun i9 h9 k9 => hF.z hsr (by rw [ksr]; exact q_inWr rfl h9 k9)) (fun i9 h9 k9 => hF.z hsr (by rw [ksr]; exact q_inWr rfl h9 k9)) (fun i9 => hF.j hnm (by rw [knm]; rfl))
                            have g890 : q_j f819 nm (Int.toNat x603) = tk_mw (tk_w B tn x625) := tk_nw_tr g817 (fun i9 => hF.j hnm (by rw [knm]; rfl))
                            obtain ⟨x891, ex891⟩ : ∃ zz, q_is (q_z f819 mo 8) zz := ⟨_, q_isr _⟩
                            obtain ⟨lx891, ux891⟩ := q_isb ex891 ⟨lz879, uz879⟩
                            obtain ⟨x892, ex892⟩ : ∃ zz, q_is (q_z f819 mo 5) zz := ⟨_, q_isr _⟩
                            obtain ⟨lx892, ux892⟩ := q_isb ex892 (q_fib hB.2.1 hmo kmo (by decide) rfl)
                            obtain ⟨x893, ex893⟩ : ∃ zz, q_is (q_z f819 mo 9) zz := ⟨_, q_isr _⟩
                            obtain ⟨lx893, ux893⟩ := q_isb ex893 (q_fib hB.2.1 hmo kmo (by decide) rfl)
                            obtain ⟨-, l0x892, u0x892, -, -⟩ := tk_tr_n g881 ex892
                            refine q_cVv (As := [.int (q_i x603), .int (q_i 2), .int (q_i y820)]) (rest := []) cx hB (fun _ h => h) hN hmo kmo (by decide) rfl (r_setsNodej l g hN hB.2.1 mo hmo kmo x603 (by omega) (by omega) 2 (by decide) (by decide) y820 (by omega) (by omega) sr hsr ksr z884) q_cX12_202 q_dX12_setsNode (by decide) rfl rfl hl.1 rfl (Nat.le_of_ble_eq_true rfl) dX12_readsNode_142 (fun H locs f894 h896 hF hB => ?_)
                            have z897 : q_is (q_z f894 mo 3) tn := Eq.trans (hF.z hmo (by rw [kmo]; rfl)) z882
                            have z898 : q_is (q_z f894 sr 0) x603 := Eq.trans (hF.z hsr (by rw [ksr]; rfl)) z883
                            have z899 : q_is (q_z f894 mo 8) x891 := Eq.trans (hF.z hmo (by rw [kmo]; rfl)) ex891
                            have z900 : q_is (q_z f894 mo 5) x892 := Eq.trans (hF.z hmo (by rw [kmo]; rfl)) ex892
                            have z901 : q_is (q_z f894 mo 9) x893 := Eq.trans (hF.z hmo (by rw [kmo]; rfl)) ex893
                            have z902 : q_ir (q_r f894 mo 13) sr := Eq.trans (hF.r hmo (by rw [kmo]; rfl)) z884
                            have z903 : q_ir (q_r f894 mo 18) nm := Eq.trans (hF.r hmo (by rw [kmo]; rfl)) z885
                            have z904 : q_ir (q_r f894 mo 1) bu := Eq.trans (hF.r hmo (by rw [kmo]; rfl)) z886
                            have g905 : tk_ub f894 bu B tn := tk_ub_tr g888 (fun i9 => hF.z hbu (by rw [kbu]; rfl))
                            have g906 : tk_tm f894 mo sr nm tA := tk_tm_tr g889 (hF.z hmo (by rw [kmo]; rfl)) (fun i9 h9 k9 => hF.z hsr (by rw [ksr]; exact q_inWr rfl h9 k9)) (fun i9 h9 k9 => hF.z hsr (by rw [ksr]; exact q_inWr rfl h9 k9)) (fun i9 => hF.j hnm (by rw [knm]; rfl))
                            have g907 : q_j f894 nm (Int.toNat x603) = tk_mw (tk_w B tn x625) := tk_nw_tr g890 (fun i9 => hF.j hnm (by rw [knm]; rfl))
                            have g908 : tk_tr f894 mo B tn := tk_tr_tr g881 (hF.z hmo (by rw [kmo]; rfl)) (hF.z hmo (by rw [kmo]; rfl)) (hF.z hmo (by rw [kmo]; rfl)) (hF.z hmo (by rw [kmo]; rfl)) (hF.j hmo (by rw [kmo]; rfl))
                            refine q_ald_n cx dX12_readsNode_145 rfl (lv_at hl 2 rfl) ?_
                            refine q_cVi (As := []) (rest := []) cx hB (fun _ h => h) hN hmo kmo (by decide) rfl (r_isGood1 l g hN hB.2.1 mo hmo kmo x891 (by omega) (by omega) z899) q_cX12_130 q_dX12_isGood (by decide) rfl rfl hl.1 rfl (Nat.le_of_ble_eq_true rfl) dX12_readsNode_146 (fun y910 H locs f909 ry910 h911 hF hB => ?_)
                            obtain ⟨rfl, qy910⟩ := h911
                            subst qy910
                            refine q_ifeq (tgt := 162) cx ⟨by decide, by decide⟩ dX12_readsNode_149 (by decide) (fun c912 => ?_) (fun c912 => ?_)
                            · refine q_vret cx hr hlk hB dX12_readsNode_162 ?_
                              exact (Or.inr ⟨(q_isl z899 (by omega)), (q_isu z899 (by omega)), (tk_erp (Eq.trans (tk_node_go (by have h7 := tk_tm_nn htm ex603; omega) (Eq.trans (Eq.symm ex625) t613) t635 t679 (Eq.trans (Eq.symm ex718) t705)) (tk_bd_er (tk_rst_e4 (tk_okx t726 ex739) (tk_shift_y t762 (Eq.trans (Eq.symm ex780) t767) (tk_okx t789 ex802)) (tk_erx t880 ex891 ex893)) _)) z899 z901), g908⟩)
                            · exact absurd c912 (by omega)
                        · obtain ⟨lz913, uz913, t914, g915⟩ := h786
                          have z916 : q_is (q_z f782 mo 3) tn := Eq.trans (hF.z hmo (by rw [kmo]; rfl)) z769
                          have z917 : q_is (q_z f782 sr 0) x603 := Eq.trans (hF.z hsr (by rw [ksr]; rfl)) z770
                          have z918 : q_ir (q_r f782 mo 13) sr := Eq.trans (hF.r hmo (by rw [kmo]; rfl)) z773
                          have z919 : q_ir (q_r f782 mo 18) nm := Eq.trans (hF.r hmo (by rw [kmo]; rfl)) z774
                          have z920 : q_ir (q_r f782 mo 1) bu := Eq.trans (hF.r hmo (by rw [kmo]; rfl)) z775
                          have g921 : q_gr f782 sr := q_gr_fr g776 (fun i9 _ => hF.z hsr (by rw [ksr]; rfl))
                          have g922 : tk_ub f782 bu B tn := tk_ub_tr g777 (fun i9 => hF.z hbu (by rw [kbu]; rfl))
                          have g923 : tk_tm f782 mo sr nm tA := tk_tm_tr g778 (hF.z hmo (by rw [kmo]; rfl)) (fun i9 h9 k9 => hF.z hsr (by rw [ksr]; exact q_inWr rfl h9 k9)) (fun i9 h9 k9 => hF.z hsr (by rw [ksr]; exact q_inWr rfl h9 k9)) (fun i9 => hF.j hnm (by rw [knm]; rfl))
                          have g924 : q_j f782 nm (Int.toNat x603) = tk_mw (tk_w B tn x625) := tk_nw_tr g779 (fun i9 => hF.j hnm (by rw [knm]; rfl))
                          obtain ⟨x925, ex925⟩ : ∃ zz, q_is (q_z f782 mo 8) zz := ⟨_, q_isr _⟩
                          obtain ⟨lx925, ux925⟩ := q_isb ex925 ⟨lz913, uz913⟩
                          obtain ⟨x926, ex926⟩ : ∃ zz, q_is (q_z f782 mo 5) zz := ⟨_, q_isr _⟩
                          obtain ⟨lx926, ux926⟩ := q_isb ex926 (q_fib hB.2.1 hmo kmo (by decide) rfl)
                          obtain ⟨x927, ex927⟩ : ∃ zz, q_is (q_z f782 mo 9) zz := ⟨_, q_isr _⟩
                          obtain ⟨lx927, ux927⟩ := q_isb ex927 (q_fib hB.2.1 hmo kmo (by decide) rfl)
                          obtain ⟨-, l0x926, u0x926, -, -⟩ := tk_tr_n g915 ex926
                          refine lv_goto (tgt := 125) cx.1 cx.2.1 dX12_readsNode_121 (by decide) ?_
                          refine q_cVv (As := [.int (q_i x603), .int (q_i 1), .int (q_i y783)]) (rest := []) cx hB (fun _ h => h) hN hmo kmo (by decide) rfl (r_setsNodej l g hN hB.2.1 mo hmo kmo x603 (by omega) (by omega) 1 (by decide) (by decide) y783 (by omega) (by omega) sr hsr ksr z918) q_cX12_202 q_dX12_setsNode (by decide) rfl rfl hl.1 rfl (Nat.le_of_ble_eq_true rfl) dX12_readsNode_125 (fun H locs f928 h930 hF hB => ?_)
                          have z931 : q_is (q_z f928 mo 3) tn := Eq.trans (hF.z hmo (by rw [kmo]; rfl)) z916
                          have z932 : q_is (q_z f928 sr 0) x603 := Eq.trans (hF.z hsr (by rw [ksr]; rfl)) z917
                          have z933 : q_is (q_z f928 mo 8) x925 := Eq.trans (hF.z hmo (by rw [kmo]; rfl)) ex925
                          have z934 : q_is (q_z f928 mo 5) x926 := Eq.trans (hF.z hmo (by rw [kmo]; rfl)) ex926
                          have z935 : q_is (q_z f928 mo 9) x927 := Eq.trans (hF.z hmo (by rw [kmo]; rfl)) ex927
                          have z936 : q_ir (q_r f928 mo 13) sr := Eq.trans (hF.r hmo (by rw [kmo]; rfl)) z918
                          have z937 : q_ir (q_r f928 mo 18) nm := Eq.trans (hF.r hmo (by rw [kmo]; rfl)) z919
                          have z938 : q_ir (q_r f928 mo 1) bu := Eq.trans (hF.r hmo (by rw [kmo]; rfl)) z920
                          have g939 : tk_ub f928 bu B tn := tk_ub_tr g922 (fun i9 => hF.z hbu (by rw [kbu]; rfl))
                          have g940 : tk_tm f928 mo sr nm tA := tk_tm_tr g923 (hF.z hmo (by rw [kmo]; rfl)) (fun i9 h9 k9 => hF.z hsr (by rw [ksr]; exact q_inWr rfl h9 k9)) (fun i9 h9 k9 => hF.z hsr (by rw [ksr]; exact q_inWr rfl h9 k9)) (fun i9 => hF.j hnm (by rw [knm]; rfl))
                          have g941 : q_j f928 nm (Int.toNat x603) = tk_mw (tk_w B tn x625) := tk_nw_tr g924 (fun i9 => hF.j hnm (by rw [knm]; rfl))
                          have g942 : tk_tr f928 mo B tn := tk_tr_tr g915 (hF.z hmo (by rw [kmo]; rfl)) (hF.z hmo (by rw [kmo]; rfl)) (hF.z hmo (by rw [kmo]; rfl)) (hF.z hmo (by rw [kmo]; rfl)) (hF.j hmo (by rw [kmo]; rfl))
                          refine q_ald_n cx dX12_readsNode_128 rfl (lv_at hl 2 rfl) ?_
                          refine q_ild_n cx dX12_readsNode_129 rfl (lv_at hl 1 rfl) ?_
                          refine q_iconst cx dX12_readsNode_130 ?_
                          refine q_ald_n cx dX12_readsNode_131 rfl (lv_at hl 2 rfl) ?_
                          refine lv_ldc2 (v := q_l 182634745) cx.1 cx.2.1 cx.2.2.2.1 (cx.2.2.2.2 _ q_h1813) dX12_readsNode_132 ?_
                          refine q_iconst cx dX12_readsNode_135 ?_
                          refine q_sipush cx dX12_readsNode_136 rfl ?_
                          refine q_cVi (As := [.long (q_l 182634745), .int (q_i 1), .int (q_i 999)]) (rest := [.int (q_i 2), .int (q_i x603), .ref mo]) cx hB (fun _ h => h) hN hmo kmo (by decide) rfl (r_after1 l g hN hB.2.1 mo hmo kmo (q_l 182634745) 1 (by decide) (by decide) 999 (by decide) (by decide) x925 (by omega) (by omega) z933) q_cX12_198 q_dX12_after (by decide) rfl rfl hl.1 rfl (Nat.le_of_ble_eq_true rfl) dX12_readsNode_139 (fun y944 H locs f943 ry944 h945 hF hB => ?_)
                          obtain rfl := h945
                          refine q_cVv (As := [.int (q_i x603), .int (q_i 2), .int (q_i y944)]) (rest := []) cx hB (fun _ h => h) hN hmo kmo (by decide) rfl (r_setsNodej l g hN hB.2.1 mo hmo kmo x603 (by omega) (by omega) 2 (by decide) (by decide) y944 (by omega) (by omega) sr hsr ksr z936) q_cX12_202 q_dX12_setsNode (by decide) rfl rfl hl.1 rfl (Nat.le_of_ble_eq_true rfl) dX12_readsNode_142 (fun H locs f946 h948 hF hB => ?_)
                          have z949 : q_is (q_z f946 mo 3) tn := Eq.trans (hF.z hmo (by rw [kmo]; rfl)) z931
                          have z950 : q_is (q_z f946 sr 0) x603 := Eq.trans (hF.z hsr (by rw [ksr]; rfl)) z932
                          have z951 : q_is (q_z f946 mo 8) x925 := Eq.trans (hF.z hmo (by rw [kmo]; rfl)) z933
                          have z952 : q_is (q_z f946 mo 5) x926 := Eq.trans (hF.z hmo (by rw [kmo]; rfl)) z934
                          have z953 : q_is (q_z f946 mo 9) x927 := Eq.trans (hF.z hmo (by rw [kmo]; rfl)) z935
                          have z954 : q_ir (q_r f946 mo 13) sr := Eq.trans (hF.r hmo (by rw [kmo]; rfl)) z936
                          have z955 : q_ir (q_r f946 mo 18) nm := Eq.trans (hF.r hmo (by rw [kmo]; rfl)) z937
                          have z956 : q_ir (q_r f946 mo 1) bu := Eq.trans (hF.r hmo (by rw [kmo]; rfl)) z938
                          have g957 : tk_ub f946 bu B tn := tk_ub_tr g939 (fun i9 => hF.z hbu (by rw [kbu]; rfl))
                          have g958 : tk_tm f946 mo sr nm tA := tk_tm_tr g940 (hF.z hmo (by rw [kmo]; rfl)) (fun i9 h9 k9 => hF.z hsr (by rw [ksr]; exact q_inWr rfl h9 k9)) (fun i9 h9 k9 => hF.z hsr (by rw [ksr]; exact q_inWr rfl h9 k9)) (fun i9 => hF.j hnm (by rw [knm]; rfl))
                          have g959 : q_j f946 nm (Int.toNat x603) = tk_mw (tk_w B tn x625) := tk_nw_tr g941 (fun i9 => hF.j hnm (by rw [knm]; rfl))
                          have g960 : tk_tr f946 mo B tn := tk_tr_tr g942 (hF.z hmo (by rw [kmo]; rfl)) (hF.z hmo (by rw [kmo]; rfl)) (hF.z hmo (by rw [kmo]; rfl)) (hF.z hmo (by rw [kmo]; rfl)) (hF.j hmo (by rw [kmo]; rfl))
                          refine q_ald_n cx dX12_readsNode_145 rfl (lv_at hl 2 rfl) ?_
                          refine q_cVi (As := []) (rest := []) cx hB (fun _ h => h) hN hmo kmo (by decide) rfl (r_isGood1 l g hN hB.2.1 mo hmo kmo x925 (by omega) (by omega) z951) q_cX12_130 q_dX12_isGood (by decide) rfl rfl hl.1 rfl (Nat.le_of_ble_eq_true rfl) dX12_readsNode_146 (fun y962 H locs f961 ry962 h963 hF hB => ?_)
                          obtain ⟨rfl, qy962⟩ := h963
                          subst qy962
                          refine q_ifeq (tgt := 162) cx ⟨by decide, by decide⟩ dX12_readsNode_149 (by decide) (fun c964 => ?_) (fun c964 => ?_)
                          · refine q_vret cx hr hlk hB dX12_readsNode_162 ?_
                            exact (Or.inr ⟨(q_isl z951 (by omega)), (q_isu z951 (by omega)), (tk_erp (Eq.trans (tk_node_go (by have h7 := tk_tm_nn htm ex603; omega) (Eq.trans (Eq.symm ex625) t613) t635 t679 (Eq.trans (Eq.symm ex718) t705)) (tk_bd_er (tk_rst_e3 (tk_okx t726 ex739) (tk_shift_y t762 (Eq.trans (Eq.symm ex780) t767) (tk_erx t914 ex925 ex927))) _)) z951 z953), g960⟩)
                          · exact absurd c964 (by omega)
                  · obtain ⟨rfl, qy757, t965⟩ := h760
                    subst qy757
                    refine lv_istore_n (lv' := [(2, .int (q_i 0)), (1, .int (q_i x603)), (0, .ref mo)]) cx.1 cx.2.1 dX12_readsNode_98 rfl hl (by decide) rfl (fun ls hl => ?_)
                    refine q_ild_n cx dX12_readsNode_99 rfl (lv_at hl 0 rfl) ?_
                    refine q_ifeq (tgt := 107) cx ⟨by decide, by decide⟩ dX12_readsNode_100 (by decide) (fun c966 => ?_) (fun c966 => ?_)
                    · refine q_ald_n cx dX12_readsNode_107 rfl (lv_at hl 2 rfl) ?_
                      refine q_ild_n cx dX12_readsNode_108 rfl (lv_at hl 1 rfl) ?_
                      refine q_iconst cx dX12_readsNode_109 ?_
                      refine q_ild_n cx dX12_readsNode_110 rfl (lv_at hl 0 rfl) ?_
                      refine q_ifeq (tgt := 124) cx ⟨by decide, by decide⟩ dX12_readsNode_111 (by decide) (fun c967 => ?_) (fun c967 => ?_)
                      · refine q_iconst cx dX12_readsNode_124 ?_
                        refine q_cVv (As := [.int (q_i x603), .int (q_i 1), .int (q_i 0)]) (rest := []) cx hB (fun _ h => h) hN hmo kmo (by decide) rfl (r_setsNode1 l g hN hB.2.1 mo hmo kmo x603 (by omega) (by omega) 1 (by decide) (by decide) 0 (by decide) (by decide) sr hsr ksr z749 g743) q_cX12_202 q_dX12_setsNode (by decide) rfl rfl hl.1 rfl (Nat.le_of_ble_eq_true rfl) dX12_readsNode_125 (fun H locs f968 h970 hF hB => ?_)
                        have g971 := h970
                        have z972 : q_is (q_z f968 mo 3) tn := Eq.trans (hF.z hmo (by rw [kmo]; rfl)) z744
                        have z973 : q_is (q_z f968 sr 0) x603 := Eq.trans (hF.z hsr (by rw [ksr]; rfl)) z745
                        have z974 : q_is (q_z f968 mo 8) 0 := Eq.trans (hF.z hmo (by rw [kmo]; rfl)) z746
                        have z975 : q_is (q_z f968 mo 9) (-1) := Eq.trans (hF.z hmo (by rw [kmo]; rfl)) z747
                        have z976 : q_is (q_z f968 mo 5) x739 := Eq.trans (hF.z hmo (by rw [kmo]; rfl)) z748
                        have z977 : q_ir (q_r f968 mo 13) sr := Eq.trans (hF.r hmo (by rw [kmo]; rfl)) z749
                        have z978 : q_ir (q_r f968 mo 18) nm := Eq.trans (hF.r hmo (by rw [kmo]; rfl)) z750
                        have z979 : q_ir (q_r f968 mo 1) bu := Eq.trans (hF.r hmo (by rw [kmo]; rfl)) z751
                        have g980 : tk_ub f968 bu B tn := tk_ub_tr g752 (fun i9 => hF.z hbu (by rw [kbu]; rfl))
                        have g981 : tk_tm f968 mo sr nm tA := tk_tm_tr g753 (hF.z hmo (by rw [kmo]; rfl)) (fun i9 h9 k9 => hF.z hsr (by rw [ksr]; exact q_inWr rfl h9 k9)) (fun i9 h9 k9 => hF.z hsr (by rw [ksr]; exact q_inWr rfl h9 k9)) (fun i9 => hF.j hnm (by rw [knm]; rfl))
                        have g982 : q_j f968 nm (Int.toNat x603) = tk_mw (tk_w B tn x625) := tk_nw_tr g754 (fun i9 => hF.j hnm (by rw [knm]; rfl))
                        have g983 : tk_tr f968 mo B tn := tk_tr_tr g755 (hF.z hmo (by rw [kmo]; rfl)) (hF.z hmo (by rw [kmo]; rfl)) (hF.z hmo (by rw [kmo]; rfl)) (hF.z hmo (by rw [kmo]; rfl)) (hF.j hmo (by rw [kmo]; rfl))
                        refine q_ald_n cx dX12_readsNode_128 rfl (lv_at hl 2 rfl) ?_
                        refine q_ild_n cx dX12_readsNode_129 rfl (lv_at hl 1 rfl) ?_
                        refine q_iconst cx dX12_readsNode_130 ?_
                        refine q_ald_n cx dX12_readsNode_131 rfl (lv_at hl 2 rfl) ?_
                        refine lv_ldc2 (v := q_l 182634745) cx.1 cx.2.1 cx.2.2.2.1 (cx.2.2.2.2 _ q_h1813) dX12_readsNode_132 ?_
                        refine q_iconst cx dX12_readsNode_135 ?_
                        refine q_sipush cx dX12_readsNode_136 rfl ?_
                        refine q_cVi (As := [.long (q_l 182634745), .int (q_i 1), .int (q_i 999)]) (rest := [.int (q_i 2), .int (q_i x603), .ref mo]) cx hB (fun _ h => h) hN hmo kmo (by decide) rfl (f_mafter l g hN hB.2.1 B tk_wEnergy mo hmo kmo (q_l 182634745) 1 (by decide) (by decide) 999 (by decide) (by decide) bu hbu kbu tn (by omega) (by omega) x739 (by omega) (by omega) z972 z976 z974 z975 z979 (by decide +kernel : (q_l 182634745) = tk_mw tk_wEnergy) tk_iEnergy g983 g980) q_cX12_198 q_dX12_after (by decide) rfl rfl hl.1 rfl (Nat.le_of_ble_eq_true rfl) dX12_readsNode_139 (fun y985 H locs f984 ry985 h986 hF hB => ?_)
                        rcases h986 with h987 | h988
                        · obtain ⟨z989, z990, t991, t992, t993, g994⟩ := h987
                          have z995 : q_is (q_z f984 mo 3) tn := Eq.trans (hF.z hmo (by rw [kmo]; rfl)) z972
                          have z996 : q_is (q_z f984 sr 0) x603 := Eq.trans (hF.z hsr (by rw [ksr]; rfl)) z973
                          have z997 : q_ir (q_r f984 mo 13) sr := Eq.trans (hF.r hmo (by rw [kmo]; rfl)) z977
                          have z998 : q_ir (q_r f984 mo 18) nm := Eq.trans (hF.r hmo (by rw [kmo]; rfl)) z978
                          have z999 : q_ir (q_r f984 mo 1) bu := Eq.trans (hF.r hmo (by rw [kmo]; rfl)) z979
                          have g1000 : q_gr f984 sr := q_gr_fr g971 (fun i9 _ => hF.z hsr (by rw [ksr]; rfl))
                          have g1001 : tk_ub f984 bu B tn := tk_ub_tr g980 (fun i9 => hF.z hbu (by rw [kbu]; rfl))
                          have g1002 : tk_tm f984 mo sr nm tA := tk_tm_tr g981 (hF.z hmo (by rw [kmo]; rfl)) (fun i9 h9 k9 => hF.z hsr (by rw [ksr]; exact q_inWr rfl h9 k9)) (fun i9 h9 k9 => hF.z hsr (by rw [ksr]; exact q_inWr rfl h9 k9)) (fun i9 => hF.j hnm (by rw [knm]; rfl))
                          have g1003 : q_j f984 nm (Int.toNat x603) = tk_mw (tk_w B tn x625) := tk_nw_tr g982 (fun i9 => hF.j hnm (by rw [knm]; rfl))
                          obtain ⟨x1004, ex1004⟩ : ∃ zz, q_is (q_z f984 mo 5) zz := ⟨_, q_isr _⟩
                          obtain ⟨lx1004, ux1004⟩ := q_isb ex1004 (q_fib hB.2.1 hmo kmo (by decide) rfl)
                          obtain ⟨-, l0x1004, u0x1004, -, -⟩ := tk_tr_n g994 ex1004
                          refine q_cVv (As := [.int (q_i x603), .int (q_i 2), .int (q_i y985)]) (rest := []) cx hB (fun _ h => h) hN hmo kmo (by decide) rfl (r_setsNode2 l g hN hB.2.1 mo hmo kmo x603 (by omega) (by omega) 2 (by decide) (by decide) y985 (by omega) (by omega) sr hsr ksr z997 g1000) q_cX12_202 q_dX12_setsNode (by decide) rfl rfl hl.1 rfl (Nat.le_of_ble_eq_true rfl) dX12_readsNode_142 (fun H locs f1005 h1007 hF hB => ?_)
                          obtain ⟨t1008, t1009, g1010⟩ := h1007
                          have z1011 : q_is (q_z f1005 mo 3) tn := Eq.trans (hF.z hmo (by rw [kmo]; rfl)) z995
                          have z1012 : q_is (q_z f1005 sr 0) x603 := Eq.trans (hF.z hsr (by rw [ksr]; rfl)) z996
                          have z1013 : q_is (q_z f1005 mo 8) 0 := Eq.trans (hF.z hmo (by rw [kmo]; rfl)) z989
                          have z1014 : q_is (q_z f1005 mo 9) (-1) := Eq.trans (hF.z hmo (by rw [kmo]; rfl)) z990
                          have z1015 : q_is (q_z f1005 mo 5) x1004 := Eq.trans (hF.z hmo (by rw [kmo]; rfl)) ex1004
                          have z1016 : q_ir (q_r f1005 mo 13) sr := Eq.trans (hF.r hmo (by rw [kmo]; rfl)) z997
                          have z1017 : q_ir (q_r f1005 mo 18) nm := Eq.trans (hF.r hmo (by rw [kmo]; rfl)) z998
                          have z1018 : q_ir (q_r f1005 mo 1) bu := Eq.trans (hF.r hmo (by rw [kmo]; rfl)) z999
                          have g1019 : tk_ub f1005 bu B tn := tk_ub_tr g1001 (fun i9 => hF.z hbu (by rw [kbu]; rfl))
                          have g1020 : tk_tm f1005 mo sr nm tA := tk_tm_tr g1002 (hF.z hmo (by rw [kmo]; rfl)) (fun i9 h9 k9 => hF.z hsr (by rw [ksr]; exact q_inWr rfl h9 k9)) (fun i9 h9 k9 => hF.z hsr (by rw [ksr]; exact q_inWr rfl h9 k9)) (fun i9 => hF.j hnm (by rw [knm]; rfl))
                          have g1021 : q_j f1005 nm (Int.toNat x603) = tk_mw (tk_w B tn x625) := tk_nw_tr g1003 (fun i9 => hF.j hnm (by rw [knm]; rfl))
                          have g1022 : tk_tr f1005 mo B tn := tk_tr_tr g994 (hF.z hmo (by rw [kmo]; rfl)) (hF.z hmo (by rw [kmo]; rfl)) (hF.z hmo (by rw [kmo]; rfl)) (hF.z hmo (by rw [kmo]; rfl)) (hF.j hmo (by rw [kmo]; rfl))
                          refine q_ald_n cx dX12_readsNode_145 rfl (lv_at hl 2 rfl) ?_
                          refine q_cVi (As := []) (rest := []) cx hB (fun _ h => h) hN hmo kmo (by decide) rfl (f_misGood l g hN hB.2.1 mo hmo kmo z1013) q_cX12_130 q_dX12_isGood (by decide) rfl rfl hl.1 rfl (Nat.le_of_ble_eq_true rfl) dX12_readsNode_146 (fun y1024 H locs f1023 ry1024 h1025 hF hB => ?_)
                          obtain ⟨rfl, qy1024⟩ := h1025
                          subst qy1024
                          refine q_ifeq (tgt := 162) cx ⟨by decide, by decide⟩ dX12_readsNode_149 (by decide) (fun c1026 => ?_) (fun c1026 => ?_)
                          · exact absurd c1026 (by omega)
                          · refine q_ald_n cx dX12_readsNode_152 rfl (lv_at hl 2 rfl) ?_
                            refine q_gX12_20 cx hB hmo kmo z1016 dX12_readsNode_153 (fun hb1027 kb1027 => ?_)
                            refine q_iconst cx dX12_readsNode_156 ?_
                            refine lv_dup2_11 cx.1 cx.2.1 dX12_readsNode_157 rfl rfl ?_
                            refine q_iald (lo := 0) (hi := 10) (n := 658) cx hB hsr ksr (by decide) rfl rfl (by decide) (by decide) (by decide) rfl z1012 dX12_readsNode_158 (fun lb1029 ub1029 => ?_)
                            refine q_iconst cx dX12_readsNode_159 ?_
                            refine q_iadd cx dX12_readsNode_160 ?_
                            refine q_iast (lo := 0) (hi := 10) (n := 658) cx hB hsr ksr (by decide) rfl rfl (by decide) (by decide) (by decide) rfl ⟨by omega, by omega⟩ (by omega) (by omega) rfl dX12_readsNode_161 (fun H locs f1030 ef1030 z1031 hB => ?_)
                            have z1032 : q_is (q_z f1030 mo 3) tn := by rw [ef1030, q_setz (Or.inr (by decide))]; exact z1011
                            have z1033 : q_is (q_z f1030 mo 8) 0 := by rw [ef1030, q_setz (Or.inr (by decide))]; exact z1013
                            have z1034 : q_is (q_z f1030 mo 9) (-1) := by rw [ef1030, q_setz (Or.inr (by decide))]; exact z1014
                            have z1035 : q_is (q_z f1030 mo 5) x1004 := by rw [ef1030, q_setz (Or.inr (by decide))]; exact z1015
                            have z1036 : q_ir (q_r f1030 mo 13) sr := by rw [ef1030, q_setr (Or.inr (by decide))]; exact z1016
                            have z1037 : q_ir (q_r f1030 mo 18) nm := by rw [ef1030, q_setr (Or.inr (by decide))]; exact z1017
                            have z1038 : q_ir (q_r f1030 mo 1) bu := by rw [ef1030, q_setr (Or.inr (by decide))]; exact z1018
                            have g1039 : q_gr f1030 sr := q_gr_put g1010 ef1030 z1031 rfl (by omega) (by omega)
                            have g1040 : tk_ub f1030 bu B tn := tk_ub_tr g1019 (fun i9 => by rw [ef1030, q_setz (Or.inl (fun q => by rw [q, ksr] at kbu; exact absurd kbu (by decide)))])
                            have g1041 : tk_tm f1030 mo sr nm (tk_an tA (tk_w B tn x625)) := tk_tm_an g1020 (k := Int.toNat x603) (by have h7 := tk_tm_nn g1020 z1012; omega) (by omega) (tk_w_isw (by omega)) t679 g1021 ef1030 (Eq.trans z1031 (by omega)) (tk_nz 12 151 kmo ksr rfl) (tk_nz 156 151 knm ksr rfl)
                            have g1042 : q_j f1030 nm (Int.toNat x603) = tk_mw (tk_w B tn x625) := tk_nw_tr g1021 (fun i9 => by rw [ef1030, q_setj (Or.inl (fun q => by rw [q, ksr] at knm; exact absurd knm (by decide)))])
                            have g1043 : tk_tr f1030 mo B tn := tk_tr_tr g1022 (by rw [ef1030, q_setz (Or.inr (by decide))]) (by rw [ef1030, q_setz (Or.inr (by decide))]) (by rw [ef1030, q_setz (Or.inr (by decide))]) (by rw [ef1030, q_setz (Or.inr (by decide))]) (by rw [ef1030, q_setj (Or.inr (by decide))])
                            refine q_vret cx hr hlk hB dX12_readsNode_162 ?_
                            exact (Or.inl ⟨z1033, z1034, ⟨(tk_an tA (tk_w B tn x625)), tk_okp (Eq.trans (tk_node_go (by have h7 := tk_tm_nn htm ex603; omega) (Eq.trans (Eq.symm ex625) t613) t635 t679 (Eq.trans (Eq.symm ex718) t705)) (tk_bd_ok (tk_rst_ok (tk_okx t726 ex739) (tk_shift_n t965) (tk_okx t991 ex1004)) _)) z1035, g1041⟩, g1039, g1043⟩)
                        · obtain ⟨lz1044, uz1044, t1045, g1046⟩ := h988
                          have z1047 : q_is (q_z f984 mo 3) tn := Eq.trans (hF.z hmo (by rw [kmo]; rfl)) z972
                          have z1048 : q_is (q_z f984 sr 0) x603 := Eq.trans (hF.z hsr (by rw [ksr]; rfl)) z973
                          have z1049 : q_ir (q_r f984 mo 13) sr := Eq.trans (hF.r hmo (by rw [kmo]; rfl)) z977
                          have z1050 : q_ir (q_r f984 mo 18) nm := Eq.trans (hF.r hmo (by rw [kmo]; rfl)) z978
                          have z1051 : q_ir (q_r f984 mo 1) bu := Eq.trans (hF.r hmo (by rw [kmo]; rfl)) z979
                          have g1052 : q_gr f984 sr := q_gr_fr g971 (fun i9 _ => hF.z hsr (by rw [ksr]; rfl))
                          have g1053 : tk_ub f984 bu B tn := tk_ub_tr g980 (fun i9 => hF.z hbu (by rw [kbu]; rfl))
                          have g1054 : tk_tm f984 mo sr nm tA := tk_tm_tr g981 (hF.z hmo (by rw [kmo]; rfl)) (fun i9 h9 k9 => hF.z hsr (by rw [ksr]; exact q_inWr rfl h9 k9)) (fun i9 h9 k9 => hF.z hsr (by rw [ksr]; exact q_inWr rfl h9 k9)) (fun i9 => hF.j hnm (by rw [knm]; rfl))
                          have g1055 : q_j f984 nm (Int.toNat x603) = tk_mw (tk_w B tn x625) := tk_nw_tr g982 (fun i9 => hF.j hnm (by rw [knm]; rfl))
                          obtain ⟨x1056, ex1056⟩ : ∃ zz, q_is (q_z f984 mo 8) zz := ⟨_, q_isr _⟩
                          obtain ⟨lx1056, ux1056⟩ := q_isb ex1056 ⟨lz1044, uz1044⟩
                          obtain ⟨x1057, ex1057⟩ : ∃ zz, q_is (q_z f984 mo 5) zz := ⟨_, q_isr _⟩
                          obtain ⟨lx1057, ux1057⟩ := q_isb ex1057 (q_fib hB.2.1 hmo kmo (by decide) rfl)
                          obtain ⟨x1058, ex1058⟩ : ∃ zz, q_is (q_z f984 mo 9) zz := ⟨_, q_isr _⟩
                          obtain ⟨lx1058, ux1058⟩ := q_isb ex1058 (q_fib hB.2.1 hmo kmo (by decide) rfl)
                          obtain ⟨-, l0x1057, u0x1057, -, -⟩ := tk_tr_n g1046 ex1057
                          refine q_cVv (As := [.int (q_i x603), .int (q_i 2), .int (q_i y985)]) (rest := []) cx hB (fun _ h => h) hN hmo kmo (by decide) rfl (r_setsNodej l g hN hB.2.1 mo hmo kmo x603 (by omega) (by omega) 2 (by decide) (by decide) y985 (by omega) (by omega) sr hsr ksr z1049) q_cX12_202 q_dX12_setsNode (by decide) rfl rfl hl.1 rfl (Nat.le_of_ble_eq_true rfl) dX12_readsNode_142 (fun H locs f1059 h1061 hF hB => ?_)
                          have z1062 : q_is (q_z f1059 mo 3) tn := Eq.trans (hF.z hmo (by rw [kmo]; rfl)) z1047
                          have z1063 : q_is (q_z f1059 sr 0) x603 := Eq.trans (hF.z hsr (by rw [ksr]; rfl)) z1048
                          have z1064 : q_is (q_z f1059 mo 8) x1056 := Eq.trans (hF.z hmo (by rw [kmo]; rfl)) ex1056
                          have z1065 : q_is (q_z f1059 mo 5) x1057 := Eq.trans (hF.z hmo (by rw [kmo]; rfl)) ex1057
                          have z1066 : q_is (q_z f1059 mo 9) x1058 := Eq.trans (hF.z hmo (by rw [kmo]; rfl)) ex1058
                          have z1067 : q_ir (q_r f1059 mo 13) sr := Eq.trans (hF.r hmo (by rw [kmo]; rfl)) z1049
                          have z1068 : q_ir (q_r f1059 mo 18) nm := Eq.trans (hF.r hmo (by rw [kmo]; rfl)) z1050
                          have z1069 : q_ir (q_r f1059 mo 1) bu := Eq.trans (hF.r hmo (by rw [kmo]; rfl)) z1051
                          have g1070 : tk_ub f1059 bu B tn := tk_ub_tr g1053 (fun i9 => hF.z hbu (by rw [kbu]; rfl))
                          have g1071 : tk_tm f1059 mo sr nm tA := tk_tm_tr g1054 (hF.z hmo (by rw [kmo]; rfl)) (fun i9 h9 k9 => hF.z hsr (by rw [ksr]; exact q_inWr rfl h9 k9)) (fun i9 h9 k9 => hF.z hsr (by rw [ksr]; exact q_inWr rfl h9 k9)) (fun i9 => hF.j hnm (by rw [knm]; rfl))
                          have g1072 : q_j f1059 nm (Int.toNat x603) = tk_mw (tk_w B tn x625) := tk_nw_tr g1055 (fun i9 => hF.j hnm (by rw [knm]; rfl))
                          have g1073 : tk_tr f1059 mo B tn := tk_tr_tr g1046 (hF.z hmo (by rw [kmo]; rfl)) (hF.z hmo (by rw [kmo]; rfl)) (hF.z hmo (by rw [kmo]; rfl)) (hF.z hmo (by rw [kmo]; rfl)) (hF.j hmo (by rw [kmo]; rfl))
                          refine q_ald_n cx dX12_readsNode_145 rfl (lv_at hl 2 rfl) ?_
                          refine q_cVi (As := []) (rest := []) cx hB (fun _ h => h) hN hmo kmo (by decide) rfl (r_isGood1 l g hN hB.2.1 mo hmo kmo x1056 (by omega) (by omega) z1064) q_cX12_130 q_dX12_isGood (by decide) rfl rfl hl.1 rfl (Nat.le_of_ble_eq_true rfl) dX12_readsNode_146 (fun y1075 H locs f1074 ry1075 h1076 hF hB => ?_)
                          obtain ⟨rfl, qy1075⟩ := h1076
                          subst qy1075
                          refine q_ifeq (tgt := 162) cx ⟨by decide, by decide⟩ dX12_readsNode_149 (by decide) (fun c1077 => ?_) (fun c1077 => ?_)
                          · refine q_vret cx hr hlk hB dX12_readsNode_162 ?_
                            exact (Or.inr ⟨(q_isl z1064 (by omega)), (q_isu z1064 (by omega)), (tk_erp (Eq.trans (tk_node_go (by have h7 := tk_tm_nn htm ex603; omega) (Eq.trans (Eq.symm ex625) t613) t635 t679 (Eq.trans (Eq.symm ex718) t705)) (tk_bd_er (tk_rst_e4 (tk_okx t726 ex739) (tk_shift_n t965) (tk_erx t1045 ex1056 ex1058)) _)) z1064 z1066), g1073⟩)
                          · exact absurd c1077 (by omega)
                      · exact absurd c967 (by omega)
                    · exact absurd c966 (by omega)
                · obtain ⟨lz1078, uz1078, t1079, g1080⟩ := h723
                  have z1081 : q_is (q_z f719 mo 3) tn := Eq.trans (hF.z hmo (by rw [kmo]; rfl)) z707
                  have z1082 : q_is (q_z f719 sr 0) x603 := Eq.trans (hF.z hsr (by rw [ksr]; rfl)) z708
                  have z1083 : q_ir (q_r f719 mo 13) sr := Eq.trans (hF.r hmo (by rw [kmo]; rfl)) z711
                  have z1084 : q_ir (q_r f719 mo 18) nm := Eq.trans (hF.r hmo (by rw [kmo]; rfl)) z712
                  have z1085 : q_ir (q_r f719 mo 1) bu := Eq.trans (hF.r hmo (by rw [kmo]; rfl)) z713
                  have g1086 : q_gr f719 sr := q_gr_fr g714 (fun i9 _ => hF.z hsr (by rw [ksr]; rfl))
                  have g1087 : tk_ub f719 bu B tn := tk_ub_tr g715 (fun i9 => hF.z hbu (by rw [kbu]; rfl))
                  have g1088 : tk_tm f719 mo sr nm tA := tk_tm_tr g716 (hF.z hmo (by rw [kmo]; rfl)) (fun i9 h9 k9 => hF.z hsr (by rw [ksr]; exact q_inWr rfl h9 k9)) (fun i9 h9 k9 => hF.z hsr (by rw [ksr]; exact q_inWr rfl h9 k9)) (fun i9 => hF.j hnm (by rw [knm]; rfl))
                  have g1089 : q_j f719 nm (Int.toNat x603) = tk_mw (tk_w B tn x625) := tk_nw_tr g717 (fun i9 => hF.j hnm (by rw [knm]; rfl))
                  obtain ⟨x1090, ex1090⟩ : ∃ zz, q_is (q_z f719 mo 8) zz := ⟨_, q_isr _⟩
                  obtain ⟨lx1090, ux1090⟩ := q_isb ex1090 ⟨lz1078, uz1078⟩
                  obtain ⟨x1091, ex1091⟩ : ∃ zz, q_is (q_z f719 mo 5) zz := ⟨_, q_isr _⟩
                  obtain ⟨lx1091, ux1091⟩ := q_isb ex1091 (q_fib hB.2.1 hmo kmo (by decide) rfl)
                  obtain ⟨x1092, ex1092⟩ : ∃ zz, q_is (q_z f719 mo 9) zz := ⟨_, q_isr _⟩
                  obtain ⟨lx1092, ux1092⟩ := q_isb ex1092 (q_fib hB.2.1 hmo kmo (by decide) rfl)
                  obtain ⟨-, l0x1091, u0x1091, -, -⟩ := tk_tr_n g1080 ex1091
                  refine q_cVv (As := [.int (q_i x603), .int (q_i 0), .int (q_i y720)]) (rest := []) cx hB (fun _ h => h) hN hmo kmo (by decide) rfl (r_setsNodej l g hN hB.2.1 mo hmo kmo x603 (by omega) (by omega) 0 (by decide) (by decide) y720 (by omega) (by omega) sr hsr ksr z1083) q_cX12_202 q_dX12_setsNode (by decide) rfl rfl hl.1 rfl (Nat.le_of_ble_eq_true rfl) dX12_readsNode_88 (fun H locs f1093 h1095 hF hB => ?_)
                  have z1096 : q_is (q_z f1093 mo 3) tn := Eq.trans (hF.z hmo (by rw [kmo]; rfl)) z1081
                  have z1097 : q_is (q_z f1093 sr 0) x603 := Eq.trans (hF.z hsr (by rw [ksr]; rfl)) z1082
                  have z1098 : q_is (q_z f1093 mo 8) x1090 := Eq.trans (hF.z hmo (by rw [kmo]; rfl)) ex1090
                  have z1099 : q_is (q_z f1093 mo 5) x1091 := Eq.trans (hF.z hmo (by rw [kmo]; rfl)) ex1091
                  have z1100 : q_is (q_z f1093 mo 9) x1092 := Eq.trans (hF.z hmo (by rw [kmo]; rfl)) ex1092
                  have z1101 : q_ir (q_r f1093 mo 13) sr := Eq.trans (hF.r hmo (by rw [kmo]; rfl)) z1083
                  have z1102 : q_ir (q_r f1093 mo 18) nm := Eq.trans (hF.r hmo (by rw [kmo]; rfl)) z1084
                  have z1103 : q_ir (q_r f1093 mo 1) bu := Eq.trans (hF.r hmo (by rw [kmo]; rfl)) z1085
                  have g1104 : tk_ub f1093 bu B tn := tk_ub_tr g1087 (fun i9 => hF.z hbu (by rw [kbu]; rfl))
                  have g1105 : tk_tm f1093 mo sr nm tA := tk_tm_tr g1088 (hF.z hmo (by rw [kmo]; rfl)) (fun i9 h9 k9 => hF.z hsr (by rw [ksr]; exact q_inWr rfl h9 k9)) (fun i9 h9 k9 => hF.z hsr (by rw [ksr]; exact q_inWr rfl h9 k9)) (fun i9 => hF.j hnm (by rw [knm]; rfl))
                  have g1106 : q_j f1093 nm (Int.toNat x603) = tk_mw (tk_w B tn x625) := tk_nw_tr g1089 (fun i9 => hF.j hnm (by rw [knm]; rfl))
                  have g1107 : tk_tr f1093 mo B tn := tk_tr_tr g1080 (hF.z hmo (by rw [kmo]; rfl)) (hF.z hmo (by rw [kmo]; rfl)) (hF.z hmo (by rw [kmo]; rfl)) (hF.z hmo (by rw [kmo]; rfl)) (hF.j hmo (by rw [kmo]; rfl))
                  refine q_ald_n cx dX12_readsNode_91 rfl (lv_at hl 1 rfl) ?_
                  refine lv_ldc2 (v := q_l 20194516) cx.1 cx.2.1 cx.2.2.2.1 (cx.2.2.2.2 _ q_h1812) dX12_readsNode_92 ?_
                  refine q_cVi (As := [.long (q_l 20194516)]) (rest := []) cx hB (fun _ h => h) hN hmo kmo (by decide) rfl (r_isWord1 l g hN hB.2.1 mo hmo kmo (q_l 20194516) x1090 (by omega) (by omega) z1098) q_cX12_143 q_dX12_isWord (by decide) rfl rfl hl.1 rfl (Nat.le_of_ble_eq_true rfl) dX12_readsNode_95 (fun y1109 H locs f1108 ry1109 h1110 hF hB => ?_)
                  obtain ⟨rfl, qy1109⟩ := h1110
                  subst qy1109
                  refine lv_istore_n (lv' := [(2, .int (q_i 0)), (1, .int (q_i x603)), (0, .ref mo)]) cx.1 cx.2.1 dX12_readsNode_98 rfl hl (by decide) rfl (fun ls hl => ?_)
                  refine q_ild_n cx dX12_readsNode_99 rfl (lv_at hl 0 rfl) ?_
                  refine q_ifeq (tgt := 107) cx ⟨by decide, by decide⟩ dX12_readsNode_100 (by decide) (fun c1111 => ?_) (fun c1111 => ?_)
                  · refine q_ald_n cx dX12_readsNode_107 rfl (lv_at hl 2 rfl) ?_
                    refine q_ild_n cx dX12_readsNode_108 rfl (lv_at hl 1 rfl) ?_
                    refine q_iconst cx dX12_readsNode_109 ?_
                    refine q_ild_n cx dX12_readsNode_110 rfl (lv_at hl 0 rfl) ?_
                    refine q_ifeq (tgt := 124) cx ⟨by decide, by decide⟩ dX12_readsNode_111 (by decide) (fun c1112 => ?_) (fun c1112 => ?_)
                    · refine q_iconst cx dX12_readsNode_124 ?_
                      refine q_cVv (As := [.int (q_i x603), .int (q_i 1), .int (q_i 0)]) (rest := []) cx hB (fun _ h => h) hN hmo kmo (by decide) rfl (r_setsNodej l g hN hB.2.1 mo hmo kmo x603 (by omega) (by omega) 1 (by decide) (by decide) 0 (by decide) (by decide) sr hsr ksr z1101) q_cX12_202 q_dX12_setsNode (by decide) rfl rfl hl.1 rfl (Nat.le_of_ble_eq_true rfl) dX12_readsNode_125 (fun H locs f1113 h1115 hF hB => ?_)
                      have z1116 : q_is (q_z f1113 mo 3) tn := Eq.trans (hF.z hmo (by rw [kmo]; rfl)) z1096
                      have z1117 : q_is (q_z f1113 sr 0) x603 := Eq.trans (hF.z hsr (by rw [ksr]; rfl)) z1097
                      have z1118 : q_is (q_z f1113 mo 8) x1090 := Eq.trans (hF.z hmo (by rw [kmo]; rfl)) z1098
                      have z1119 : q_is (q_z f1113 mo 5) x1091 := Eq.trans (hF.z hmo (by rw [kmo]; rfl)) z1099
                      have z1120 : q_is (q_z f1113 mo 9) x1092 := Eq.trans (hF.z hmo (by rw [kmo]; rfl)) z1100
                      have z1121 : q_ir (q_r f1113 mo 13) sr := Eq.trans (hF.r hmo (by rw [kmo]; rfl)) z1101
                      have z1122 : q_ir (q_r f1113 mo 18) nm := Eq.trans (hF.r hmo (by rw [kmo]; rfl)) z1102
                      have z1123 : q_ir (q_r f1113 mo 1) bu := Eq.trans (hF.r hmo (by rw [kmo]; rfl)) z1103
                      have g1124 : tk_ub f1113 bu B tn := tk_ub_tr g1104 (fun i9 => hF.z hbu (by rw [kbu]; rfl))
                      have g1125 : tk_tm f1113 mo sr nm tA := tk_tm_tr g1105 (hF.z hmo (by rw [kmo]; rfl)) (fun i9 h9 k9 => hF.z hsr (by rw [ksr]; exact q_inWr rfl h9 k9)) (fun i9 h9 k9 => hF.z hsr (by rw [ksr]; exact q_inWr rfl h9 k9)) (fun i9 => hF.j hnm (by rw [knm]; rfl))
                      have g1126 : q_j f1113 nm (Int.toNat x603) = tk_mw (tk_w B tn x625) := tk_nw_tr g1106 (fun i9 => hF.j hnm (by rw [knm]; rfl))
                      have g1127 : tk_tr f1113 mo B tn := tk_tr_tr g1107 (hF.z hmo (by rw [kmo]; rfl)) (hF.z hmo (by rw [kmo]; rfl)) (hF.z hmo (by rw [kmo]; rfl)) (hF.z hmo (by rw [kmo]; rfl)) (hF.j hmo (by rw [kmo]; rfl))
                      refine q_ald_n cx dX12_readsNode_128 rfl (lv_at hl 2 rfl) ?_
                      refine q_ild_n cx dX12_readsNode_129 rfl (lv_at hl 1 rfl) ?_
                      refine q_iconst cx dX12_readsNode_130 ?_
                      refine q_ald_n cx dX12_readsNode_131 rfl (lv_at hl 2 rfl) ?_
                      refine lv_ldc2 (v := q_l 182634745) cx.1 cx.2.1 cx.2.2.2.1 (cx.2.2.2.2 _ q_h1813) dX12_readsNode_132 ?_
                      refine q_iconst cx dX12_readsNode_135 ?_
                      refine q_sipush cx dX12_readsNode_136 rfl ?_
                      refine q_cVi (As := [.long (q_l 182634745), .int (q_i 1), .int (q_i 999)]) (rest := [.int (q_i 2), .int (q_i x603), .ref mo]) cx hB (fun _ h => h) hN hmo kmo (by decide) rfl (r_after1 l g hN hB.2.1 mo hmo kmo (q_l 182634745) 1 (by decide) (by decide) 999 (by decide) (by decide) x1090 (by omega) (by omega) z1118) q_cX12_198 q_dX12_after (by decide) rfl rfl hl.1 rfl (Nat.le_of_ble_eq_true rfl) dX12_readsNode_139 (fun y1129 H locs f1128 ry1129 h1130 hF hB => ?_)
                      obtain rfl := h1130
                      refine q_cVv (As := [.int (q_i x603), .int (q_i 2), .int (q_i y1129)]) (rest := []) cx hB (fun _ h => h) hN hmo kmo (by decide) rfl (r_setsNodej l g hN hB.2.1 mo hmo kmo x603 (by omega) (by omega) 2 (by decide) (by decide) y1129 (by omega) (by omega) sr hsr ksr z1121) q_cX12_202 q_dX12_setsNode (by decide) rfl rfl hl.1 rfl (Nat.le_of_ble_eq_true rfl) dX12_readsNode_142 (fun H locs f1131 h1133 hF hB => ?_)
                      have z1134 : q_is (q_z f1131 mo 3) tn := Eq.trans (hF.z hmo (by rw [kmo]; rfl)) z1116
                      have z1135 : q_is (q_z f1131 sr 0) x603 := Eq.trans (hF.z hsr (by rw [ksr]; rfl)) z1117
                      have z1136 : q_is (q_z f1131 mo 8) x1090 := Eq.trans (hF.z hmo (by rw [kmo]; rfl)) z1118
                      have z1137 : q_is (q_z f1131 mo 5) x1091 := Eq.trans (hF.z hmo (by rw [kmo]; rfl)) z1119
                      have z1138 : q_is (q_z f1131 mo 9) x1092 := Eq.trans (hF.z hmo (by rw [kmo]; rfl)) z1120
                      have z1139 : q_ir (q_r f1131 mo 13) sr := Eq.trans (hF.r hmo (by rw [kmo]; rfl)) z1121
                      have z1140 : q_ir (q_r f1131 mo 18) nm := Eq.trans (hF.r hmo (by rw [kmo]; rfl)) z1122
                      have z1141 : q_ir (q_r f1131 mo 1) bu := Eq.trans (hF.r hmo (by rw [kmo]; rfl)) z1123
                      have g1142 : tk_ub f1131 bu B tn := tk_ub_tr g1124 (fun i9 => hF.z hbu (by rw [kbu]; rfl))
                      have g1143 : tk_tm f1131 mo sr nm tA := tk_tm_tr g1125 (hF.z hmo (by rw [kmo]; rfl)) (fun i9 h9 k9 => hF.z hsr (by rw [ksr]; exact q_inWr rfl h9 k9)) (fun i9 h9 k9 => hF.z hsr (by rw [ksr]; exact q_inWr rfl h9 k9)) (fun i9 => hF.j hnm (by rw [knm]; rfl))
                      have g1144 : q_j f1131 nm (Int.toNat x603) = tk_mw (tk_w B tn x625) := tk_nw_tr g1126 (fun i9 => hF.j hnm (by rw [knm]; rfl))
                      have g1145 : tk_tr f1131 mo B tn := tk_tr_tr g1127 (hF.z hmo (by rw [kmo]; rfl)) (hF.z hmo (by rw [kmo]; rfl)) (hF.z hmo (by rw [kmo]; rfl)) (hF.z hmo (by rw [kmo]; rfl)) (hF.j hmo (by rw [kmo]; rfl))
                      refine q_ald_n cx dX12_readsNode_145 rfl (lv_at hl 2 rfl) ?_
                      refine q_cVi (As := []) (rest := []) cx hB (fun _ h => h) hN hmo kmo (by decide) rfl (r_isGood1 l g hN hB.2.1 mo hmo kmo x1090 (by omega) (by omega) z1136) q_cX12_130 q_dX12_isGood (by decide) rfl rfl hl.1 rfl (Nat.le_of_ble_eq_true rfl) dX12_readsNode_146 (fun y1147 H locs f1146 ry1147 h1148 hF hB => ?_)
                      obtain ⟨rfl, qy1147⟩ := h1148
                      subst qy1147
                      refine q_ifeq (tgt := 162) cx ⟨by decide, by decide⟩ dX12_readsNode_149 (by decide) (fun c1149 => ?_) (fun c1149 => ?_)
                      · refine q_vret cx hr hlk hB dX12_readsNode_162 ?_
                        exact (Or.inr ⟨(q_isl z1136 (by omega)), (q_isu z1136 (by omega)), (tk_erp (Eq.trans (tk_node_go (by have h7 := tk_tm_nn htm ex603; omega) (Eq.trans (Eq.symm ex625) t613) t635 t679 (Eq.trans (Eq.symm ex718) t705)) (tk_bd_er (tk_rst_e1 (tk_erx t1079 ex1090 ex1092)) _)) z1136 z1138), g1145⟩)
                      · exact absurd c1149 (by omega)
                    · exact absurd c1112 (by omega)
                  · exact absurd c1111 (by omega)
              · exact absurd c684 (by omega)
            · exact absurd c680 (by omega)
      · obtain ⟨z1150, z1151, t1152, g1153⟩ := h630
        have z1154 : q_is (q_z f626 mo 3) tn := Eq.trans (hF.z hmo (by rw [kmo]; rfl)) z615
        have z1155 : q_is (q_z f626 sr 0) x603 := Eq.trans (hF.z hsr (by rw [ksr]; rfl)) z618
        have z1156 : q_is (q_z f626 mo 5) x625 := Eq.trans (hF.z hmo (by rw [kmo]; rfl)) ex625
        have z1157 : q_ir (q_r f626 mo 13) sr := Eq.trans (hF.r hmo (by rw [kmo]; rfl)) z619
        have z1158 : q_ir (q_r f626 mo 18) nm := Eq.trans (hF.r hmo (by rw [kmo]; rfl)) z620
        have z1159 : q_ir (q_r f626 mo 1) bu := Eq.trans (hF.r hmo (by rw [kmo]; rfl)) z621
        have g1160 : q_gr f626 sr := q_gr_fr g622 (fun i9 _ => hF.z hsr (by rw [ksr]; rfl))
        have g1161 : tk_ub f626 bu B tn := tk_ub_tr g623 (fun i9 => hF.z hbu (by rw [kbu]; rfl))
        have g1162 : tk_tm f626 mo sr nm tA := tk_tm_tr g624 (hF.z hmo (by rw [kmo]; rfl)) (fun i9 h9 k9 => hF.z hsr (by rw [ksr]; exact q_inWr rfl h9 k9)) (fun i9 h9 k9 => hF.z hsr (by rw [ksr]; exact q_inWr rfl h9 k9)) (fun i9 => hF.j hnm (by rw [knm]; rfl))
        have g1163 : tk_tr f626 mo B tn := tk_tr_tr g614 (hF.z hmo (by rw [kmo]; rfl)) (hF.z hmo (by rw [kmo]; rfl)) (hF.z hmo (by rw [kmo]; rfl)) (hF.z hmo (by rw [kmo]; rfl)) (hF.j hmo (by rw [kmo]; rfl))
        refine q_ald_n cx dX12_readsNode_33 rfl (lv_at hl 1 rfl) ?_
        refine q_cVi (As := []) (rest := []) cx hB (fun _ h => h) hN hmo kmo (by decide) rfl (r_isGood1 l g hN hB.2.1 mo hmo kmo 1 (by decide) (by decide) z1150) q_cX12_130 q_dX12_isGood (by decide) rfl rfl hl.1 rfl (Nat.le_of_ble_eq_true rfl) dX12_readsNode_34 (fun y1165 H locs f1164 ry1165 h1166 hF hB => ?_)
        obtain ⟨rfl, qy1165⟩ := h1166
        subst qy1165
        refine q_ifeq (tgt := 53) cx ⟨by decide, by decide⟩ dX12_readsNode_37 (by decide) (fun c1167 => ?_) (fun c1167 => ?_)
        · refine q_ald_n cx dX12_readsNode_53 rfl (lv_at hl 1 rfl) ?_
          refine q_cVi (As := []) (rest := []) cx hB (fun _ h => h) hN hmo kmo (by decide) rfl (r_isGood1 l g hN hB.2.1 mo hmo kmo 1 (by decide) (by decide) z1150) q_cX12_130 q_dX12_isGood (by decide) rfl rfl hl.1 rfl (Nat.le_of_ble_eq_true rfl) dX12_readsNode_54 (fun y1169 H locs f1168 ry1169 h1170 hF hB => ?_)
          obtain ⟨rfl, qy1169⟩ := h1170
          subst qy1169
          refine q_ifne (tgt := 61) cx ⟨by decide, by decide⟩ dX12_readsNode_57 (by decide) (fun c1171 => ?_) (fun c1171 => ?_)
          · exact absurd c1171 (by omega)
          · refine q_vret cx hr hlk hB dX12_readsNode_60 ?_
            exact (Or.inr ⟨(q_isl z1150 (by omega)), (q_isu z1150 (by omega)), (tk_node_e1 (by have h7 := tk_tm_nn htm ex603; omega) (Eq.trans (Eq.symm ex625) t613) t1152 z1150 z1151), g1153⟩)
        · exact absurd c1167 (by omega)
  · refine q_ald_n cx dX12_readsNode_13 rfl (lv_at hl 1 rfl) ?_
    refine q_iconst cx dX12_readsNode_14 ?_
    refine q_cVv (As := [.int (q_i 5)]) (rest := []) cx hB (fun _ h => h) hN hmo kmo (by decide) rfl (f_mwrongk l g hN hB.2.1 mo hmo kmo 5 (by decide) (by decide) ss (by omega) (by omega) so9 (by omega) (by omega) hf1 hf4 hf2 hf3) q_cX12_137 q_dX12_wrong (by decide) rfl rfl hl.1 rfl (Nat.le_of_ble_eq_true rfl) dX12_readsNode_15 (fun H locs f1172 h1174 hF hB => ?_)
    obtain ⟨z1175, z1176⟩ := h1174
    have z1177 : q_is (q_z f1172 mo 3) tn := Eq.trans (hF.z hmo (by rw [kmo]; rfl)) hf0
    have z1178 : q_is (q_z f1172 mo 5) ss := Eq.trans (hF.z hmo (by rw [kmo]; rfl)) hf1
    have z1179 : q_is (q_z f1172 mo 6) so9 := Eq.trans (hF.z hmo (by rw [kmo]; rfl)) hf4
    have z1180 : q_is (q_z f1172 sr 0) x603 := Eq.trans (hF.z hsr (by rw [ksr]; rfl)) ex603
    have z1181 : q_ir (q_r f1172 mo 13) sr := Eq.trans (hF.r hmo (by rw [kmo]; rfl)) hr0
    have z1182 : q_ir (q_r f1172 mo 18) nm := Eq.trans (hF.r hmo (by rw [kmo]; rfl)) hr1
    have z1183 : q_ir (q_r f1172 mo 1) bu := Eq.trans (hF.r hmo (by rw [kmo]; rfl)) hr2
    have g1184 : q_gr f1172 sr := q_gr_fr hgr (fun i9 _ => hF.z hsr (by rw [ksr]; rfl))
    have g1185 : tk_tr f1172 mo B tn := tk_tr_tr htr (hF.z hmo (by rw [kmo]; rfl)) (hF.z hmo (by rw [kmo]; rfl)) (hF.z hmo (by rw [kmo]; rfl)) (hF.z hmo (by rw [kmo]; rfl)) (hF.j hmo (by rw [kmo]; rfl))
    have g1186 : tk_ub f1172 bu B tn := tk_ub_tr hub (fun i9 => hF.z hbu (by rw [kbu]; rfl))
    have g1187 : tk_tm f1172 mo sr nm tA := tk_tm_tr htm (hF.z hmo (by rw [kmo]; rfl)) (fun i9 h9 k9 => hF.z hsr (by rw [ksr]; exact q_inWr rfl h9 k9)) (fun i9 h9 k9 => hF.z hsr (by rw [ksr]; exact q_inWr rfl h9 k9)) (fun i9 => hF.j hnm (by rw [knm]; rfl))
    refine q_ald_n cx dX12_readsNode_18 rfl (lv_at hl 1 rfl) ?_
    refine q_cVi (As := []) (rest := []) cx hB (fun _ h => h) hN hmo kmo (by decide) rfl (r_isGood1 l g hN hB.2.1 mo hmo kmo 5 (by decide) (by decide) z1175) q_cX12_130 q_dX12_isGood (by decide) rfl rfl hl.1 rfl (Nat.le_of_ble_eq_true rfl) dX12_readsNode_19 (fun y1189 H locs f1188 ry1189 h1190 hF hB => ?_)
    obtain ⟨rfl, qy1189⟩ := h1190
    subst qy1189
    refine q_ifeq (tgt := 29) cx ⟨by decide, by decide⟩ dX12_readsNode_22 (by decide) (fun c1191 => ?_) (fun c1191 => ?_)
    · refine q_ald_n cx dX12_readsNode_29 rfl (lv_at hl 1 rfl) ?_
      refine q_cVv (As := []) (rest := []) cx hB (fun _ h => h) hN hmo kmo (by decide) rfl (r_mustBeWord1 l g hN hB.2.1 mo hmo kmo 5 (by decide) (by decide) z1175) q_cX12_175 q_dX12_mustBeWord (by decide) rfl rfl hl.1 rfl (Nat.le_of_ble_eq_true rfl) dX12_readsNode_30 (fun H locs f1192 h1194 hF hB => ?_)
      obtain rfl := h1194
      refine q_ald_n cx dX12_readsNode_33 rfl (lv_at hl 1 rfl) ?_
      refine q_cVi (As := []) (rest := []) cx hB (fun _ h => h) hN hmo kmo (by decide) rfl (r_isGood1 l g hN hB.2.1 mo hmo kmo 5 (by decide) (by decide) z1175) q_cX12_130 q_dX12_isGood (by decide) rfl rfl hl.1 rfl (Nat.le_of_ble_eq_true rfl) dX12_readsNode_34 (fun y1196 H locs f1195 ry1196 h1197 hF hB => ?_)
      obtain ⟨rfl, qy1196⟩ := h1197
      subst qy1196
      refine q_ifeq (tgt := 53) cx ⟨by decide, by decide⟩ dX12_readsNode_37 (by decide) (fun c1198 => ?_) (fun c1198 => ?_)
      · refine q_ald_n cx dX12_readsNode_53 rfl (lv_at hl 1 rfl) ?_
        refine q_cVi (As := []) (rest := []) cx hB (fun _ h => h) hN hmo kmo (by decide) rfl (r_isGood1 l g hN hB.2.1 mo hmo kmo 5 (by decide) (by decide) z1175) q_cX12_130 q_dX12_isGood (by decide) rfl rfl hl.1 rfl (Nat.le_of_ble_eq_true rfl) dX12_readsNode_54 (fun y1200 H locs f1199 ry1200 h1201 hF hB => ?_)
        obtain ⟨rfl, qy1200⟩ := h1201
        subst qy1200
        refine q_ifne (tgt := 61) cx ⟨by decide, by decide⟩ dX12_readsNode_57 (by decide) (fun c1202 => ?_) (fun c1202 => ?_)
        · exact absurd c1202 (by omega)
        · refine q_vret cx hr hlk hB dX12_readsNode_60 ?_
          exact (Or.inr ⟨(q_isl z1175 (by omega)), (q_isu z1175 (by omega)), (tk_node_e5 (by have h7 := tk_tm_nn htm ex603; omega) z1175 z1176), g1185⟩)
      · exact absurd c1198 (by omega)
    · exact absurd c1191 (by omega)
