set_option maxHeartbeats 4000000 in
set_option maxRecDepth 100000 in
theorem f_mcommand (l : Launch) (g : q_G) {K : Nat → Nat} {L : List Nat} (hN : L.Nodup) {f : Nat → va_E} (hT : q_Ty g K L f) (B : Nat → Int) (nl9 : List (List Int)) (mo : Nat) (hmo : mo ∈ L) (kmo : K mo = 12) (sr : Nat) (hsr : sr ∈ L) (ksr : K sr = 151) (nm : Nat) (hnm : nm ∈ L) (knm : K nm = 156) (bu : Nat) (hbu : bu ∈ L) (kbu : K bu = 150) (cs : Nat) (hcs : cs ∈ L) (kcs : K cs = 161) (c1 : Nat) (hc1 : c1 ∈ L) (kc1 : K c1 = 162) (c2 : Nat) (hc2 : c2 ∈ L) (kc2 : K c2 = 163) (c3 : Nat) (hc3 : c3 ∈ L) (kc3 : K c3 = 164) (tn : Int) (ltn : 0 ≤ tn) (utn : tn ≤ 600) (ss : Int) (lss : 0 ≤ ss) (uss : ss ≤ 600) (xc : Int) (lxc : 0 ≤ xc) (uxc : xc ≤ 10) (xo : Int) (lxo : 0 ≤ xo) (uxo : xo ≤ 2) (xw : Int) (lxw : 0 ≤ xw) (uxw : xw ≤ 30) (hf0 : q_is (q_z f mo 3) tn) (hf1 : q_is (q_z f mo 5) ss) (hf2 : q_is (q_z f mo 8) 0) (hf3 : q_is (q_z f mo 9) (-1)) (hf4 : q_is (q_z f sr 0) xc) (hf5 : q_is (q_z f mo 37) xo) (hf6 : q_is (q_z f mo 36) xw) (hr0 : q_ir (q_r f mo 13) sr) (hr1 : q_ir (q_r f mo 18) nm) (hr2 : q_ir (q_r f mo 1) bu) (hr3 : q_ir (q_r f mo 29) cs) (hr4 : q_ir (q_r f mo 30) c1) (hr5 : q_ir (q_r f mo 31) c2) (hr6 : q_ir (q_r f mo 32) c3) (hp0 : (nl9.length : Int) = xc) (htr : tk_tr f mo B tn) (hub : tk_ub f bu B tn) (hrn : tk_nq f nm nl9) (hsc : q_sc f mo cs c1 c2) : q_Ct l g K L yX12_command cX12_command 3 none 5 112 [.ref mo] f [(12, 4, 9), (12, 12, 12), (12, 35, 37), (161, 0, 58), (162, 0, 58), (163, 0, 58), (164, 0, 58)] (q_Pv (fun (f1 : Nat → va_E) => (q_is (q_z f1 mo 8) 0 ∧ q_is (q_z f1 mo 9) (-1) ∧ q_is (q_z f1 mo 37) xo ∧ q_is (q_z f1 mo 36) (xw + 1) ∧ (tk_cm B tn nl9 ss xo xw = tk_ok (q_z f1 mo 5, q_z f1 mo 37, q_z f1 mo 36)) ∧ (xw ≤ 29) ∧ (q_sc f1 mo cs c1 c2) ∧ (tk_tr f1 mo B tn)) ∨ (q_is (q_z f1 mo 8) 0 ∧ q_is (q_z f1 mo 9) (-1) ∧ q_is (q_z f1 mo 37) (xo + 1) ∧ q_is (q_z f1 mo 36) (xw + 1) ∧ (tk_cm B tn nl9 ss xo xw = tk_ok (q_z f1 mo 5, q_z f1 mo 37, q_z f1 mo 36)) ∧ (xw ≤ 29) ∧ (xo ≤ 1) ∧ (q_sc f1 mo cs c1 c2) ∧ (tk_tr f1 mo B tn)) ∨ (1 ≤ q_z f1 mo 8 ∧ q_z f1 mo 8 ≤ 5 ∧ (tk_cm B tn nl9 ss xo xw = tk_er (q_z f1 mo 8) (q_z f1 mo 9)) ∧ (tk_tr f1 mo B tn)))) := by
  refine q_ofb (by decide +kernel) hN hT (Nat.le_of_ble_eq_true rfl) ?_
  intro p e s m below meth c ls cx hr hlk hB hl
  have hl : lv_has ls 3 [(0, .ref mo)] := hl
  obtain ⟨H, hH⟩ : ∃ H : Heap, H = s.heap := ⟨_, rfl⟩
  obtain ⟨locs, hlocs⟩ : ∃ z : List Loc, z = [] := ⟨_, rfl⟩
  rw [← hH, ← hlocs] at hB
  rw [← hH, ← hlocs]
  obtain ⟨x1634, ex1634⟩ : ∃ zz, q_is (q_z f mo 35) zz := ⟨_, q_isr _⟩
  obtain ⟨lx1634, ux1634⟩ := q_isb ex1634 (q_fib hB.2.1 hmo kmo (by decide) rfl)
  have hq0 : x1634 + xo ≤ 2 * xw := by have h7 := hsc.2.2.2; have h70 : _ = _ := ex1634; have h71 : _ = _ := hf6; have h72 : _ = _ := hf5; omega
  have hbx : k_bl f f c1 c2 60 := k_bl_rf _ _ _ _
  have hbs : k_b1 f f cs x1634 := k_b1_rf _ _ _
  refine q_ald_n cx dX12_command_0 rfl (lv_at hl 0 rfl) ?_
  refine q_cVi (As := []) (rest := []) cx hB (fun _ h => h) hN hmo kmo (by decide) rfl (f_mcommandHere l g hN hB.2.1 B mo hmo kmo bu hbu kbu tn (by omega) (by omega) ss (by omega) (by omega) hf0 hf1 hf2 hf3 hr2 htr hub) q_cX12_485 q_dX12_commandHere (by decide) rfl rfl hl.1 rfl (Nat.le_of_ble_eq_true rfl) dX12_command_1 (fun y1636 H locs f1635 ry1636 h1637 hF hB => ?_)
  rcases h1637 with h1638 | h1639 | h1640 | h1641 | h1642 | h1643 | h1644 | h1645
  · obtain ⟨rfl, qy1636, z1646, t1647⟩ := h1638
    subst qy1636
    refine lv_istore_n (lv' := [(1, .int (q_i 0)), (0, .ref mo)]) cx.1 cx.2.1 dX12_command_4 rfl hl (by decide) rfl (fun ls hl => ?_)
    refine q_ild_n cx dX12_command_5 rfl (lv_at hl 0 rfl) ?_
    refine q_iconst cx dX12_command_6 ?_
    refine q_icne (tgt := 15) cx ⟨by decide, by decide⟩ ⟨by decide, by decide⟩ dX12_command_7 (by decide) (fun c1648 => ?_) (fun c1648 => ?_)
    · refine q_ild_n cx dX12_command_15 rfl (lv_at hl 0 rfl) ?_
      refine q_bipush cx dX12_command_16 rfl ?_
      refine q_icne (tgt := 34) cx ⟨by decide, by decide⟩ ⟨by decide, by decide⟩ dX12_command_18 (by decide) (fun c1649 => ?_) (fun c1649 => ?_)
      · refine q_ald_n cx dX12_command_34 rfl (lv_at hl 1 rfl) ?_
        refine q_gX12_491 cx hB hmo kmo hf6 dX12_command_35 (fun lb1650 ub1650 => ?_)
        refine q_bipush cx dX12_command_38 rfl ?_
        refine q_icne (tgt := 48) cx ⟨by omega, by omega⟩ ⟨by decide, by decide⟩ dX12_command_40 (by decide) (fun c1651 => ?_) (fun c1651 => ?_)
        · refine q_ald_n cx dX12_command_48 rfl (lv_at hl 1 rfl) ?_
          refine q_cVi (As := []) (rest := []) cx hB (fun _ h => h) hN hmo kmo (by decide) rfl (f_misGood l g hN hB.2.1 mo hmo kmo hf2) q_cX12_130 q_dX12_isGood (by decide) rfl rfl hl.1 rfl (Nat.le_of_ble_eq_true rfl) dX12_command_49 (fun y1653 H locs f1652 ry1653 h1654 hF hB => ?_)
          obtain ⟨rfl, qy1653⟩ := h1654
          subst qy1653
          refine q_ifne (tgt := 56) cx ⟨by decide, by decide⟩ dX12_command_52 (by decide) (fun c1655 => ?_) (fun c1655 => ?_)
          · refine q_ald_n cx dX12_command_56 rfl (lv_at hl 1 rfl) ?_
            refine lv_dup cx.1 cx.2.1 dX12_command_57 rfl ?_
            refine q_gX12_491 cx hB hmo kmo hf6 dX12_command_58 (fun lb1656 ub1656 => ?_)
            refine q_iconst cx dX12_command_61 ?_
            refine q_iadd cx dX12_command_62 ?_
            refine q_pX12_491 cx hB hmo kmo ⟨by omega, by omega⟩ (by omega) (by omega) rfl dX12_command_63 (fun H locs f1657 ef1657 z1658 hB => ?_)
            have z1659 : q_is (q_z f1657 mo 3) tn := by rw [ef1657, q_setz (Or.inr (by decide))]; exact hf0
            have z1660 : q_is (q_z f1657 mo 5) ss := by rw [ef1657, q_setz (Or.inr (by decide))]; exact hf1
            have z1661 : q_is (q_z f1657 mo 8) 0 := by rw [ef1657, q_setz (Or.inr (by decide))]; exact hf2
            have z1662 : q_is (q_z f1657 mo 9) (-1) := by rw [ef1657, q_setz (Or.inr (by decide))]; exact hf3
            have z1663 : q_is (q_z f1657 sr 0) xc := by rw [ef1657, q_setz (Or.inr (by decide))]; exact hf4
            have z1664 : q_is (q_z f1657 mo 37) xo := by rw [ef1657, q_setz (Or.inr (by decide))]; exact hf5
            have z1665 : q_is (q_z f1657 mo 35) x1634 := by rw [ef1657, q_setz (Or.inr (by decide))]; exact ex1634
            have z1666 : q_is (q_z f1657 mo 6) 1 := by rw [ef1657, q_setz (Or.inr (by decide))]; exact z1646
            have z1667 : q_ir (q_r f1657 mo 13) sr := by rw [ef1657, q_setr (Or.inr (by decide))]; exact hr0
            have z1668 : q_ir (q_r f1657 mo 18) nm := by rw [ef1657, q_setr (Or.inr (by decide))]; exact hr1
            have z1669 : q_ir (q_r f1657 mo 1) bu := by rw [ef1657, q_setr (Or.inr (by decide))]; exact hr2
            have z1670 : q_ir (q_r f1657 mo 29) cs := by rw [ef1657, q_setr (Or.inr (by decide))]; exact hr3
            have z1671 : q_ir (q_r f1657 mo 30) c1 := by rw [ef1657, q_setr (Or.inr (by decide))]; exact hr4
            have z1672 : q_ir (q_r f1657 mo 31) c2 := by rw [ef1657, q_setr (Or.inr (by decide))]; exact hr5
            have z1673 : q_ir (q_r f1657 mo 32) c3 := by rw [ef1657, q_setr (Or.inr (by decide))]; exact hr6
            have g1674 : tk_tr f1657 mo B tn := tk_tr_tr htr (by rw [ef1657, q_setz (Or.inr (by decide))]) (by rw [ef1657, q_setz (Or.inr (by decide))]) (by rw [ef1657, q_setz (Or.inr (by decide))]) (by rw [ef1657, q_setz (Or.inr (by decide))]) (by rw [ef1657, q_setj (Or.inr (by decide))])
            have g1675 : tk_ub f1657 bu B tn := tk_ub_tr hub (fun i9 => by rw [ef1657, q_setz (Or.inl (fun q => by rw [q, kmo] at kbu; exact absurd kbu (by decide)))])
            have g1676 : tk_nq f1657 nm nl9 := tk_nq_tr hrn (fun i9 => by rw [ef1657, q_setj (Or.inl (fun q => by rw [q, kmo] at knm; exact absurd knm (by decide)))])
            have g1677 : k_bl f f1657 c1 c2 60 := k_bl_tr hbx (fun i9 => by rw [ef1657, q_setz (Or.inl (fun q => by rw [q, kmo] at kc1; exact absurd kc1 (by decide)))]) (fun i9 => by rw [ef1657, q_setz (Or.inl (fun q => by rw [q, kmo] at kc2; exact absurd kc2 (by decide)))])
            have g1678 : k_b1 f f1657 cs x1634 := k_b1_tr hbs (fun i9 => by rw [ef1657, q_setz (Or.inl (fun q => by rw [q, kmo] at kcs; exact absurd kcs (by decide)))])
            refine q_ald_n cx dX12_command_66 rfl (lv_at hl 1 rfl) ?_
            refine q_cVv (As := []) (rest := []) cx hB (fun _ h => h) hN hmo kmo (by decide) rfl (f_mon l g hN hB.2.1 B mo hmo kmo bu hbu kbu tn (by omega) (by omega) ss (by omega) (by omega) z1659 z1660 z1669 g1674 g1675) q_cX12_140 q_dX12_goOn (by decide) rfl rfl hl.1 rfl (Nat.le_of_ble_eq_true rfl) dX12_command_67 (fun H locs f1679 h1681 hF hB => ?_)
            obtain ⟨t1682, g1683⟩ := h1681
            have z1684 : q_is (q_z f1679 mo 3) tn := Eq.trans (hF.z hmo (by rw [kmo]; rfl)) z1659
            have z1685 : q_is (q_z f1679 mo 8) 0 := Eq.trans (hF.z hmo (by rw [kmo]; rfl)) z1661
            have z1686 : q_is (q_z f1679 mo 9) (-1) := Eq.trans (hF.z hmo (by rw [kmo]; rfl)) z1662
            have z1687 : q_is (q_z f1679 sr 0) xc := Eq.trans (hF.z hsr (by rw [ksr]; rfl)) z1663
            have z1688 : q_is (q_z f1679 mo 37) xo := Eq.trans (hF.z hmo (by rw [kmo]; rfl)) z1664
            have z1689 : q_is (q_z f1679 mo 35) x1634 := Eq.trans (hF.z hmo (by rw [kmo]; rfl)) z1665
            have z1690 : q_is (q_z f1679 mo 36) (xw + 1) := Eq.trans (hF.z hmo (by rw [kmo]; rfl)) z1658
            have z1691 : q_ir (q_r f1679 mo 13) sr := Eq.trans (hF.r hmo (by rw [kmo]; rfl)) z1667
            have z1692 : q_ir (q_r f1679 mo 18) nm := Eq.trans (hF.r hmo (by rw [kmo]; rfl)) z1668
            have z1693 : q_ir (q_r f1679 mo 1) bu := Eq.trans (hF.r hmo (by rw [kmo]; rfl)) z1669
            have z1694 : q_ir (q_r f1679 mo 29) cs := Eq.trans (hF.r hmo (by rw [kmo]; rfl)) z1670
            have z1695 : q_ir (q_r f1679 mo 30) c1 := Eq.trans (hF.r hmo (by rw [kmo]; rfl)) z1671
            have z1696 : q_ir (q_r f1679 mo 31) c2 := Eq.trans (hF.r hmo (by rw [kmo]; rfl)) z1672
            have z1697 : q_ir (q_r f1679 mo 32) c3 := Eq.trans (hF.r hmo (by rw [kmo]; rfl)) z1673
            have g1698 : tk_ub f1679 bu B tn := tk_ub_tr g1675 (fun i9 => hF.z hbu (by rw [kbu]; rfl))
            have g1699 : tk_nq f1679 nm nl9 := tk_nq_tr g1676 (fun i9 => hF.j hnm (by rw [knm]; rfl))
            have g1700 : k_bl f f1679 c1 c2 60 := k_bl_tr g1677 (fun i9 => hF.z hc1 (by rw [kc1]; rfl)) (fun i9 => hF.z hc2 (by rw [kc2]; rfl))
            have g1701 : k_b1 f f1679 cs x1634 := k_b1_tr g1678 (fun i9 => hF.z hcs (by rw [kcs]; rfl))
            obtain ⟨x1702, ex1702⟩ : ∃ zz, q_is (q_z f1679 mo 5) zz := ⟨_, q_isr _⟩
            obtain ⟨lx1702, ux1702⟩ := q_isb ex1702 (q_fib hB.2.1 hmo kmo (by decide) rfl)
            obtain ⟨-, l0x1702, u0x1702, -, -⟩ := tk_tr_n g1683 ex1702
            refine q_ald_n cx dX12_command_70 rfl (lv_at hl 1 rfl) ?_
            refine q_gX12_494 cx hB hmo kmo z1689 dX12_command_71 (fun lb1703 ub1703 => ?_)
            refine lv_istore_n (lv' := [(2, .int (q_i x1634)), (1, .int (q_i 0)), (0, .ref mo)]) cx.1 cx.2.1 dX12_command_74 rfl hl (by decide) rfl (fun ls hl => ?_)
            refine q_ald_n cx dX12_command_75 rfl (lv_at hl 2 rfl) ?_
            refine q_gX12_51 cx hB hmo kmo z1694 dX12_command_76 (fun hb1704 kb1704 => ?_)
            refine q_ild_n cx dX12_command_79 rfl (lv_at hl 0 rfl) ?_
            refine q_ild_n cx dX12_command_80 rfl (lv_at hl 1 rfl) ?_
            refine q_iast (lo := 0) (hi := 7) (n := 60) cx hB hcs kcs (by decide) rfl rfl (by omega) (by omega) (by decide) rfl ⟨by decide, by decide⟩ (by decide) (by decide) (q_inWi (lo := 0) (hi := 58) (by decide) (by omega) (by omega)) dX12_command_81 (fun H locs f1705 ef1705 z1706 hB => ?_)
            have z1707 : q_is (q_z f1705 mo 3) tn := by rw [ef1705, q_setz (Or.inl (fun q => by rw [q, kcs] at kmo; exact absurd kmo (by decide)))]; exact z1684
            have z1708 : q_is (q_z f1705 mo 8) 0 := by rw [ef1705, q_setz (Or.inl (fun q => by rw [q, kcs] at kmo; exact absurd kmo (by decide)))]; exact z1685
            have z1709 : q_is (q_z f1705 mo 9) (-1) := by rw [ef1705, q_setz (Or.inl (fun q => by rw [q, kcs] at kmo; exact absurd kmo (by decide)))]; exact z1686
            have z1710 : q_is (q_z f1705 sr 0) xc := by rw [ef1705, q_setz (Or.inl (fun q => by rw [q, kcs] at ksr; exact absurd ksr (by decide)))]; exact z1687
            have z1711 : q_is (q_z f1705 mo 37) xo := by rw [ef1705, q_setz (Or.inl (fun q => by rw [q, kcs] at kmo; exact absurd kmo (by decide)))]; exact z1688
            have z1712 : q_is (q_z f1705 mo 35) x1634 := by rw [ef1705, q_setz (Or.inl (fun q => by rw [q, kcs] at kmo; exact absurd kmo (by decide)))]; exact z1689
            have z1713 : q_is (q_z f1705 mo 36) (xw + 1) := by rw [ef1705, q_setz (Or.inl (fun q => by rw [q, kcs] at kmo; exact absurd kmo (by decide)))]; exact z1690
            have z1714 : q_is (q_z f1705 mo 5) x1702 := by rw [ef1705, q_setz (Or.inl (fun q => by rw [q, kcs] at kmo; exact absurd kmo (by decide)))]; exact ex1702
            have z1715 : q_ir (q_r f1705 mo 13) sr := by rw [ef1705, q_setr (Or.inl (fun q => by rw [q, kcs] at kmo; exact absurd kmo (by decide)))]; exact z1691
            have z1716 : q_ir (q_r f1705 mo 18) nm := by rw [ef1705, q_setr (Or.inl (fun q => by rw [q, kcs] at kmo; exact absurd kmo (by decide)))]; exact z1692
            have z1717 : q_ir (q_r f1705 mo 1) bu := by rw [ef1705, q_setr (Or.inl (fun q => by rw [q, kcs] at kmo; exact absurd kmo (by decide)))]; exact z1693
            have z1718 : q_ir (q_r f1705 mo 29) cs := by rw [ef1705, q_setr (Or.inl (fun q => by rw [q, kcs] at kmo; exact absurd kmo (by decide)))]; exact z1694
            have z1719 : q_ir (q_r f1705 mo 30) c1 := by rw [ef1705, q_setr (Or.inl (fun q => by rw [q, kcs] at kmo; exact absurd kmo (by decide)))]; exact z1695
            have z1720 : q_ir (q_r f1705 mo 31) c2 := by rw [ef1705, q_setr (Or.inl (fun q => by rw [q, kcs] at kmo; exact absurd kmo (by decide)))]; exact z1696
            have z1721 : q_ir (q_r f1705 mo 32) c3 := by rw [ef1705, q_setr (Or.inl (fun q => by rw [q, kcs] at kmo; exact absurd kmo (by decide)))]; exact z1697
            have g1722 : tk_ub f1705 bu B tn := tk_ub_tr g1698 (fun i9 => by rw [ef1705, q_setz (Or.inl (fun q => by rw [q, kcs] at kbu; exact absurd kbu (by decide)))])
            have g1723 : tk_nq f1705 nm nl9 := tk_nq_tr g1699 (fun i9 => by rw [ef1705, q_setj (Or.inl (fun q => by rw [q, kcs] at knm; exact absurd knm (by decide)))])
            have g1724 : k_bl f f1705 c1 c2 60 := k_bl_tr g1700 (fun i9 => by rw [ef1705, q_setz (Or.inl (fun q => by rw [q, kcs] at kc1; exact absurd kc1 (by decide)))]) (fun i9 => by rw [ef1705, q_setz (Or.inl (fun q => by rw [q, kcs] at kc2; exact absurd kc2 (by decide)))])
            have g1725 : k_b1 f f1705 cs x1634 := k_b1_s g1701 ef1705 (by omega)
            have g1726 : tk_tr f1705 mo B tn := tk_tr_tr g1683 (by rw [ef1705, q_setz (Or.inl (fun q => by rw [q, kcs] at kmo; exact absurd kmo (by decide)))]) (by rw [ef1705, q_setz (Or.inl (fun q => by rw [q, kcs] at kmo; exact absurd kmo (by decide)))]) (by rw [ef1705, q_setz (Or.inl (fun q => by rw [q, kcs] at kmo; exact absurd kmo (by decide)))]) (by rw [ef1705, q_setz (Or.inl (fun q => by rw [q, kcs] at kmo; exact absurd kmo (by decide)))]) (by rw [ef1705, q_setj (Or.inl (fun q => by rw [q, kcs] at kmo; exact absurd kmo (by decide)))])
            refine q_ald_n cx dX12_command_82 rfl (lv_at hl 2 rfl) ?_
            refine q_ild_n cx dX12_command_83 rfl (lv_at hl 0 rfl) ?_
            refine q_ild_n cx dX12_command_84 rfl (lv_at hl 1 rfl) ?_
            refine q_cVv (As := [.int (q_i x1634), .int (q_i 0)]) (rest := []) cx hB (fun _ h => h) hN hmo kmo (by decide) rfl (f_mreadsNumbers0 l g hN hB.2.1 B nl9 mo hmo kmo x1634 (by omega) (by omega) 0 (by decide) (by decide) sr hsr ksr nm hnm knm bu hbu kbu c1 hc1 kc1 c2 hc2 kc2 c3 hc3 kc3 tn (by omega) (by omega) x1702 (by omega) (by omega) xc (by omega) (by omega) z1707 z1714 z1708 z1709 z1710 z1715 z1716 z1717 z1719 z1720 z1721 hp0 g1726 g1722 g1723) q_cX12_497 q_dX12_readsNumbers (by decide) rfl rfl hl.1 rfl (Nat.le_of_ble_eq_true rfl) dX12_command_85 (fun H locs f1727 h1729 hF hB => ?_)
            rcases h1729 with h1730 | h1731
            · obtain ⟨z1732, z1733, t1734, t1735, t1736, g1737⟩ := h1730
              have z1738 : q_is (q_z f1727 mo 3) tn := Eq.trans (hF.z hmo (by rw [kmo]; rfl)) z1707
              have z1739 : q_is (q_z f1727 sr 0) xc := Eq.trans (hF.z hsr (by rw [ksr]; rfl)) z1710
              have z1740 : q_is (q_z f1727 mo 37) xo := Eq.trans (hF.z hmo (by rw [kmo]; rfl)) z1711
              have z1741 : q_is (q_z f1727 mo 35) x1634 := Eq.trans (hF.z hmo (by rw [kmo]; rfl)) z1712
              have z1742 : q_is (q_z f1727 mo 36) (xw + 1) := Eq.trans (hF.z hmo (by rw [kmo]; rfl)) z1713
              have z1743 : q_is (q_z f1727 cs (Int.toNat x1634)) 0 := Eq.trans (hF.z hcs (by rw [kcs]; rfl)) z1706
              have z1744 : q_ir (q_r f1727 mo 13) sr := Eq.trans (hF.r hmo (by rw [kmo]; rfl)) z1715
              have z1745 : q_ir (q_r f1727 mo 18) nm := Eq.trans (hF.r hmo (by rw [kmo]; rfl)) z1716
              have z1746 : q_ir (q_r f1727 mo 1) bu := Eq.trans (hF.r hmo (by rw [kmo]; rfl)) z1717
              have z1747 : q_ir (q_r f1727 mo 29) cs := Eq.trans (hF.r hmo (by rw [kmo]; rfl)) z1718
              have z1748 : q_ir (q_r f1727 mo 30) c1 := Eq.trans (hF.r hmo (by rw [kmo]; rfl)) z1719
              have z1749 : q_ir (q_r f1727 mo 31) c2 := Eq.trans (hF.r hmo (by rw [kmo]; rfl)) z1720
              have z1750 : q_ir (q_r f1727 mo 32) c3 := Eq.trans (hF.r hmo (by rw [kmo]; rfl)) z1721
              have g1751 : tk_ub f1727 bu B tn := tk_ub_tr g1722 (fun i9 => hF.z hbu (by rw [kbu]; rfl))
              have g1752 : tk_nq f1727 nm nl9 := tk_nq_tr g1723 (fun i9 => hF.j hnm (by rw [knm]; rfl))
              have g1753 : k_b1 f f1727 cs x1634 := k_b1_tr g1725 (fun i9 => hF.z hcs (by rw [kcs]; rfl))
              obtain ⟨x1754, ex1754⟩ : ∃ zz, q_is (q_z f1727 mo 5) zz := ⟨_, q_isr _⟩
              obtain ⟨lx1754, ux1754⟩ := q_isb ex1754 (q_fib hB.2.1 hmo kmo (by decide) rfl)
              obtain ⟨-, l0x1754, u0x1754, -, -⟩ := tk_tr_n g1737 ex1754
              have hb9 : k_bl f f1727 c1 c2 x1634 := k_bl_cat g1724 t1736 (by omega)
              refine q_ald_n cx dX12_command_88 rfl (lv_at hl 2 rfl) ?_
              refine q_cVi (As := []) (rest := []) cx hB (fun _ h => h) hN hmo kmo (by decide) rfl (f_misGood l g hN hB.2.1 mo hmo kmo z1732) q_cX12_130 q_dX12_isGood (by decide) rfl rfl hl.1 rfl (Nat.le_of_ble_eq_true rfl) dX12_command_89 (fun y1756 H locs f1755 ry1756 h1757 hF hB => ?_)
              obtain ⟨rfl, qy1756⟩ := h1757
              subst qy1756
              refine q_ifne (tgt := 96) cx ⟨by decide, by decide⟩ dX12_command_92 (by decide) (fun c1758 => ?_) (fun c1758 => ?_)
              · refine q_ald_n cx dX12_command_96 rfl (lv_at hl 2 rfl) ?_
                refine lv_dup cx.1 cx.2.1 dX12_command_97 rfl ?_
                refine q_gX12_494 cx hB hmo kmo z1741 dX12_command_98 (fun lb1759 ub1759 => ?_)
                refine q_iconst cx dX12_command_101 ?_
                refine q_iadd cx dX12_command_102 ?_
                refine q_pX12_494 cx hB hmo kmo ⟨by omega, by omega⟩ (by omega) (by omega) rfl dX12_command_103 (fun H locs f1760 ef1760 z1761 hB => ?_)
                have z1762 : q_is (q_z f1760 mo 3) tn := by rw [ef1760, q_setz (Or.inr (by decide))]; exact z1738
                have z1763 : q_is (q_z f1760 sr 0) xc := by rw [ef1760, q_setz (Or.inr (by decide))]; exact z1739
                have z1764 : q_is (q_z f1760 mo 37) xo := by rw [ef1760, q_setz (Or.inr (by decide))]; exact z1740
                have z1765 : q_is (q_z f1760 mo 36) (xw + 1) := by rw [ef1760, q_setz (Or.inr (by decide))]; exact z1742
                have z1766 : q_is (q_z f1760 cs (Int.toNat x1634)) 0 := by rw [ef1760, q_setz (Or.inl (fun q => by rw [q, kmo] at kcs; exact absurd kcs (by decide)))]; exact z1743
                have z1767 : q_is (q_z f1760 mo 8) 0 := by rw [ef1760, q_setz (Or.inr (by decide))]; exact z1732
                have z1768 : q_is (q_z f1760 mo 9) (-1) := by rw [ef1760, q_setz (Or.inr (by decide))]; exact z1733
                have z1769 : q_is (q_z f1760 mo 5) x1754 := by rw [ef1760, q_setz (Or.inr (by decide))]; exact ex1754
                have z1770 : q_ir (q_r f1760 mo 13) sr := by rw [ef1760, q_setr (Or.inr (by decide))]; exact z1744
                have z1771 : q_ir (q_r f1760 mo 18) nm := by rw [ef1760, q_setr (Or.inr (by decide))]; exact z1745
                have z1772 : q_ir (q_r f1760 mo 1) bu := by rw [ef1760, q_setr (Or.inr (by decide))]; exact z1746
                have z1773 : q_ir (q_r f1760 mo 29) cs := by rw [ef1760, q_setr (Or.inr (by decide))]; exact z1747
                have z1774 : q_ir (q_r f1760 mo 30) c1 := by rw [ef1760, q_setr (Or.inr (by decide))]; exact z1748
                have z1775 : q_ir (q_r f1760 mo 31) c2 := by rw [ef1760, q_setr (Or.inr (by decide))]; exact z1749
                have z1776 : q_ir (q_r f1760 mo 32) c3 := by rw [ef1760, q_setr (Or.inr (by decide))]; exact z1750
                have g1777 : tk_ub f1760 bu B tn := tk_ub_tr g1751 (fun i9 => by rw [ef1760, q_setz (Or.inl (fun q => by rw [q, kmo] at kbu; exact absurd kbu (by decide)))])
                have g1778 : tk_nq f1760 nm nl9 := tk_nq_tr g1752 (fun i9 => by rw [ef1760, q_setj (Or.inl (fun q => by rw [q, kmo] at knm; exact absurd knm (by decide)))])
                have g1779 : k_b1 f f1760 cs x1634 := k_b1_tr g1753 (fun i9 => by rw [ef1760, q_setz (Or.inl (fun q => by rw [q, kmo] at kcs; exact absurd kcs (by decide)))])
                have g1780 : tk_tr f1760 mo B tn := tk_tr_tr g1737 (by rw [ef1760, q_setz (Or.inr (by decide))]) (by rw [ef1760, q_setz (Or.inr (by decide))]) (by rw [ef1760, q_setz (Or.inr (by decide))]) (by rw [ef1760, q_setz (Or.inr (by decide))]) (by rw [ef1760, q_setj (Or.inr (by decide))])
                have g1781 : k_cc 0 f1760 c1 c2 (Int.toNat x1634) := k_cc_tr t1735 (fun i9 => by rw [ef1760, q_setz (Or.inl (fun q => by rw [q, kmo] at kc1; exact absurd kc1 (by decide)))]) (fun i9 => by rw [ef1760, q_setz (Or.inl (fun q => by rw [q, kmo] at kc2; exact absurd kc2 (by decide)))])
                have g1782 : k_bl f f1760 c1 c2 x1634 := k_bl_tr hb9 (fun i9 => by rw [ef1760, q_setz (Or.inl (fun q => by rw [q, kmo] at kc1; exact absurd kc1 (by decide)))]) (fun i9 => by rw [ef1760, q_setz (Or.inl (fun q => by rw [q, kmo] at kc2; exact absurd kc2 (by decide)))])
                refine q_ald_n cx dX12_command_106 rfl (lv_at hl 2 rfl) ?_
                refine lv_dup cx.1 cx.2.1 dX12_command_107 rfl ?_
                refine q_gX12_488 cx hB hmo kmo z1764 dX12_command_108 (fun lb1783 ub1783 => ?_)
                refine q_ild_n cx dX12_command_111 rfl (lv_at hl 1 rfl) ?_
                refine q_bipush cx dX12_command_112 rfl ?_
                refine q_icne (tgt := 121) cx ⟨by decide, by decide⟩ ⟨by decide, by decide⟩ dX12_command_114 (by decide) (fun c1784 => ?_) (fun c1784 => ?_)
                · refine q_iconst cx dX12_command_121 ?_
                  refine q_cSi (As := [.int (q_i 0)]) (rest := [.int (q_i xo), .ref mo]) cx hB (fun _ h => h) hN (r_truth0 l g hN hB.2.1 0 (by decide) (by decide)) q_cX12_78 q_dX12_truth (by decide) rfl rfl hl.1 rfl (Nat.le_of_ble_eq_true rfl) dX12_command_122 (fun y1786 H locs f1785 ry1786 h1787 hF hB => ?_)
                  obtain ⟨rfl, qy1786⟩ := h1787
                  subst qy1786
                  refine q_iadd cx dX12_command_125 ?_
                  refine q_pX12_488 cx hB hmo kmo ⟨by omega, by omega⟩ (by omega) (by omega) rfl dX12_command_126 (fun H locs f1788 ef1788 z1789 hB => ?_)
                  have z1790 : q_is (q_z f1788 mo 3) tn := by rw [ef1788, q_setz (Or.inr (by decide))]; exact z1762
                  have z1791 : q_is (q_z f1788 sr 0) xc := by rw [ef1788, q_setz (Or.inr (by decide))]; exact z1763
                  have z1792 : q_is (q_z f1788 mo 36) (xw + 1) := by rw [ef1788, q_setz (Or.inr (by decide))]; exact z1765
                  have z1793 : q_is (q_z f1788 cs (Int.toNat x1634)) 0 := by rw [ef1788, q_setz (Or.inl (fun q => by rw [q, kmo] at kcs; exact absurd kcs (by decide)))]; exact z1766
                  have z1794 : q_is (q_z f1788 mo 8) 0 := by rw [ef1788, q_setz (Or.inr (by decide))]; exact z1767
                  have z1795 : q_is (q_z f1788 mo 9) (-1) := by rw [ef1788, q_setz (Or.inr (by decide))]; exact z1768
                  have z1796 : q_is (q_z f1788 mo 5) x1754 := by rw [ef1788, q_setz (Or.inr (by decide))]; exact z1769
                  have z1797 : q_is (q_z f1788 mo 35) (x1634 + 1) := by rw [ef1788, q_setz (Or.inr (by decide))]; exact z1761
                  have z1798 : q_ir (q_r f1788 mo 13) sr := by rw [ef1788, q_setr (Or.inr (by decide))]; exact z1770
                  have z1799 : q_ir (q_r f1788 mo 18) nm := by rw [ef1788, q_setr (Or.inr (by decide))]; exact z1771
                  have z1800 : q_ir (q_r f1788 mo 1) bu := by rw [ef1788, q_setr (Or.inr (by decide))]; exact z1772
                  have z1801 : q_ir (q_r f1788 mo 29) cs := by rw [ef1788, q_setr (Or.inr (by decide))]; exact z1773
                  have z1802 : q_ir (q_r f1788 mo 30) c1 := by rw [ef1788, q_setr (Or.inr (by decide))]; exact z1774
                  have z1803 : q_ir (q_r f1788 mo 31) c2 := by rw [ef1788, q_setr (Or.inr (by decide))]; exact z1775
                  have z1804 : q_ir (q_r f1788 mo 32) c3 := by rw [ef1788, q_setr (Or.inr (by decide))]; exact z1776
                  have g1805 : tk_ub f1788 bu B tn := tk_ub_tr g1777 (fun i9 => by rw [ef1788, q_setz (Or.inl (fun q => by rw [q, kmo] at kbu; exact absurd kbu (by decide)))])
                  have g1806 : tk_nq f1788 nm nl9 := tk_nq_tr g1778 (fun i9 => by rw [ef1788, q_setj (Or.inl (fun q => by rw [q, kmo] at knm; exact absurd knm (by decide)))])
                  have g1807 : k_b1 f f1788 cs x1634 := k_b1_tr g1779 (fun i9 => by rw [ef1788, q_setz (Or.inl (fun q => by rw [q, kmo] at kcs; exact absurd kcs (by decide)))])
                  have g1808 : tk_tr f1788 mo B tn := tk_tr_tr g1780 (by rw [ef1788, q_setz (Or.inr (by decide))]) (by rw [ef1788, q_setz (Or.inr (by decide))]) (by rw [ef1788, q_setz (Or.inr (by decide))]) (by rw [ef1788, q_setz (Or.inr (by decide))]) (by rw [ef1788, q_setj (Or.inr (by decide))])
                  have g1809 : k_cc 0 f1788 c1 c2 (Int.toNat x1634) := k_cc_tr g1781 (fun i9 => by rw [ef1788, q_setz (Or.inl (fun q => by rw [q, kmo] at kc1; exact absurd kc1 (by decide)))]) (fun i9 => by rw [ef1788, q_setz (Or.inl (fun q => by rw [q, kmo] at kc2; exact absurd kc2 (by decide)))])
                  have g1810 : k_bl f f1788 c1 c2 x1634 := k_bl_tr g1782 (fun i9 => by rw [ef1788, q_setz (Or.inl (fun q => by rw [q, kmo] at kc1; exact absurd kc1 (by decide)))]) (fun i9 => by rw [ef1788, q_setz (Or.inl (fun q => by rw [q, kmo] at kc2; exact absurd kc2 (by decide)))])
                  have hsp : k_stp 0 = 0 := rfl
                  have hsc9 : q_sc f1788 mo cs c1 c2 := k_sc_add (c := 0) hsc ex1634 hf5 hf6 z1797 z1792 (Eq.trans z1789 (by rw [hsp] <;> omega)) (by omega) z1793 g1809 g1807 g1810 (by rw [hsp] <;> omega) (by rw [hsp] <;> omega)
                  refine q_vret cx hr hlk hB dX12_command_129 ?_
                  exact (Or.inl ⟨z1794, z1795, (Eq.trans z1789 (by omega)), z1792, (tk_xok (tk_cm_go (d1 := xo) (c1 := xw + 1) t1647 (by decide) (by omega) (by omega) (Eq.trans (Eq.symm ex1702) t1682) (tk_okx t1734 ex1754) (tk_ifn (by decide)) rfl) z1796 (Eq.trans z1789 (by omega)) (Eq.trans z1792 (by omega))), (by omega), hsc9, g1808⟩)
                · exact absurd c1784 (by omega)
              · exact absurd c1758 (by omega)
            · obtain ⟨lz1811, uz1811, t1812, g1813⟩ := h1731
              have z1814 : q_is (q_z f1727 mo 3) tn := Eq.trans (hF.z hmo (by rw [kmo]; rfl)) z1707
              have z1815 : q_is (q_z f1727 sr 0) xc := Eq.trans (hF.z hsr (by rw [ksr]; rfl)) z1710
              have z1816 : q_is (q_z f1727 mo 37) xo := Eq.trans (hF.z hmo (by rw [kmo]; rfl)) z1711
              have z1817 : q_is (q_z f1727 mo 35) x1634 := Eq.trans (hF.z hmo (by rw [kmo]; rfl)) z1712
              have z1818 : q_is (q_z f1727 mo 36) (xw + 1) := Eq.trans (hF.z hmo (by rw [kmo]; rfl)) z1713
              have z1819 : q_is (q_z f1727 cs (Int.toNat x1634)) 0 := Eq.trans (hF.z hcs (by rw [kcs]; rfl)) z1706
              have z1820 : q_ir (q_r f1727 mo 13) sr := Eq.trans (hF.r hmo (by rw [kmo]; rfl)) z1715
              have z1821 : q_ir (q_r f1727 mo 18) nm := Eq.trans (hF.r hmo (by rw [kmo]; rfl)) z1716
              have z1822 : q_ir (q_r f1727 mo 1) bu := Eq.trans (hF.r hmo (by rw [kmo]; rfl)) z1717
              have z1823 : q_ir (q_r f1727 mo 29) cs := Eq.trans (hF.r hmo (by rw [kmo]; rfl)) z1718
              have z1824 : q_ir (q_r f1727 mo 30) c1 := Eq.trans (hF.r hmo (by rw [kmo]; rfl)) z1719
              have z1825 : q_ir (q_r f1727 mo 31) c2 := Eq.trans (hF.r hmo (by rw [kmo]; rfl)) z1720
              have z1826 : q_ir (q_r f1727 mo 32) c3 := Eq.trans (hF.r hmo (by rw [kmo]; rfl)) z1721
              have g1827 : tk_ub f1727 bu B tn := tk_ub_tr g1722 (fun i9 => hF.z hbu (by rw [kbu]; rfl))
              have g1828 : tk_nq f1727 nm nl9 := tk_nq_tr g1723 (fun i9 => hF.j hnm (by rw [knm]; rfl))
              have g1829 : k_b1 f f1727 cs x1634 := k_b1_tr g1725 (fun i9 => hF.z hcs (by rw [kcs]; rfl))
              obtain ⟨x1830, ex1830⟩ : ∃ zz, q_is (q_z f1727 mo 8) zz := ⟨_, q_isr _⟩
              obtain ⟨lx1830, ux1830⟩ := q_isb ex1830 ⟨lz1811, uz1811⟩
              obtain ⟨x1831, ex1831⟩ : ∃ zz, q_is (q_z f1727 mo 5) zz := ⟨_, q_isr _⟩
              obtain ⟨lx1831, ux1831⟩ := q_isb ex1831 (q_fib hB.2.1 hmo kmo (by decide) rfl)
              obtain ⟨x1832, ex1832⟩ : ∃ zz, q_is (q_z f1727 mo 9) zz := ⟨_, q_isr _⟩
              obtain ⟨lx1832, ux1832⟩ := q_isb ex1832 (q_fib hB.2.1 hmo kmo (by decide) rfl)
              obtain ⟨-, l0x1831, u0x1831, -, -⟩ := tk_tr_n g1813 ex1831
              refine q_ald_n cx dX12_command_88 rfl (lv_at hl 2 rfl) ?_
              refine q_cVi (As := []) (rest := []) cx hB (fun _ h => h) hN hmo kmo (by decide) rfl (r_isGood1 l g hN hB.2.1 mo hmo kmo x1830 (by omega) (by omega) ex1830) q_cX12_130 q_dX12_isGood (by decide) rfl rfl hl.1 rfl (Nat.le_of_ble_eq_true rfl) dX12_command_89 (fun y1834 H locs f1833 ry1834 h1835 hF hB => ?_)
              obtain ⟨rfl, qy1834⟩ := h1835
              subst qy1834
              refine q_ifne (tgt := 96) cx ⟨by decide, by decide⟩ dX12_command_92 (by decide) (fun c1836 => ?_) (fun c1836 => ?_)
              · exact absurd c1836 (by omega)
              · refine q_vret cx hr hlk hB dX12_command_95 ?_
                exact (Or.inr (Or.inr ⟨(q_isl ex1830 (by omega)), (q_isu ex1830 (by omega)), (tk_erp (tk_cm_er t1647 (by decide) (by omega) (by omega) (Eq.trans (Eq.symm ex1702) t1682) (tk_erx t1812 ex1830 ex1832)) ex1830 ex1832), g1813⟩))
          · exact absurd c1655 (by omega)
        · refine q_ald_n cx dX12_command_43 rfl (lv_at hl 1 rfl) ?_
          refine q_iconst cx dX12_command_44 ?_
          refine q_cVv (As := [.int (q_i 5)]) (rest := []) cx hB (fun _ h => h) hN hmo kmo (by decide) rfl (f_mwrongk l g hN hB.2.1 mo hmo kmo 5 (by decide) (by decide) ss (by omega) (by omega) 1 (by decide) (by decide) hf1 z1646 hf2 hf3) q_cX12_137 q_dX12_wrong (by decide) rfl rfl hl.1 rfl (Nat.le_of_ble_eq_true rfl) dX12_command_45 (fun H locs f1837 h1839 hF hB => ?_)
          obtain ⟨z1840, z1841⟩ := h1839
          have z1842 : q_is (q_z f1837 mo 3) tn := Eq.trans (hF.z hmo (by rw [kmo]; rfl)) hf0
          have z1843 : q_is (q_z f1837 mo 5) ss := Eq.trans (hF.z hmo (by rw [kmo]; rfl)) hf1
          have z1844 : q_is (q_z f1837 sr 0) xc := Eq.trans (hF.z hsr (by rw [ksr]; rfl)) hf4
          have z1845 : q_is (q_z f1837 mo 37) xo := Eq.trans (hF.z hmo (by rw [kmo]; rfl)) hf5
          have z1846 : q_is (q_z f1837 mo 36) xw := Eq.trans (hF.z hmo (by rw [kmo]; rfl)) hf6
          have z1847 : q_is (q_z f1837 mo 35) x1634 := Eq.trans (hF.z hmo (by rw [kmo]; rfl)) ex1634
          have z1848 : q_is (q_z f1837 mo 6) 1 := Eq.trans (hF.z hmo (by rw [kmo]; rfl)) z1646
          have z1849 : q_ir (q_r f1837 mo 13) sr := Eq.trans (hF.r hmo (by rw [kmo]; rfl)) hr0
          have z1850 : q_ir (q_r f1837 mo 18) nm := Eq.trans (hF.r hmo (by rw [kmo]; rfl)) hr1
          have z1851 : q_ir (q_r f1837 mo 1) bu := Eq.trans (hF.r hmo (by rw [kmo]; rfl)) hr2
          have z1852 : q_ir (q_r f1837 mo 29) cs := Eq.trans (hF.r hmo (by rw [kmo]; rfl)) hr3
          have z1853 : q_ir (q_r f1837 mo 30) c1 := Eq.trans (hF.r hmo (by rw [kmo]; rfl)) hr4
          have z1854 : q_ir (q_r f1837 mo 31) c2 := Eq.trans (hF.r hmo (by rw [kmo]; rfl)) hr5
          have z1855 : q_ir (q_r f1837 mo 32) c3 := Eq.trans (hF.r hmo (by rw [kmo]; rfl)) hr6
          have g1856 : tk_tr f1837 mo B tn := tk_tr_tr htr (hF.z hmo (by rw [kmo]; rfl)) (hF.z hmo (by rw [kmo]; rfl)) (hF.z hmo (by rw [kmo]; rfl)) (hF.z hmo (by rw [kmo]; rfl)) (hF.j hmo (by rw [kmo]; rfl))
          have g1857 : tk_ub f1837 bu B tn := tk_ub_tr hub (fun i9 => hF.z hbu (by rw [kbu]; rfl))
          have g1858 : tk_nq f1837 nm nl9 := tk_nq_tr hrn (fun i9 => hF.j hnm (by rw [knm]; rfl))
          have g1859 : q_sc f1837 mo cs c1 c2 := q_sc_tr hsc (hF.z hmo (by rw [kmo]; rfl)) (hF.z hmo (by rw [kmo]; rfl)) (hF.z hmo (by rw [kmo]; rfl)) (fun i9 => hF.z hcs (by rw [kcs]; rfl)) (fun i9 => hF.z hc1 (by rw [kc1]; rfl)) (fun i9 => hF.z hc2 (by rw [kc2]; rfl))
          have g1860 : k_bl f f1837 c1 c2 60 := k_bl_tr hbx (fun i9 => hF.z hc1 (by rw [kc1]; rfl)) (fun i9 => hF.z hc2 (by rw [kc2]; rfl))
          have g1861 : k_b1 f f1837 cs x1634 := k_b1_tr hbs (fun i9 => hF.z hcs (by rw [kcs]; rfl))
          refine q_ald_n cx dX12_command_48 rfl (lv_at hl 1 rfl) ?_
          refine q_cVi (As := []) (rest := []) cx hB (fun _ h => h) hN hmo kmo (by decide) rfl (r_isGood1 l g hN hB.2.1 mo hmo kmo 5 (by decide) (by decide) z1840) q_cX12_130 q_dX12_isGood (by decide) rfl rfl hl.1 rfl (Nat.le_of_ble_eq_true rfl) dX12_command_49 (fun y1863 H locs f1862 ry1863 h1864 hF hB => ?_)
          obtain ⟨rfl, qy1863⟩ := h1864
          subst qy1863
          refine q_ifne (tgt := 56) cx ⟨by decide, by decide⟩ dX12_command_52 (by decide) (fun c1865 => ?_) (fun c1865 => ?_)
          · exact absurd c1865 (by omega)
          · refine q_vret cx hr hlk hB dX12_command_55 ?_
            exact (Or.inr (Or.inr ⟨(q_isl z1840 (by omega)), (q_isu z1840 (by omega)), (tk_cm_e5 t1647 (by decide) (by omega) (by omega) z1840 z1841), g1856⟩))
      · exact absurd c1649 (by omega)
    · exact absurd c1648 (by omega)
  · obtain ⟨rfl, qy1636, z1866, t1867⟩ := h1639
    subst qy1636
    refine lv_istore_n (lv' := [(1, .int (q_i 1)), (0, .ref mo)]) cx.1 cx.2.1 dX12_command_4 rfl hl (by decide) rfl (fun ls hl => ?_)
    refine q_ild_n cx dX12_command_5 rfl (lv_at hl 0 rfl) ?_
    refine q_iconst cx dX12_command_6 ?_
    refine q_icne (tgt := 15) cx ⟨by decide, by decide⟩ ⟨by decide, by decide⟩ dX12_command_7 (by decide) (fun c1868 => ?_) (fun c1868 => ?_)
    · refine q_ild_n cx dX12_command_15 rfl (lv_at hl 0 rfl) ?_
      refine q_bipush cx dX12_command_16 rfl ?_
      refine q_icne (tgt := 34) cx ⟨by decide, by decide⟩ ⟨by decide, by decide⟩ dX12_command_18 (by decide) (fun c1869 => ?_) (fun c1869 => ?_)
      · refine q_ald_n cx dX12_command_34 rfl (lv_at hl 1 rfl) ?_
        refine q_gX12_491 cx hB hmo kmo hf6 dX12_command_35 (fun lb1870 ub1870 => ?_)
        refine q_bipush cx dX12_command_38 rfl ?_
        refine q_icne (tgt := 48) cx ⟨by omega, by omega⟩ ⟨by decide, by decide⟩ dX12_command_40 (by decide) (fun c1871 => ?_) (fun c1871 => ?_)
        · refine q_ald_n cx dX12_command_48 rfl (lv_at hl 1 rfl) ?_
          refine q_cVi (As := []) (rest := []) cx hB (fun _ h => h) hN hmo kmo (by decide) rfl (f_misGood l g hN hB.2.1 mo hmo kmo hf2) q_cX12_130 q_dX12_isGood (by decide) rfl rfl hl.1 rfl (Nat.le_of_ble_eq_true rfl) dX12_command_49 (fun y1873 H locs f1872 ry1873 h1874 hF hB => ?_)
          obtain ⟨rfl, qy1873⟩ := h1874
          subst qy1873
          refine q_ifne (tgt := 56) cx ⟨by decide, by decide⟩ dX12_command_52 (by decide) (fun c1875 => ?_) (fun c1875 => ?_)
          · refine q_ald_n cx dX12_command_56 rfl (lv_at hl 1 rfl) ?_
            refine lv_dup cx.1 cx.2.1 dX12_command_57 rfl ?_
            refine q_gX12_491 cx hB hmo kmo hf6 dX12_command_58 (fun lb1876 ub1876 => ?_)
            refine q_iconst cx dX12_command_61 ?_
            refine q_iadd cx dX12_command_62 ?_
            refine q_pX12_491 cx hB hmo kmo ⟨by omega, by omega⟩ (by omega) (by omega) rfl dX12_command_63 (fun H locs f1877 ef1877 z1878 hB => ?_)
            have z1879 : q_is (q_z f1877 mo 3) tn := by rw [ef1877, q_setz (Or.inr (by decide))]; exact hf0
            have z1880 : q_is (q_z f1877 mo 5) ss := by rw [ef1877, q_setz (Or.inr (by decide))]; exact hf1
            have z1881 : q_is (q_z f1877 mo 8) 0 := by rw [ef1877, q_setz (Or.inr (by decide))]; exact hf2
            have z1882 : q_is (q_z f1877 mo 9) (-1) := by rw [ef1877, q_setz (Or.inr (by decide))]; exact hf3
            have z1883 : q_is (q_z f1877 sr 0) xc := by rw [ef1877, q_setz (Or.inr (by decide))]; exact hf4
            have z1884 : q_is (q_z f1877 mo 37) xo := by rw [ef1877, q_setz (Or.inr (by decide))]; exact hf5
            have z1885 : q_is (q_z f1877 mo 35) x1634 := by rw [ef1877, q_setz (Or.inr (by decide))]; exact ex1634
            have z1886 : q_is (q_z f1877 mo 6) 1 := by rw [ef1877, q_setz (Or.inr (by decide))]; exact z1866
            have z1887 : q_ir (q_r f1877 mo 13) sr := by rw [ef1877, q_setr (Or.inr (by decide))]; exact hr0
            have z1888 : q_ir (q_r f1877 mo 18) nm := by rw [ef1877, q_setr (Or.inr (by decide))]; exact hr1
            have z1889 : q_ir (q_r f1877 mo 1) bu := by rw [ef1877, q_setr (Or.inr (by decide))]; exact hr2
            have z1890 : q_ir (q_r f1877 mo 29) cs := by rw [ef1877, q_setr (Or.inr (by decide))]; exact hr3
            have z1891 : q_ir (q_r f1877 mo 30) c1 := by rw [ef1877, q_setr (Or.inr (by decide))]; exact hr4
            have z1892 : q_ir (q_r f1877 mo 31) c2 := by rw [ef1877, q_setr (Or.inr (by decide))]; exact hr5
            have z1893 : q_ir (q_r f1877 mo 32) c3 := by rw [ef1877, q_setr (Or.inr (by decide))]; exact hr6
            have g1894 : tk_tr f1877 mo B tn := tk_tr_tr htr (by rw [ef1877, q_setz (Or.inr (by decide))]) (by rw [ef1877, q_setz (Or.inr (by decide))]) (by rw [ef1877, q_setz (Or.inr (by decide))]) (by rw [ef1877, q_setz (Or.inr (by decide))]) (by rw [ef1877, q_setj (Or.inr (by decide))])
            have g1895 : tk_ub f1877 bu B tn := tk_ub_tr hub (fun i9 => by rw [ef1877, q_setz (Or.inl (fun q => by rw [q, kmo] at kbu; exact absurd kbu (by decide)))])
            have g1896 : tk_nq f1877 nm nl9 := tk_nq_tr hrn (fun i9 => by rw [ef1877, q_setj (Or.inl (fun q => by rw [q, kmo] at knm; exact absurd knm (by decide)))])
            have g1897 : k_bl f f1877 c1 c2 60 := k_bl_tr hbx (fun i9 => by rw [ef1877, q_setz (Or.inl (fun q => by rw [q, kmo] at kc1; exact absurd kc1 (by decide)))]) (fun i9 => by rw [ef1877, q_setz (Or.inl (fun q => by rw [q, kmo] at kc2; exact absurd kc2 (by decide)))])
            have g1898 : k_b1 f f1877 cs x1634 := k_b1_tr hbs (fun i9 => by rw [ef1877, q_setz (Or.inl (fun q => by rw [q, kmo] at kcs; exact absurd kcs (by decide)))])
            refine q_ald_n cx dX12_command_66 rfl (lv_at hl 1 rfl) ?_
            refine q_cVv (As := []) (rest := []) cx hB (fun _ h => h) hN hmo kmo (by decide) rfl (f_mon l g hN hB.2.1 B mo hmo kmo bu hbu kbu tn (by omega) (by omega) ss (by omega) (by omega) z1879 z1880 z1889 g1894 g1895) q_cX12_140 q_dX12_goOn (by decide) rfl rfl hl.1 rfl (Nat.le_of_ble_eq_true rfl) dX12_command_67 (fun H locs f1899 h1901 hF hB => ?_)
            obtain ⟨t1902, g1903⟩ := h1901
            have z1904 : q_is (q_z f1899 mo 3) tn := Eq.trans (hF.z hmo (by rw [kmo]; rfl)) z1879
            have z1905 : q_is (q_z f1899 mo 8) 0 := Eq.trans (hF.z hmo (by rw [kmo]; rfl)) z1881
            have z1906 : q_is (q_z f1899 mo 9) (-1) := Eq.trans (hF.z hmo (by rw [kmo]; rfl)) z1882
            have z1907 : q_is (q_z f1899 sr 0) xc := Eq.trans (hF.z hsr (by rw [ksr]; rfl)) z1883
            have z1908 : q_is (q_z f1899 mo 37) xo := Eq.trans (hF.z hmo (by rw [kmo]; rfl)) z1884
            have z1909 : q_is (q_z f1899 mo 35) x1634 := Eq.trans (hF.z hmo (by rw [kmo]; rfl)) z1885
            have z1910 : q_is (q_z f1899 mo 36) (xw + 1) := Eq.trans (hF.z hmo (by rw [kmo]; rfl)) z1878
            have z1911 : q_ir (q_r f1899 mo 13) sr := Eq.trans (hF.r hmo (by rw [kmo]; rfl)) z1887
            have z1912 : q_ir (q_r f1899 mo 18) nm := Eq.trans (hF.r hmo (by rw [kmo]; rfl)) z1888
            have z1913 : q_ir (q_r f1899 mo 1) bu := Eq.trans (hF.r hmo (by rw [kmo]; rfl)) z1889
            have z1914 : q_ir (q_r f1899 mo 29) cs := Eq.trans (hF.r hmo (by rw [kmo]; rfl)) z1890
            have z1915 : q_ir (q_r f1899 mo 30) c1 := Eq.trans (hF.r hmo (by rw [kmo]; rfl)) z1891
            have z1916 : q_ir (q_r f1899 mo 31) c2 := Eq.trans (hF.r hmo (by rw [kmo]; rfl)) z1892
            have z1917 : q_ir (q_r f1899 mo 32) c3 := Eq.trans (hF.r hmo (by rw [kmo]; rfl)) z1893
            have g1918 : tk_ub f1899 bu B tn := tk_ub_tr g1895 (fun i9 => hF.z hbu (by rw [kbu]; rfl))
            have g1919 : tk_nq f1899 nm nl9 := tk_nq_tr g1896 (fun i9 => hF.j hnm (by rw [knm]; rfl))
            have g1920 : k_bl f f1899 c1 c2 60 := k_bl_tr g1897 (fun i9 => hF.z hc1 (by rw [kc1]; rfl)) (fun i9 => hF.z hc2 (by rw [kc2]; rfl))
            have g1921 : k_b1 f f1899 cs x1634 := k_b1_tr g1898 (fun i9 => hF.z hcs (by rw [kcs]; rfl))
            obtain ⟨x1922, ex1922⟩ : ∃ zz, q_is (q_z f1899 mo 5) zz := ⟨_, q_isr _⟩
            obtain ⟨lx1922, ux1922⟩ := q_isb ex1922 (q_fib hB.2.1 hmo kmo (by decide) rfl)
            obtain ⟨-, l0x1922, u0x1922, -, -⟩ := tk_tr_n g1903 ex1922
            refine q_ald_n cx dX12_command_70 rfl (lv_at hl 1 rfl) ?_
            refine q_gX12_494 cx hB hmo kmo z1909 dX12_command_71 (fun lb1923 ub1923 => ?_)
            refine lv_istore_n (lv' := [(2, .int (q_i x1634)), (1, .int (q_i 1)), (0, .ref mo)]) cx.1 cx.2.1 dX12_command_74 rfl hl (by decide) rfl (fun ls hl => ?_)
            refine q_ald_n cx dX12_command_75 rfl (lv_at hl 2 rfl) ?_
            refine q_gX12_51 cx hB hmo kmo z1914 dX12_command_76 (fun hb1924 kb1924 => ?_)
            refine q_ild_n cx dX12_command_79 rfl (lv_at hl 0 rfl) ?_
            refine q_ild_n cx dX12_command_80 rfl (lv_at hl 1 rfl) ?_
            refine q_iast (lo := 0) (hi := 7) (n := 60) cx hB hcs kcs (by decide) rfl rfl (by omega) (by omega) (by decide) rfl ⟨by decide, by decide⟩ (by decide) (by decide) (q_inWi (lo := 0) (hi := 58) (by decide) (by omega) (by omega)) dX12_command_81 (fun H locs f1925 ef1925 z1926 hB => ?_)
            have z1927 : q_is (q_z f1925 mo 3) tn := by rw [ef1925, q_setz (Or.inl (fun q => by rw [q, kcs] at kmo; exact absurd kmo (by decide)))]; exact z1904
            have z1928 : q_is (q_z f1925 mo 8) 0 := by rw [ef1925, q_setz (Or.inl (fun q => by rw [q, kcs] at kmo; exact absurd kmo (by decide)))]; exact z1905
            have z1929 : q_is (q_z f1925 mo 9) (-1) := by rw [ef1925, q_setz (Or.inl (fun q => by rw [q, kcs] at kmo; exact absurd kmo (by decide)))]; exact z1906
            have z1930 : q_is (q_z f1925 sr 0) xc := by rw [ef1925, q_setz (Or.inl (fun q => by rw [q, kcs] at ksr; exact absurd ksr (by decide)))]; exact z1907
            have z1931 : q_is (q_z f1925 mo 37) xo := by rw [ef1925, q_setz (Or.inl (fun q => by rw [q, kcs] at kmo; exact absurd kmo (by decide)))]; exact z1908
            have z1932 : q_is (q_z f1925 mo 35) x1634 := by rw [ef1925, q_setz (Or.inl (fun q => by rw [q, kcs] at kmo; exact absurd kmo (by decide)))]; exact z1909
            have z1933 : q_is (q_z f1925 mo 36) (xw + 1) := by rw [ef1925, q_setz (Or.inl (fun q => by rw [q, kcs] at kmo; exact absurd kmo (by decide)))]; exact z1910
            have z1934 : q_is (q_z f1925 mo 5) x1922 := by rw [ef1925, q_setz (Or.inl (fun q => by rw [q, kcs] at kmo; exact absurd kmo (by decide)))]; exact ex1922
            have z1935 : q_ir (q_r f1925 mo 13) sr := by rw [ef1925, q_setr (Or.inl (fun q => by rw [q, kcs] at kmo; exact absurd kmo (by decide)))]; exact z1911
            have z1936 : q_ir (q_r f1925 mo 18) nm := by rw [ef1925, q_setr (Or.inl (fun q => by rw [q, kcs] at kmo; exact absurd kmo (by decide)))]; exact z1912
            have z1937 : q_ir (q_r f1925 mo 1) bu := by rw [ef1925, q_setr (Or.inl (fun q => by rw [q, kcs] at kmo; exact absurd kmo (by decide)))]; exact z1913
            have z1938 : q_ir (q_r f1925 mo 29) cs := by rw [ef1925, q_setr (Or.inl (fun q => by rw [q, kcs] at kmo; exact absurd kmo (by decide)))]; exact z1914
            have z1939 : q_ir (q_r f1925 mo 30) c1 := by rw [ef1925, q_setr (Or.inl (fun q => by rw [q, kcs] at kmo; exact absurd kmo (by decide)))]; exact z1915
            have z1940 : q_ir (q_r f1925 mo 31) c2 := by rw [ef1925, q_setr (Or.inl (fun q => by rw [q, kcs] at kmo; exact absurd kmo (by decide)))]; exact z1916
            have z1941 : q_ir (q_r f1925 mo 32) c3 := by rw [ef1925, q_setr (Or.inl (fun q => by rw [q, kcs] at kmo; exact absurd kmo (by decide)))]; exact z1917
            have g1942 : tk_ub f1925 bu B tn := tk_ub_tr g1918 (fun i9 => by rw [ef1925, q_setz (Or.inl (fun q => by rw [q, kcs] at kbu; exact absurd kbu (by decide)))])
            have g1943 : tk_nq f1925 nm nl9 := tk_nq_tr g1919 (fun i9 => by rw [ef1925, q_setj (Or.inl (fun q => by rw [q, kcs] at knm; exact absurd knm (by decide)))])
            have g1944 : k_bl f f1925 c1 c2 60 := k_bl_tr g1920 (fun i9 => by rw [ef1925, q_setz (Or.inl (fun q => by rw [q, kcs] at kc1; exact absurd kc1 (by decide)))]) (fun i9 => by rw [ef1925, q_setz (Or.inl (fun q => by rw [q, kcs] at kc2; exact absurd kc2 (by decide)))])
            have g1945 : k_b1 f f1925 cs x1634 := k_b1_s g1921 ef1925 (by omega)
            have g1946 : tk_tr f1925 mo B tn := tk_tr_tr g1903 (by rw [ef1925, q_setz (Or.inl (fun q => by rw [q, kcs] at kmo; exact absurd kmo (by decide)))]) (by rw [ef1925, q_setz (Or.inl (fun q => by rw [q, kcs] at kmo; exact absurd kmo (by decide)))]) (by rw [ef1925, q_setz (Or.inl (fun q => by rw [q, kcs] at kmo; exact absurd kmo (by decide)))]) (by rw [ef1925, q_setz (Or.inl (fun q => by rw [q, kcs] at kmo; exact absurd kmo (by decide)))]) (by rw [ef1925, q_setj (Or.inl (fun q => by rw [q, kcs] at kmo; exact absurd kmo (by decide)))])
            refine q_ald_n cx dX12_command_82 rfl (lv_at hl 2 rfl) ?_
            refine q_ild_n cx dX12_command_83 rfl (lv_at hl 0 rfl) ?_
            refine q_ild_n cx dX12_command_84 rfl (lv_at hl 1 rfl) ?_
            refine q_cVv (As := [.int (q_i x1634), .int (q_i 1)]) (rest := []) cx hB (fun _ h => h) hN hmo kmo (by decide) rfl (f_mreadsNumbers1 l g hN hB.2.1 B nl9 mo hmo kmo x1634 (by omega) (by omega) 1 (by decide) (by decide) sr hsr ksr nm hnm knm bu hbu kbu c1 hc1 kc1 c2 hc2 kc2 c3 hc3 kc3 tn (by omega) (by omega) x1922 (by omega) (by omega) xc (by omega) (by omega) z1927 z1934 z1928 z1929 z1930 z1935 z1936 z1937 z1939 z1940 z1941 hp0 g1946 g1942 g1943) q_cX12_497 q_dX12_readsNumbers (by decide) rfl rfl hl.1 rfl (Nat.le_of_ble_eq_true rfl) dX12_command_85 (fun H locs f1947 h1949 hF hB => ?_)
            rcases h1949 with h1950 | h1951
            · obtain ⟨z1952, z1953, t1954, t1955, t1956, g1957⟩ := h1950
              have z1958 : q_is (q_z f1947 mo 3) tn := Eq.trans (hF.z hmo (by rw [kmo]; rfl)) z1927
              have z1959 : q_is (q_z f1947 sr 0) xc := Eq.trans (hF.z hsr (by rw [ksr]; rfl)) z1930
              have z1960 : q_is (q_z f1947 mo 37) xo := Eq.trans (hF.z hmo (by rw [kmo]; rfl)) z1931
              have z1961 : q_is (q_z f1947 mo 35) x1634 := Eq.trans (hF.z hmo (by rw [kmo]; rfl)) z1932
              have z1962 : q_is (q_z f1947 mo 36) (xw + 1) := Eq.trans (hF.z hmo (by rw [kmo]; rfl)) z1933
              have z1963 : q_is (q_z f1947 cs (Int.toNat x1634)) 1 := Eq.trans (hF.z hcs (by rw [kcs]; rfl)) z1926
              have z1964 : q_ir (q_r f1947 mo 13) sr := Eq.trans (hF.r hmo (by rw [kmo]; rfl)) z1935
              have z1965 : q_ir (q_r f1947 mo 18) nm := Eq.trans (hF.r hmo (by rw [kmo]; rfl)) z1936
              have z1966 : q_ir (q_r f1947 mo 1) bu := Eq.trans (hF.r hmo (by rw [kmo]; rfl)) z1937
              have z1967 : q_ir (q_r f1947 mo 29) cs := Eq.trans (hF.r hmo (by rw [kmo]; rfl)) z1938
              have z1968 : q_ir (q_r f1947 mo 30) c1 := Eq.trans (hF.r hmo (by rw [kmo]; rfl)) z1939
              have z1969 : q_ir (q_r f1947 mo 31) c2 := Eq.trans (hF.r hmo (by rw [kmo]; rfl)) z1940
              have z1970 : q_ir (q_r f1947 mo 32) c3 := Eq.trans (hF.r hmo (by rw [kmo]; rfl)) z1941
              have g1971 : tk_ub f1947 bu B tn := tk_ub_tr g1942 (fun i9 => hF.z hbu (by rw [kbu]; rfl))
              have g1972 : tk_nq f1947 nm nl9 := tk_nq_tr g1943 (fun i9 => hF.j hnm (by rw [knm]; rfl))
              have g1973 : k_b1 f f1947 cs x1634 := k_b1_tr g1945 (fun i9 => hF.z hcs (by rw [kcs]; rfl))
              obtain ⟨x1974, ex1974⟩ : ∃ zz, q_is (q_z f1947 mo 5) zz := ⟨_, q_isr _⟩
              obtain ⟨lx1974, ux1974⟩ := q_isb ex1974 (q_fib hB.2.1 hmo kmo (by decide) rfl)
              obtain ⟨-, l0x1974, u0x1974, -, -⟩ := tk_tr_n g1957 ex1974
              have hb9 : k_bl f f1947 c1 c2 x1634 := k_bl_cat g1944 t1956 (by omega)
              refine q_ald_n cx dX12_command_88 rfl (lv_at hl 2 rfl) ?_
              refine q_cVi (As := []) (rest := []) cx hB (fun _ h => h) hN hmo kmo (by decide) rfl (f_misGood l g hN hB.2.1 mo hmo kmo z1952) q_cX12_130 q_dX12_isGood (by decide) rfl rfl hl.1 rfl (Nat.le_of_ble_eq_true rfl) dX12_command_89 (fun y1976 H locs f1975 ry1976 h1977 hF hB => ?_)
              obtain ⟨rfl, qy1976⟩ := h1977
              subst qy1976
              refine q_ifne (tgt := 96) cx ⟨by decide, by decide⟩ dX12_command_92 (by decide) (fun c1978 => ?_) (fun c1978 => ?_)
              · refine q_ald_n cx dX12_command_96 rfl (lv_at hl 2 rfl) ?_
                refine lv_dup cx.1 cx.2.1 dX12_command_97 rfl ?_
                refine q_gX12_494 cx hB hmo kmo z1961 dX12_command_98 (fun lb1979 ub1979 => ?_)
                refine q_iconst cx dX12_command_101 ?_
                refine q_iadd cx dX12_command_102 ?_
                refine q_pX12_494 cx hB hmo kmo ⟨by omega, by omega⟩ (by omega) (by omega) rfl dX12_command_103 (fun H locs f1980 ef1980 z1981 hB => ?_)
                have z1982 : q_is (q_z f1980 mo 3) tn := by rw [ef1980, q_setz (Or.inr (by decide))]; exact z1958
                have z1983 : q_is (q_z f1980 sr 0) xc := by rw [ef1980, q_setz (Or.inr (by decide))]; exact z1959
                have z1984 : q_is (q_z f1980 mo 37) xo := by rw [ef1980, q_setz (Or.inr (by decide))]; exact z1960
                have z1985 : q_is (q_z f1980 mo 36) (xw + 1) := by rw [ef1980, q_setz (Or.inr (by decide))]; exact z1962
                have z1986 : q_is (q_z f1980 cs (Int.toNat x1634)) 1 := by rw [ef1980, q_setz (Or.inl (fun q => by rw [q, kmo] at kcs; exact absurd kcs (by decide)))]; exact z1963
                have z1987 : q_is (q_z f1980 mo 8) 0 := by rw [ef1980, q_setz (Or.inr (by decide))]; exact z1952
                have z1988 : q_is (q_z f1980 mo 9) (-1) := by rw [ef1980, q_setz (Or.inr (by decide))]; exact z1953
                have z1989 : q_is (q_z f1980 mo 5) x1974 := by rw [ef1980, q_setz (Or.inr (by decide))]; exact ex1974
                have z1990 : q_ir (q_r f1980 mo 13) sr := by rw [ef1980, q_setr (Or.inr (by decide))]; exact z1964
                have z1991 : q_ir (q_r f1980 mo 18) nm := by rw [ef1980, q_setr (Or.inr (by decide))]; exact z1965
                have z1992 : q_ir (q_r f1980 mo 1) bu := by rw [ef1980, q_setr (Or.inr (by decide))]; exact z1966
                have z1993 : q_ir (q_r f1980 mo 29) cs := by rw [ef1980, q_setr (Or.inr (by decide))]; exact z1967
                have z1994 : q_ir (q_r f1980 mo 30) c1 := by rw [ef1980, q_setr (Or.inr (by decide))]; exact z1968
                have z1995 : q_ir (q_r f1980 mo 31) c2 := by rw [ef1980, q_setr (Or.inr (by decide))]; exact z1969
                have z1996 : q_ir (q_r f1980 mo 32) c3 := by rw [ef1980, q_setr (Or.inr (by decide))]; exact z1970
                have g1997 : tk_ub f1980 bu B tn := tk_ub_tr g1971 (fun i9 => by rw [ef1980, q_setz (Or.inl (fun q => by rw [q, kmo] at kbu; exact absurd kbu (by decide)))])
                have g1998 : tk_nq f1980 nm nl9 := tk_nq_tr g1972 (fun i9 => by rw [ef1980, q_setj (Or.inl (fun q => by rw [q, kmo] at knm; exact absurd knm (by decide)))])
                have g1999 : k_b1 f f1980 cs x1634 := k_b1_tr g1973 (fun i9 => by rw [ef1980, q_setz (Or.inl (fun q => by rw [q, kmo] at kcs; exact absurd kcs (by decide)))])
                have g2000 : tk_tr f1980 mo B tn := tk_tr_tr g1957 (by rw [ef1980, q_setz (Or.inr (by decide))]) (by rw [ef1980, q_setz (Or.inr (by decide))]) (by rw [ef1980, q_setz (Or.inr (by decide))]) (by rw [ef1980, q_setz (Or.inr (by decide))]) (by rw [ef1980, q_setj (Or.inr (by decide))])
                have g2001 : k_cc 1 f1980 c1 c2 (Int.toNat x1634) := k_cc_tr t1955 (fun i9 => by rw [ef1980, q_setz (Or.inl (fun q => by rw [q, kmo] at kc1; exact absurd kc1 (by decide)))]) (fun i9 => by rw [ef1980, q_setz (Or.inl (fun q => by rw [q, kmo] at kc2; exact absurd kc2 (by decide)))])
                have g2002 : k_bl f f1980 c1 c2 x1634 := k_bl_tr hb9 (fun i9 => by rw [ef1980, q_setz (Or.inl (fun q => by rw [q, kmo] at kc1; exact absurd kc1 (by decide)))]) (fun i9 => by rw [ef1980, q_setz (Or.inl (fun q => by rw [q, kmo] at kc2; exact absurd kc2 (by decide)))])
                refine q_ald_n cx dX12_command_106 rfl (lv_at hl 2 rfl) ?_
                refine lv_dup cx.1 cx.2.1 dX12_command_107 rfl ?_
                refine q_gX12_488 cx hB hmo kmo z1984 dX12_command_108 (fun lb2003 ub2003 => ?_)
                refine q_ild_n cx dX12_command_111 rfl (lv_at hl 1 rfl) ?_
                refine q_bipush cx dX12_command_112 rfl ?_
                refine q_icne (tgt := 121) cx ⟨by decide, by decide⟩ ⟨by decide, by decide⟩ dX12_command_114 (by decide) (fun c2004 => ?_) (fun c2004 => ?_)
                · refine q_iconst cx dX12_command_121 ?_
                  refine q_cSi (As := [.int (q_i 0)]) (rest := [.int (q_i xo), .ref mo]) cx hB (fun _ h => h) hN (r_truth0 l g hN hB.2.1 0 (by decide) (by decide)) q_cX12_78 q_dX12_truth (by decide) rfl rfl hl.1 rfl (Nat.le_of_ble_eq_true rfl) dX12_command_122 (fun y2006 H locs f2005 ry2006 h2007 hF hB => ?_)
                  obtain ⟨rfl, qy2006⟩ := h2007
                  subst qy2006
                  refine q_iadd cx dX12_command_125 ?_
                  refine q_pX12_488 cx hB hmo kmo ⟨by omega, by omega⟩ (by omega) (by omega) rfl dX12_command_126 (fun H locs f2008 ef2008 z2009 hB => ?_)
                  have z2010 : q_is (q_z f2008 mo 3) tn := by rw [ef2008, q_setz (Or.inr (by decide))]; exact z1982
                  have z2011 : q_is (q_z f2008 sr 0) xc := by rw [ef2008, q_setz (Or.inr (by decide))]; exact z1983
                  have z2012 : q_is (q_z f2008 mo 36) (xw + 1) := by rw [ef2008, q_setz (Or.inr (by decide))]; exact z1985
                  have z2013 : q_is (q_z f2008 cs (Int.toNat x1634)) 1 := by rw [ef2008, q_setz (Or.inl (fun q => by rw [q, kmo] at kcs; exact absurd kcs (by decide)))]; exact z1986
                  have z2014 : q_is (q_z f2008 mo 8) 0 := by rw [ef2008, q_setz (Or.inr (by decide))]; exact z1987
                  have z2015 : q_is (q_z f2008 mo 9) (-1) := by rw [ef2008, q_setz (Or.inr (by decide))]; exact z1988
                  have z2016 : q_is (q_z f2008 mo 5) x1974 := by rw [ef2008, q_setz (Or.inr (by decide))]; exact z1989
                  have z2017 : q_is (q_z f2008 mo 35) (x1634 + 1) := by rw [ef2008, q_setz (Or.inr (by decide))]; exact z1981
                  have z2018 : q_ir (q_r f2008 mo 13) sr := by rw [ef2008, q_setr (Or.inr (by decide))]; exact z1990
                  have z2019 : q_ir (q_r f2008 mo 18) nm := by rw [ef2008, q_setr (Or.inr (by decide))]; exact z1991
                  have z2020 : q_ir (q_r f2008 mo 1) bu := by rw [ef2008, q_setr (Or.inr (by decide))]; exact z1992
                  have z2021 : q_ir (q_r f2008 mo 29) cs := by rw [ef2008, q_setr (Or.inr (by decide))]; exact z1993
                  have z2022 : q_ir (q_r f2008 mo 30) c1 := by rw [ef2008, q_setr (Or.inr (by decide))]; exact z1994
                  have z2023 : q_ir (q_r f2008 mo 31) c2 := by rw [ef2008, q_setr (Or.inr (by decide))]; exact z1995
                  have z2024 : q_ir (q_r f2008 mo 32) c3 := by rw [ef2008, q_setr (Or.inr (by decide))]; exact z1996
                  have g2025 : tk_ub f2008 bu B tn := tk_ub_tr g1997 (fun i9 => by rw [ef2008, q_setz (Or.inl (fun q => by rw [q, kmo] at kbu; exact absurd kbu (by decide)))])
                  have g2026 : tk_nq f2008 nm nl9 := tk_nq_tr g1998 (fun i9 => by rw [ef2008, q_setj (Or.inl (fun q => by rw [q, kmo] at knm; exact absurd knm (by decide)))])
                  have g2027 : k_b1 f f2008 cs x1634 := k_b1_tr g1999 (fun i9 => by rw [ef2008, q_setz (Or.inl (fun q => by rw [q, kmo] at kcs; exact absurd kcs (by decide)))])
                  have g2028 : tk_tr f2008 mo B tn := tk_tr_tr g2000 (by rw [ef2008, q_setz (Or.inr (by decide))]) (by rw [ef2008, q_setz (Or.inr (by decide))]) (by rw [ef2008, q_setz (Or.inr (by decide))]) (by rw [ef2008, q_setz (Or.inr (by decide))]) (by rw [ef2008, q_setj (Or.inr (by decide))])
                  have g2029 : k_cc 1 f2008 c1 c2 (Int.toNat x1634) := k_cc_tr g2001 (fun i9 => by rw [ef2008, q_setz (Or.inl (fun q => by rw [q, kmo] at kc1; exact absurd kc1 (by decide)))]) (fun i9 => by rw [ef2008, q_setz (Or.inl (fun q => by rw [q, kmo] at kc2; exact absurd kc2 (by decide)))])
                  have g2030 : k_bl f f2008 c1 c2 x1634 := k_bl_tr g2002 (fun i9 => by rw [ef2008, q_setz (Or.inl (fun q => by rw [q, kmo] at kc1; exact absurd kc1 (by decide)))]) (fun i9 => by rw [ef2008, q_setz (Or.inl (fun q => by rw [q, kmo] at kc2; exact absurd kc2 (by decide)))])
                  have hsp : k_stp 1 = 0 := rfl
                  have hsc9 : q_sc f2008 mo cs c1 c2 := k_sc_add (c := 1) hsc ex1634 hf5 hf6 z2017 z2012 (Eq.trans z2009 (by rw [hsp] <;> omega)) (by omega) z2013 g2029 g2027 g2030 (by rw [hsp] <;> omega) (by rw [hsp] <;> omega)
                  refine q_vret cx hr hlk hB dX12_command_129 ?_
                  exact (Or.inl ⟨z2014, z2015, (Eq.trans z2009 (by omega)), z2012, (tk_xok (tk_cm_go (d1 := xo) (c1 := xw + 1) t1867 (by decide) (by omega) (by omega) (Eq.trans (Eq.symm ex1922) t1902) (tk_okx t1954 ex1974) (tk_ifn (by decide)) rfl) z2016 (Eq.trans z2009 (by omega)) (Eq.trans z2012 (by omega))), (by omega), hsc9, g2028⟩)
                · exact absurd c2004 (by omega)
              · exact absurd c1978 (by omega)
            · obtain ⟨lz2031, uz2031, t2032, g2033⟩ := h1951
              have z2034 : q_is (q_z f1947 mo 3) tn := Eq.trans (hF.z hmo (by rw [kmo]; rfl)) z1927
              have z2035 : q_is (q_z f1947 sr 0) xc := Eq.trans (hF.z hsr (by rw [ksr]; rfl)) z1930
              have z2036 : q_is (q_z f1947 mo 37) xo := Eq.trans (hF.z hmo (by rw [kmo]; rfl)) z1931
              have z2037 : q_is (q_z f1947 mo 35) x1634 := Eq.trans (hF.z hmo (by rw [kmo]; rfl)) z1932
              have z2038 : q_is (q_z f1947 mo 36) (xw + 1) := Eq.trans (hF.z hmo (by rw [kmo]; rfl)) z1933
              have z2039 : q_is (q_z f1947 cs (Int.toNat x1634)) 1 := Eq.trans (hF.z hcs (by rw [kcs]; rfl)) z1926
              have z2040 : q_ir (q_r f1947 mo 13) sr := Eq.trans (hF.r hmo (by rw [kmo]; rfl)) z1935
              have z2041 : q_ir (q_r f1947 mo 18) nm := Eq.trans (hF.r hmo (by rw [kmo]; rfl)) z1936
              have z2042 : q_ir (q_r f1947 mo 1) bu := Eq.trans (hF.r hmo (by rw [kmo]; rfl)) z1937
              have z2043 : q_ir (q_r f1947 mo 29) cs := Eq.trans (hF.r hmo (by rw [kmo]; rfl)) z1938
              have z2044 : q_ir (q_r f1947 mo 30) c1 := Eq.trans (hF.r hmo (by rw [kmo]; rfl)) z1939
              have z2045 : q_ir (q_r f1947 mo 31) c2 := Eq.trans (hF.r hmo (by rw [kmo]; rfl)) z1940
              have z2046 : q_ir (q_r f1947 mo 32) c3 := Eq.trans (hF.r hmo (by rw [kmo]; rfl)) z1941
              have g2047 : tk_ub f1947 bu B tn := tk_ub_tr g1942 (fun i9 => hF.z hbu (by rw [kbu]; rfl))
              have g2048 : tk_nq f1947 nm nl9 := tk_nq_tr g1943 (fun i9 => hF.j hnm (by rw [knm]; rfl))
              have g2049 : k_b1 f f1947 cs x1634 := k_b1_tr g1945 (fun i9 => hF.z hcs (by rw [kcs]; rfl))
              obtain ⟨x2050, ex2050⟩ : ∃ zz, q_is (q_z f1947 mo 8) zz := ⟨_, q_isr _⟩
              obtain ⟨lx2050, ux2050⟩ := q_isb ex2050 ⟨lz2031, uz2031⟩
              obtain ⟨x2051, ex2051⟩ : ∃ zz, q_is (q_z f1947 mo 5) zz := ⟨_, q_isr _⟩
              obtain ⟨lx2051, ux2051⟩ := q_isb ex2051 (q_fib hB.2.1 hmo kmo (by decide) rfl)
              obtain ⟨x2052, ex2052⟩ : ∃ zz, q_is (q_z f1947 mo 9) zz := ⟨_, q_isr _⟩
              obtain ⟨lx2052, ux2052⟩ := q_isb ex2052 (q_fib hB.2.1 hmo kmo (by decide) rfl)
              obtain ⟨-, l0x2051, u0x2051, -, -⟩ := tk_tr_n g2033 ex2051
              refine q_ald_n cx dX12_command_88 rfl (lv_at hl 2 rfl) ?_
              refine q_cVi (As := []) (rest := []) cx hB (fun _ h => h) hN hmo kmo (by decide) rfl (r_isGood1 l g hN hB.2.1 mo hmo kmo x2050 (by omega) (by omega) ex2050) q_cX12_130 q_dX12_isGood (by decide) rfl rfl hl.1 rfl (Nat.le_of_ble_eq_true rfl) dX12_command_89 (fun y2054 H locs f2053 ry2054 h2055 hF hB => ?_)
              obtain ⟨rfl, qy2054⟩ := h2055
              subst qy2054
              refine q_ifne (tgt := 96) cx ⟨by decide, by decide⟩ dX12_command_92 (by decide) (fun c2056 => ?_) (fun c2056 => ?_)
              · exact absurd c2056 (by omega)
              · refine q_vret cx hr hlk hB dX12_command_95 ?_
                exact (Or.inr (Or.inr ⟨(q_isl ex2050 (by omega)), (q_isu ex2050 (by omega)), (tk_erp (tk_cm_er t1867 (by decide) (by omega) (by omega) (Eq.trans (Eq.symm ex1922) t1902) (tk_erx t2032 ex2050 ex2052)) ex2050 ex2052), g2033⟩))
          · exact absurd c1875 (by omega)
        · refine q_ald_n cx dX12_command_43 rfl (lv_at hl 1 rfl) ?_
          refine q_iconst cx dX12_command_44 ?_
          refine q_cVv (As := [.int (q_i 5)]) (rest := []) cx hB (fun _ h => h) hN hmo kmo (by decide) rfl (f_mwrongk l g hN hB.2.1 mo hmo kmo 5 (by decide) (by decide) ss (by omega) (by omega) 1 (by decide) (by decide) hf1 z1866 hf2 hf3) q_cX12_137 q_dX12_wrong (by decide) rfl rfl hl.1 rfl (Nat.le_of_ble_eq_true rfl) dX12_command_45 (fun H locs f2057 h2059 hF hB => ?_)
          obtain ⟨z2060, z2061⟩ := h2059
          have z2062 : q_is (q_z f2057 mo 3) tn := Eq.trans (hF.z hmo (by rw [kmo]; rfl)) hf0
          have z2063 : q_is (q_z f2057 mo 5) ss := Eq.trans (hF.z hmo (by rw [kmo]; rfl)) hf1
          have z2064 : q_is (q_z f2057 sr 0) xc := Eq.trans (hF.z hsr (by rw [ksr]; rfl)) hf4
          have z2065 : q_is (q_z f2057 mo 37) xo := Eq.trans (hF.z hmo (by rw [kmo]; rfl)) hf5
          have z2066 : q_is (q_z f2057 mo 36) xw := Eq.trans (hF.z hmo (by rw [kmo]; rfl)) hf6
          have z2067 : q_is (q_z f2057 mo 35) x1634 := Eq.trans (hF.z hmo (by rw [kmo]; rfl)) ex1634
          have z2068 : q_is (q_z f2057 mo 6) 1 := Eq.trans (hF.z hmo (by rw [kmo]; rfl)) z1866
          have z2069 : q_ir (q_r f2057 mo 13) sr := Eq.trans (hF.r hmo (by rw [kmo]; rfl)) hr0
          have z2070 : q_ir (q_r f2057 mo 18) nm := Eq.trans (hF.r hmo (by rw [kmo]; rfl)) hr1
          have z2071 : q_ir (q_r f2057 mo 1) bu := Eq.trans (hF.r hmo (by rw [kmo]; rfl)) hr2
          have z2072 : q_ir (q_r f2057 mo 29) cs := Eq.trans (hF.r hmo (by rw [kmo]; rfl)) hr3
          have z2073 : q_ir (q_r f2057 mo 30) c1 := Eq.trans (hF.r hmo (by rw [kmo]; rfl)) hr4
          have z2074 : q_ir (q_r f2057 mo 31) c2 := Eq.trans (hF.r hmo (by rw [kmo]; rfl)) hr5
          have z2075 : q_ir (q_r f2057 mo 32) c3 := Eq.trans (hF.r hmo (by rw [kmo]; rfl)) hr6
          have g2076 : tk_tr f2057 mo B tn := tk_tr_tr htr (hF.z hmo (by rw [kmo]; rfl)) (hF.z hmo (by rw [kmo]; rfl)) (hF.z hmo (by rw [kmo]; rfl)) (hF.z hmo (by rw [kmo]; rfl)) (hF.j hmo (by rw [kmo]; rfl))
          have g2077 : tk_ub f2057 bu B tn := tk_ub_tr hub (fun i9 => hF.z hbu (by rw [kbu]; rfl))
          have g2078 : tk_nq f2057 nm nl9 := tk_nq_tr hrn (fun i9 => hF.j hnm (by rw [knm]; rfl))
          have g2079 : q_sc f2057 mo cs c1 c2 := q_sc_tr hsc (hF.z hmo (by rw [kmo]; rfl)) (hF.z hmo (by rw [kmo]; rfl)) (hF.z hmo (by rw [kmo]; rfl)) (fun i9 => hF.z hcs (by rw [kcs]; rfl)) (fun i9 => hF.z hc1 (by rw [kc1]; rfl)) (fun i9 => hF.z hc2 (by rw [kc2]; rfl))
          have g2080 : k_bl f f2057 c1 c2 60 := k_bl_tr hbx (fun i9 => hF.z hc1 (by rw [kc1]; rfl)) (fun i9 => hF.z hc2 (by rw [kc2]; rfl))
          have g2081 : k_b1 f f2057 cs x1634 := k_b1_tr hbs (fun i9 => hF.z hcs (by rw [kcs]; rfl))
          refine q_ald_n cx dX12_command_48 rfl (lv_at hl 1 rfl) ?_
          refine q_cVi (As := []) (rest := []) cx hB (fun _ h => h) hN hmo kmo (by decide) rfl (r_isGood1 l g hN hB.2.1 mo hmo kmo 5 (by decide) (by decide) z2060) q_cX12_130 q_dX12_isGood (by decide) rfl rfl hl.1 rfl (Nat.le_of_ble_eq_true rfl) dX12_command_49 (fun y2083 H locs f2082 ry2083 h2084 hF hB => ?_)
          obtain ⟨rfl, qy2083⟩ := h2084
          subst qy2083
          refine q_ifne (tgt := 56) cx ⟨by decide, by decide⟩ dX12_command_52 (by decide) (fun c2085 => ?_) (fun c2085 => ?_)
          · exact absurd c2085 (by omega)
          · refine q_vret cx hr hlk hB dX12_command_55 ?_
            exact (Or.inr (Or.inr ⟨(q_isl z2060 (by omega)), (q_isu z2060 (by omega)), (tk_cm_e5 t1867 (by decide) (by omega) (by omega) z2060 z2061), g2076⟩))
      · exact absurd c1869 (by omega)
    · exact absurd c1868 (by omega)
  · obtain ⟨rfl, qy1636, z2086, t2087⟩ := h1640
    subst qy1636
    refine lv_istore_n (lv' := [(1, .int (q_i 2)), (0, .ref mo)]) cx.1 cx.2.1 dX12_command_4 rfl hl (by decide) rfl (fun ls hl => ?_)
    refine q_ild_n cx dX12_command_5 rfl (lv_at hl 0 rfl) ?_
    refine q_iconst cx dX12_command_6 ?_
    refine q_icne (tgt := 15) cx ⟨by decide, by decide⟩ ⟨by decide, by decide⟩ dX12_command_7 (by decide) (fun c2088 => ?_) (fun c2088 => ?_)
    · refine q_ild_n cx dX12_command_15 rfl (lv_at hl 0 rfl) ?_
      refine q_bipush cx dX12_command_16 rfl ?_
      refine q_icne (tgt := 34) cx ⟨by decide, by decide⟩ ⟨by decide, by decide⟩ dX12_command_18 (by decide) (fun c2089 => ?_) (fun c2089 => ?_)
      · refine q_ald_n cx dX12_command_34 rfl (lv_at hl 1 rfl) ?_
        refine q_gX12_491 cx hB hmo kmo hf6 dX12_command_35 (fun lb2090 ub2090 => ?_)
        refine q_bipush cx dX12_command_38 rfl ?_
        refine q_icne (tgt := 48) cx ⟨by omega, by omega⟩ ⟨by decide, by decide⟩ dX12_command_40 (by decide) (fun c2091 => ?_) (fun c2091 => ?_)
        · refine q_ald_n cx dX12_command_48 rfl (lv_at hl 1 rfl) ?_
          refine q_cVi (As := []) (rest := []) cx hB (fun _ h => h) hN hmo kmo (by decide) rfl (f_misGood l g hN hB.2.1 mo hmo kmo hf2) q_cX12_130 q_dX12_isGood (by decide) rfl rfl hl.1 rfl (Nat.le_of_ble_eq_true rfl) dX12_command_49 (fun y2093 H locs f2092 ry2093 h2094 hF hB => ?_)
          obtain ⟨rfl, qy2093⟩ := h2094
          subst qy2093
          refine q_ifne (tgt := 56) cx ⟨by decide, by decide⟩ dX12_command_52 (by decide) (fun c2095 => ?_) (fun c2095 => ?_)
          · refine q_ald_n cx dX12_command_56 rfl (lv_at hl 1 rfl) ?_
            refine lv_dup cx.1 cx.2.1 dX12_command_57 rfl ?_
            refine q_gX12_491 cx hB hmo kmo hf6 dX12_command_58 (fun lb2096 ub2096 => ?_)
            refine q_iconst cx dX12_command_61 ?_
            refine q_iadd cx dX12_command_62 ?_
            refine q_pX12_491 cx hB hmo kmo ⟨by omega, by omega⟩ (by omega) (by omega) rfl dX12_command_63 (fun H locs f2097 ef2097 z2098 hB => ?_)
            have z2099 : q_is (q_z f2097 mo 3) tn := by rw [ef2097, q_setz (Or.inr (by decide))]; exact hf0
            have z2100 : q_is (q_z f2097 mo 5) ss := by rw [ef2097, q_setz (Or.inr (by decide))]; exact hf1
            have z2101 : q_is (q_z f2097 mo 8) 0 := by rw [ef2097, q_setz (Or.inr (by decide))]; exact hf2
            have z2102 : q_is (q_z f2097 mo 9) (-1) := by rw [ef2097, q_setz (Or.inr (by decide))]; exact hf3
            have z2103 : q_is (q_z f2097 sr 0) xc := by rw [ef2097, q_setz (Or.inr (by decide))]; exact hf4
            have z2104 : q_is (q_z f2097 mo 37) xo := by rw [ef2097, q_setz (Or.inr (by decide))]; exact hf5
            have z2105 : q_is (q_z f2097 mo 35) x1634 := by rw [ef2097, q_setz (Or.inr (by decide))]; exact ex1634
            have z2106 : q_is (q_z f2097 mo 6) 1 := by rw [ef2097, q_setz (Or.inr (by decide))]; exact z2086
            have z2107 : q_ir (q_r f2097 mo 13) sr := by rw [ef2097, q_setr (Or.inr (by decide))]; exact hr0
            have z2108 : q_ir (q_r f2097 mo 18) nm := by rw [ef2097, q_setr (Or.inr (by decide))]; exact hr1
            have z2109 : q_ir (q_r f2097 mo 1) bu := by rw [ef2097, q_setr (Or.inr (by decide))]; exact hr2
            have z2110 : q_ir (q_r f2097 mo 29) cs := by rw [ef2097, q_setr (Or.inr (by decide))]; exact hr3
            have z2111 : q_ir (q_r f2097 mo 30) c1 := by rw [ef2097, q_setr (Or.inr (by decide))]; exact hr4
            have z2112 : q_ir (q_r f2097 mo 31) c2 := by rw [ef2097, q_setr (Or.inr (by decide))]; exact hr5
            have z2113 : q_ir (q_r f2097 mo 32) c3 := by rw [ef2097, q_setr (Or.inr (by decide))]; exact hr6
            have g2114 : tk_tr f2097 mo B tn := tk_tr_tr htr (by rw [ef2097, q_setz (Or.inr (by decide))]) (by rw [ef2097, q_setz (Or.inr (by decide))]) (by rw [ef2097, q_setz (Or.inr (by decide))]) (by rw [ef2097, q_setz (Or.inr (by decide))]) (by rw [ef2097, q_setj (Or.inr (by decide))])
            have g2115 : tk_ub f2097 bu B tn := tk_ub_tr hub (fun i9 => by rw [ef2097, q_setz (Or.inl (fun q => by rw [q, kmo] at kbu; exact absurd kbu (by decide)))])
            have g2116 : tk_nq f2097 nm nl9 := tk_nq_tr hrn (fun i9 => by rw [ef2097, q_setj (Or.inl (fun q => by rw [q, kmo] at knm; exact absurd knm (by decide)))])
            have g2117 : k_bl f f2097 c1 c2 60 := k_bl_tr hbx (fun i9 => by rw [ef2097, q_setz (Or.inl (fun q => by rw [q, kmo] at kc1; exact absurd kc1 (by decide)))]) (fun i9 => by rw [ef2097, q_setz (Or.inl (fun q => by rw [q, kmo] at kc2; exact absurd kc2 (by decide)))])
            have g2118 : k_b1 f f2097 cs x1634 := k_b1_tr hbs (fun i9 => by rw [ef2097, q_setz (Or.inl (fun q => by rw [q, kmo] at kcs; exact absurd kcs (by decide)))])
            refine q_ald_n cx dX12_command_66 rfl (lv_at hl 1 rfl) ?_
            refine q_cVv (As := []) (rest := []) cx hB (fun _ h => h) hN hmo kmo (by decide) rfl (f_mon l g hN hB.2.1 B mo hmo kmo bu hbu kbu tn (by omega) (by omega) ss (by omega) (by omega) z2099 z2100 z2109 g2114 g2115) q_cX12_140 q_dX12_goOn (by decide) rfl rfl hl.1 rfl (Nat.le_of_ble_eq_true rfl) dX12_command_67 (fun H locs f2119 h2121 hF hB => ?_)
            obtain ⟨t2122, g2123⟩ := h2121
            have z2124 : q_is (q_z f2119 mo 3) tn := Eq.trans (hF.z hmo (by rw [kmo]; rfl)) z2099
            have z2125 : q_is (q_z f2119 mo 8) 0 := Eq.trans (hF.z hmo (by rw [kmo]; rfl)) z2101
            have z2126 : q_is (q_z f2119 mo 9) (-1) := Eq.trans (hF.z hmo (by rw [kmo]; rfl)) z2102
            have z2127 : q_is (q_z f2119 sr 0) xc := Eq.trans (hF.z hsr (by rw [ksr]; rfl)) z2103
            have z2128 : q_is (q_z f2119 mo 37) xo := Eq.trans (hF.z hmo (by rw [kmo]; rfl)) z2104
            have z2129 : q_is (q_z f2119 mo 35) x1634 := Eq.trans (hF.z hmo (by rw [kmo]; rfl)) z2105
            have z2130 : q_is (q_z f2119 mo 36) (xw + 1) := Eq.trans (hF.z hmo (by rw [kmo]; rfl)) z2098
            have z2131 : q_ir (q_r f2119 mo 13) sr := Eq.trans (hF.r hmo (by rw [kmo]; rfl)) z2107
            have z2132 : q_ir (q_r f2119 mo 18) nm := Eq.trans (hF.r hmo (by rw [kmo]; rfl)) z2108
            have z2133 : q_ir (q_r f2119 mo 1) bu := Eq.trans (hF.r hmo (by rw [kmo]; rfl)) z2109
            have z2134 : q_ir (q_r f2119 mo 29) cs := Eq.trans (hF.r hmo (by rw [kmo]; rfl)) z2110
            have z2135 : q_ir (q_r f2119 mo 30) c1 := Eq.trans (hF.r hmo (by rw [kmo]; rfl)) z2111
            have z2136 : q_ir (q_r f2119 mo 31) c2 := Eq.trans (hF.r hmo (by rw [kmo]; rfl)) z2112
            have z2137 : q_ir (q_r f2119 mo 32) c3 := Eq.trans (hF.r hmo (by rw [kmo]; rfl)) z2113
            have g2138 : tk_ub f2119 bu B tn := tk_ub_tr g2115 (fun i9 => hF.z hbu (by rw [kbu]; rfl))
            have g2139 : tk_nq f2119 nm nl9 := tk_nq_tr g2116 (fun i9 => hF.j hnm (by rw [knm]; rfl))
            have g2140 : k_bl f f2119 c1 c2 60 := k_bl_tr g2117 (fun i9 => hF.z hc1 (by rw [kc1]; rfl)) (fun i9 => hF.z hc2 (by rw [kc2]; rfl))
            have g2141 : k_b1 f f2119 cs x1634 := k_b1_tr g2118 (fun i9 => hF.z hcs (by rw [kcs]; rfl))
            obtain ⟨x2142, ex2142⟩ : ∃ zz, q_is (q_z f2119 mo 5) zz := ⟨_, q_isr _⟩
            obtain ⟨lx2142, ux2142⟩ := q_isb ex2142 (q_fib hB.2.1 hmo kmo (by decide) rfl)
            obtain ⟨-, l0x2142, u0x2142, -, -⟩ := tk_tr_n g2123 ex2142
            refine q_ald_n cx dX12_command_70 rfl (lv_at hl 1 rfl) ?_
            refine q_gX12_494 cx hB hmo kmo z2129 dX12_command_71 (fun lb2143 ub2143 => ?_)
            refine lv_istore_n (lv' := [(2, .int (q_i x1634)), (1, .int (q_i 2)), (0, .ref mo)]) cx.1 cx.2.1 dX12_command_74 rfl hl (by decide) rfl (fun ls hl => ?_)
            refine q_ald_n cx dX12_command_75 rfl (lv_at hl 2 rfl) ?_
            refine q_gX12_51 cx hB hmo kmo z2134 dX12_command_76 (fun hb2144 kb2144 => ?_)
            refine q_ild_n cx dX12_command_79 rfl (lv_at hl 0 rfl) ?_
            refine q_ild_n cx dX12_command_80 rfl (lv_at hl 1 rfl) ?_
            refine q_iast (lo := 0) (hi := 7) (n := 60) cx hB hcs kcs (by decide) rfl rfl (by omega) (by omega) (by decide) rfl ⟨by decide, by decide⟩ (by decide) (by decide) (q_inWi (lo := 0) (hi := 58) (by decide) (by omega) (by omega)) dX12_command_81 (fun H locs f2145 ef2145 z2146 hB => ?_)
            have z2147 : q_is (q_z f2145 mo 3) tn := by rw [ef2145, q_setz (Or.inl (fun q => by rw [q, kcs] at kmo; exact absurd kmo (by decide)))]; exact z2124
            have z2148 : q_is (q_z f2145 mo 8) 0 := by rw [ef2145, q_setz (Or.inl (fun q => by rw [q, kcs] at kmo; exact absurd kmo (by decide)))]; exact z2125
            have z2149 : q_is (q_z f2145 mo 9) (-1) := by rw [ef2145, q_setz (Or.inl (fun q => by rw [q, kcs] at kmo; exact absurd kmo (by decide)))]; exact z2126
            have z2150 : q_is (q_z f2145 sr 0) xc := by rw [ef2145, q_setz (Or.inl (fun q => by rw [q, kcs] at ksr; exact absurd ksr (by decide)))]; exact z2127
            have z2151 : q_is (q_z f2145 mo 37) xo := by rw [ef2145, q_setz (Or.inl (fun q => by rw [q, kcs] at kmo; exact absurd kmo (by decide)))]; exact z2128
            have z2152 : q_is (q_z f2145 mo 35) x1634 := by rw [ef2145, q_setz (Or.inl (fun q => by rw [q, kcs] at kmo; exact absurd kmo (by decide)))]; exact z2129
            have z2153 : q_is (q_z f2145 mo 36) (xw + 1) := by rw [ef2145, q_setz (Or.inl (fun q => by rw [q, kcs] at kmo; exact absurd kmo (by decide)))]; exact z2130
            have z2154 : q_is (q_z f2145 mo 5) x2142 := by rw [ef2145, q_setz (Or.inl (fun q => by rw [q, kcs] at kmo; exact absurd kmo (by decide)))]; exact ex2142
            have z2155 : q_ir (q_r f2145 mo 13) sr := by rw [ef2145, q_setr (Or.inl (fun q => by rw [q, kcs] at kmo; exact absurd kmo (by decide)))]; exact z2131
            have z2156 : q_ir (q_r f2145 mo 18) nm := by rw [ef2145, q_setr (Or.inl (fun q => by rw [q, kcs] at kmo; exact absurd kmo (by decide)))]; exact z2132
            have z2157 : q_ir (q_r f2145 mo 1) bu := by rw [ef2145, q_setr (Or.inl (fun q => by rw [q, kcs] at kmo; exact absurd kmo (by decide)))]; exact z2133
            have z2158 : q_ir (q_r f2145 mo 29) cs := by rw [ef2145, q_setr (Or.inl (fun q => by rw [q, kcs] at kmo; exact absurd kmo (by decide)))]; exact z2134
            have z2159 : q_ir (q_r f2145 mo 30) c1 := by rw [ef2145, q_setr (Or.inl (fun q => by rw [q, kcs] at kmo; exact absurd kmo (by decide)))]; exact z2135
            have z2160 : q_ir (q_r f2145 mo 31) c2 := by rw [ef2145, q_setr (Or.inl (fun q => by rw [q, kcs] at kmo; exact absurd kmo (by decide)))]; exact z2136
            have z2161 : q_ir (q_r f2145 mo 32) c3 := by rw [ef2145, q_setr (Or.inl (fun q => by rw [q, kcs] at kmo; exact absurd kmo (by decide)))]; exact z2137
            have g2162 : tk_ub f2145 bu B tn := tk_ub_tr g2138 (fun i9 => by rw [ef2145, q_setz (Or.inl (fun q => by rw [q, kcs] at kbu; exact absurd kbu (by decide)))])
            have g2163 : tk_nq f2145 nm nl9 := tk_nq_tr g2139 (fun i9 => by rw [ef2145, q_setj (Or.inl (fun q => by rw [q, kcs] at knm; exact absurd knm (by decide)))])
            have g2164 : k_bl f f2145 c1 c2 60 := k_bl_tr g2140 (fun i9 => by rw [ef2145, q_setz (Or.inl (fun q => by rw [q, kcs] at kc1; exact absurd kc1 (by decide)))]) (fun i9 => by rw [ef2145, q_setz (Or.inl (fun q => by rw [q, kcs] at kc2; exact absurd kc2 (by decide)))])
            have g2165 : k_b1 f f2145 cs x1634 := k_b1_s g2141 ef2145 (by omega)
            have g2166 : tk_tr f2145 mo B tn := tk_tr_tr g2123 (by rw [ef2145, q_setz (Or.inl (fun q => by rw [q, kcs] at kmo; exact absurd kmo (by decide)))]) (by rw [ef2145, q_setz (Or.inl (fun q => by rw [q, kcs] at kmo; exact absurd kmo (by decide)))]) (by rw [ef2145, q_setz (Or.inl (fun q => by rw [q, kcs] at kmo; exact absurd kmo (by decide)))]) (by rw [ef2145, q_setz (Or.inl (fun q => by rw [q, kcs] at kmo; exact absurd kmo (by decide)))]) (by rw [ef2145, q_setj (Or.inl (fun q => by rw [q, kcs] at kmo; exact absurd kmo (by decide)))])
            refine q_ald_n cx dX12_command_82 rfl (lv_at hl 2 rfl) ?_
            refine q_ild_n cx dX12_command_83 rfl (lv_at hl 0 rfl) ?_
            refine q_ild_n cx dX12_command_84 rfl (lv_at hl 1 rfl) ?_
            refine q_cVv (As := [.int (q_i x1634), .int (q_i 2)]) (rest := []) cx hB (fun _ h => h) hN hmo kmo (by decide) rfl (f_mreadsNumbers2 l g hN hB.2.1 B nl9 mo hmo kmo x1634 (by omega) (by omega) 2 (by decide) (by decide) sr hsr ksr nm hnm knm bu hbu kbu c1 hc1 kc1 c2 hc2 kc2 c3 hc3 kc3 tn (by omega) (by omega) x2142 (by omega) (by omega) xc (by omega) (by omega) z2147 z2154 z2148 z2149 z2150 z2155 z2156 z2157 z2159 z2160 z2161 hp0 g2166 g2162 g2163) q_cX12_497 q_dX12_readsNumbers (by decide) rfl rfl hl.1 rfl (Nat.le_of_ble_eq_true rfl) dX12_command_85 (fun H locs f2167 h2169 hF hB => ?_)
            rcases h2169 with h2170 | h2171
            · obtain ⟨z2172, z2173, t2174, t2175, t2176, g2177⟩ := h2170
              have z2178 : q_is (q_z f2167 mo 3) tn := Eq.trans (hF.z hmo (by rw [kmo]; rfl)) z2147
              have z2179 : q_is (q_z f2167 sr 0) xc := Eq.trans (hF.z hsr (by rw [ksr]; rfl)) z2150
              have z2180 : q_is (q_z f2167 mo 37) xo := Eq.trans (hF.z hmo (by rw [kmo]; rfl)) z2151
              have z2181 : q_is (q_z f2167 mo 35) x1634 := Eq.trans (hF.z hmo (by rw [kmo]; rfl)) z2152
              have z2182 : q_is (q_z f2167 mo 36) (xw + 1) := Eq.trans (hF.z hmo (by rw [kmo]; rfl)) z2153
              have z2183 : q_is (q_z f2167 cs (Int.toNat x1634)) 2 := Eq.trans (hF.z hcs (by rw [kcs]; rfl)) z2146
              have z2184 : q_ir (q_r f2167 mo 13) sr := Eq.trans (hF.r hmo (by rw [kmo]; rfl)) z2155
              have z2185 : q_ir (q_r f2167 mo 18) nm := Eq.trans (hF.r hmo (by rw [kmo]; rfl)) z2156
              have z2186 : q_ir (q_r f2167 mo 1) bu := Eq.trans (hF.r hmo (by rw [kmo]; rfl)) z2157
              have z2187 : q_ir (q_r f2167 mo 29) cs := Eq.trans (hF.r hmo (by rw [kmo]; rfl)) z2158
              have z2188 : q_ir (q_r f2167 mo 30) c1 := Eq.trans (hF.r hmo (by rw [kmo]; rfl)) z2159
              have z2189 : q_ir (q_r f2167 mo 31) c2 := Eq.trans (hF.r hmo (by rw [kmo]; rfl)) z2160
              have z2190 : q_ir (q_r f2167 mo 32) c3 := Eq.trans (hF.r hmo (by rw [kmo]; rfl)) z2161
              have g2191 : tk_ub f2167 bu B tn := tk_ub_tr g2162 (fun i9 => hF.z hbu (by rw [kbu]; rfl))
              have g2192 : tk_nq f2167 nm nl9 := tk_nq_tr g2163 (fun i9 => hF.j hnm (by rw [knm]; rfl))
              have g2193 : k_b1 f f2167 cs x1634 := k_b1_tr g2165 (fun i9 => hF.z hcs (by rw [kcs]; rfl))
              obtain ⟨x2194, ex2194⟩ : ∃ zz, q_is (q_z f2167 mo 5) zz := ⟨_, q_isr _⟩
              obtain ⟨lx2194, ux2194⟩ := q_isb ex2194 (q_fib hB.2.1 hmo kmo (by decide) rfl)
              obtain ⟨-, l0x2194, u0x2194, -, -⟩ := tk_tr_n g2177 ex2194
              have hb9 : k_bl f f2167 c1 c2 x1634 := k_bl_cat g2164 t2176 (by omega)
              refine q_ald_n cx dX12_command_88 rfl (lv_at hl 2 rfl) ?_
              refine q_cVi (As := []) (rest := []) cx hB (fun _ h => h) hN hmo kmo (by decide) rfl (f_misGood l g hN hB.2.1 mo hmo kmo z2172) q_cX12_130 q_dX12_isGood (by decide) rfl rfl hl.1 rfl (Nat.le_of_ble_eq_true rfl) dX12_command_89 (fun y2196 H locs f2195 ry2196 h2197 hF hB => ?_)
              obtain ⟨rfl, qy2196⟩ := h2197
              subst qy2196
              refine q_ifne (tgt := 96) cx ⟨by decide, by decide⟩ dX12_command_92 (by decide) (fun c2198 => ?_) (fun c2198 => ?_)
              · refine q_ald_n cx dX12_command_96 rfl (lv_at hl 2 rfl) ?_
                refine lv_dup cx.1 cx.2.1 dX12_command_97 rfl ?_
                refine q_gX12_494 cx hB hmo kmo z2181 dX12_command_98 (fun lb2199 ub2199 => ?_)
                refine q_iconst cx dX12_command_101 ?_
                refine q_iadd cx dX12_command_102 ?_
                refine q_pX12_494 cx hB hmo kmo ⟨by omega, by omega⟩ (by omega) (by omega) rfl dX12_command_103 (fun H locs f2200 ef2200 z2201 hB => ?_)
                have z2202 : q_is (q_z f2200 mo 3) tn := by rw [ef2200, q_setz (Or.inr (by decide))]; exact z2178
                have z2203 : q_is (q_z f2200 sr 0) xc := by rw [ef2200, q_setz (Or.inr (by decide))]; exact z2179
                have z2204 : q_is (q_z f2200 mo 37) xo := by rw [ef2200, q_setz (Or.inr (by decide))]; exact z2180
                have z2205 : q_is (q_z f2200 mo 36) (xw + 1) := by rw [ef2200, q_setz (Or.inr (by decide))]; exact z2182
                have z2206 : q_is (q_z f2200 cs (Int.toNat x1634)) 2 := by rw [ef2200, q_setz (Or.inl (fun q => by rw [q, kmo] at kcs; exact absurd kcs (by decide)))]; exact z2183
                have z2207 : q_is (q_z f2200 mo 8) 0 := by rw [ef2200, q_setz (Or.inr (by decide))]; exact z2172
                have z2208 : q_is (q_z f2200 mo 9) (-1) := by rw [ef2200, q_setz (Or.inr (by decide))]; exact z2173
                have z2209 : q_is (q_z f2200 mo 5) x2194 := by rw [ef2200, q_setz (Or.inr (by decide))]; exact ex2194
                have z2210 : q_ir (q_r f2200 mo 13) sr := by rw [ef2200, q_setr (Or.inr (by decide))]; exact z2184
                have z2211 : q_ir (q_r f2200 mo 18) nm := by rw [ef2200, q_setr (Or.inr (by decide))]; exact z2185
                have z2212 : q_ir (q_r f2200 mo 1) bu := by rw [ef2200, q_setr (Or.inr (by decide))]; exact z2186
                have z2213 : q_ir (q_r f2200 mo 29) cs := by rw [ef2200, q_setr (Or.inr (by decide))]; exact z2187
                have z2214 : q_ir (q_r f2200 mo 30) c1 := by rw [ef2200, q_setr (Or.inr (by decide))]; exact z2188
                have z2215 : q_ir (q_r f2200 mo 31) c2 := by rw [ef2200, q_setr (Or.inr (by decide))]; exact z2189
                have z2216 : q_ir (q_r f2200 mo 32) c3 := by rw [ef2200, q_setr (Or.inr (by decide))]; exact z2190
                have g2217 : tk_ub f2200 bu B tn := tk_ub_tr g2191 (fun i9 => by rw [ef2200, q_setz (Or.inl (fun q => by rw [q, kmo] at kbu; exact absurd kbu (by decide)))])
                have g2218 : tk_nq f2200 nm nl9 := tk_nq_tr g2192 (fun i9 => by rw [ef2200, q_setj (Or.inl (fun q => by rw [q, kmo] at knm; exact absurd knm (by decide)))])
                have g2219 : k_b1 f f2200 cs x1634 := k_b1_tr g2193 (fun i9 => by rw [ef2200, q_setz (Or.inl (fun q => by rw [q, kmo] at kcs; exact absurd kcs (by decide)))])
                have g2220 : tk_tr f2200 mo B tn := tk_tr_tr g2177 (by rw [ef2200, q_setz (Or.inr (by decide))]) (by rw [ef2200, q_setz (Or.inr (by decide))]) (by rw [ef2200, q_setz (Or.inr (by decide))]) (by rw [ef2200, q_setz (Or.inr (by decide))]) (by rw [ef2200, q_setj (Or.inr (by decide))])
                have g2221 : k_cc 2 f2200 c1 c2 (Int.toNat x1634) := k_cc_tr t2175 (fun i9 => by rw [ef2200, q_setz (Or.inl (fun q => by rw [q, kmo] at kc1; exact absurd kc1 (by decide)))]) (fun i9 => by rw [ef2200, q_setz (Or.inl (fun q => by rw [q, kmo] at kc2; exact absurd kc2 (by decide)))])
                have g2222 : k_bl f f2200 c1 c2 x1634 := k_bl_tr hb9 (fun i9 => by rw [ef2200, q_setz (Or.inl (fun q => by rw [q, kmo] at kc1; exact absurd kc1 (by decide)))]) (fun i9 => by rw [ef2200, q_setz (Or.inl (fun q => by rw [q, kmo] at kc2; exact absurd kc2 (by decide)))])
                refine q_ald_n cx dX12_command_106 rfl (lv_at hl 2 rfl) ?_
                refine lv_dup cx.1 cx.2.1 dX12_command_107 rfl ?_
                refine q_gX12_488 cx hB hmo kmo z2204 dX12_command_108 (fun lb2223 ub2223 => ?_)
                refine q_ild_n cx dX12_command_111 rfl (lv_at hl 1 rfl) ?_
                refine q_bipush cx dX12_command_112 rfl ?_
                refine q_icne (tgt := 121) cx ⟨by decide, by decide⟩ ⟨by decide, by decide⟩ dX12_command_114 (by decide) (fun c2224 => ?_) (fun c2224 => ?_)
                · refine q_iconst cx dX12_command_121 ?_
                  refine q_cSi (As := [.int (q_i 0)]) (rest := [.int (q_i xo), .ref mo]) cx hB (fun _ h => h) hN (r_truth0 l g hN hB.2.1 0 (by decide) (by decide)) q_cX12_78 q_dX12_truth (by decide) rfl rfl hl.1 rfl (Nat.le_of_ble_eq_true rfl) dX12_command_122 (fun y2226 H locs f2225 ry2226 h2227 hF hB => ?_)
                  obtain ⟨rfl, qy2226⟩ := h2227
                  subst qy2226
                  refine q_iadd cx dX12_command_125 ?_
                  refine q_pX12_488 cx hB hmo kmo ⟨by omega, by omega⟩ (by omega) (by omega) rfl dX12_command_126 (fun H locs f2228 ef2228 z2229 hB => ?_)
                  have z2230 : q_is (q_z f2228 mo 3) tn := by rw [ef2228, q_setz (Or.inr (by decide))]; exact z2202
                  have z2231 : q_is (q_z f2228 sr 0) xc := by rw [ef2228, q_setz (Or.inr (by decide))]; exact z2203
                  have z2232 : q_is (q_z f2228 mo 36) (xw + 1) := by rw [ef2228, q_setz (Or.inr (by decide))]; exact z2205
                  have z2233 : q_is (q_z f2228 cs (Int.toNat x1634)) 2 := by rw [ef2228, q_setz (Or.inl (fun q => by rw [q, kmo] at kcs; exact absurd kcs (by decide)))]; exact z2206
                  have z2234 : q_is (q_z f2228 mo 8) 0 := by rw [ef2228, q_setz (Or.inr (by decide))]; exact z2207
                  have z2235 : q_is (q_z f2228 mo 9) (-1) := by rw [ef2228, q_setz (Or.inr (by decide))]; exact z2208
                  have z2236 : q_is (q_z f2228 mo 5) x2194 := by rw [ef2228, q_setz (Or.inr (by decide))]; exact z2209
                  have z2237 : q_is (q_z f2228 mo 35) (x1634 + 1) := by rw [ef2228, q_setz (Or.inr (by decide))]; exact z2201
                  have z2238 : q_ir (q_r f2228 mo 13) sr := by rw [ef2228, q_setr (Or.inr (by decide))]; exact z2210
                  have z2239 : q_ir (q_r f2228 mo 18) nm := by rw [ef2228, q_setr (Or.inr (by decide))]; exact z2211
                  have z2240 : q_ir (q_r f2228 mo 1) bu := by rw [ef2228, q_setr (Or.inr (by decide))]; exact z2212
                  have z2241 : q_ir (q_r f2228 mo 29) cs := by rw [ef2228, q_setr (Or.inr (by decide))]; exact z2213
                  have z2242 : q_ir (q_r f2228 mo 30) c1 := by rw [ef2228, q_setr (Or.inr (by decide))]; exact z2214
                  have z2243 : q_ir (q_r f2228 mo 31) c2 := by rw [ef2228, q_setr (Or.inr (by decide))]; exact z2215
                  have z2244 : q_ir (q_r f2228 mo 32) c3 := by rw [ef2228, q_setr (Or.inr (by decide))]; exact z2216
                  have g2245 : tk_ub f2228 bu B tn := tk_ub_tr g2217 (fun i9 => by rw [ef2228, q_setz (Or.inl (fun q => by rw [q, kmo] at kbu; exact absurd kbu (by decide)))])
                  have g2246 : tk_nq f2228 nm nl9 := tk_nq_tr g2218 (fun i9 => by rw [ef2228, q_setj (Or.inl (fun q => by rw [q, kmo] at knm; exact absurd knm (by decide)))])
                  have g2247 : k_b1 f f2228 cs x1634 := k_b1_tr g2219 (fun i9 => by rw [ef2228, q_setz (Or.inl (fun q => by rw [q, kmo] at kcs; exact absurd kcs (by decide)))])
                  have g2248 : tk_tr f2228 mo B tn := tk_tr_tr g2220 (by rw [ef2228, q_setz (Or.inr (by decide))]) (by rw [ef2228, q_setz (Or.inr (by decide))]) (by rw [ef2228, q_setz (Or.inr (by decide))]) (by rw [ef2228, q_setz (Or.inr (by decide))]) (by rw [ef2228, q_setj (Or.inr (by decide))])
                  have g2249 : k_cc 2 f2228 c1 c2 (Int.toNat x1634) := k_cc_tr g2221 (fun i9 => by rw [ef2228, q_setz (Or.inl (fun q => by rw [q, kmo] at kc1; exact absurd kc1 (by decide)))]) (fun i9 => by rw [ef2228, q_setz (Or.inl (fun q => by rw [q, kmo] at kc2; exact absurd kc2 (by decide)))])
                  have g2250 : k_bl f f2228 c1 c2 x1634 := k_bl_tr g2222 (fun i9 => by rw [ef2228, q_setz (Or.inl (fun q => by rw [q, kmo] at kc1; exact absurd kc1 (by decide)))]) (fun i9 => by rw [ef2228, q_setz (Or.inl (fun q => by rw [q, kmo] at kc2; exact absurd kc2 (by decide)))])
                  have hsp : k_stp 2 = 0 := rfl
                  have hsc9 : q_sc f2228 mo cs c1 c2 := k_sc_add (c := 2) hsc ex1634 hf5 hf6 z2237 z2232 (Eq.trans z2229 (by rw [hsp] <;> omega)) (by omega) z2233 g2249 g2247 g2250 (by rw [hsp] <;> omega) (by rw [hsp] <;> omega)
                  refine q_vret cx hr hlk hB dX12_command_129 ?_
                  exact (Or.inl ⟨z2234, z2235, (Eq.trans z2229 (by omega)), z2232, (tk_xok (tk_cm_go (d1 := xo) (c1 := xw + 1) t2087 (by decide) (by omega) (by omega) (Eq.trans (Eq.symm ex2142) t2122) (tk_okx t2174 ex2194) (tk_ifn (by decide)) rfl) z2236 (Eq.trans z2229 (by omega)) (Eq.trans z2232 (by omega))), (by omega), hsc9, g2248⟩)
                · exact absurd c2224 (by omega)
              · exact absurd c2198 (by omega)
            · obtain ⟨lz2251, uz2251, t2252, g2253⟩ := h2171
              have z2254 : q_is (q_z f2167 mo 3) tn := Eq.trans (hF.z hmo (by rw [kmo]; rfl)) z2147
              have z2255 : q_is (q_z f2167 sr 0) xc := Eq.trans (hF.z hsr (by rw [ksr]; rfl)) z2150
              have z2256 : q_is (q_z f2167 mo 37) xo := Eq.trans (hF.z hmo (by rw [kmo]; rfl)) z2151
              have z2257 : q_is (q_z f2167 mo 35) x1634 := Eq.trans (hF.z hmo (by rw [kmo]; rfl)) z2152
              have z2258 : q_is (q_z f2167 mo 36) (xw + 1) := Eq.trans (hF.z hmo (by rw [kmo]; rfl)) z2153
              have z2259 : q_is (q_z f2167 cs (Int.toNat x1634)) 2 := Eq.trans (hF.z hcs (by rw [kcs]; rfl)) z2146
              have z2260 : q_ir (q_r f2167 mo 13) sr := Eq.trans (hF.r hmo (by rw [kmo]; rfl)) z2155
              have z2261 : q_ir (q_r f2167 mo 18) nm := Eq.trans (hF.r hmo (by rw [kmo]; rfl)) z2156
              have z2262 : q_ir (q_r f2167 mo 1) bu := Eq.trans (hF.r hmo (by rw [kmo]; rfl)) z2157
              have z2263 : q_ir (q_r f2167 mo 29) cs := Eq.trans (hF.r hmo (by rw [kmo]; rfl)) z2158
              have z2264 : q_ir (q_r f2167 mo 30) c1 := Eq.trans (hF.r hmo (by rw [kmo]; rfl)) z2159
              have z2265 : q_ir (q_r f2167 mo 31) c2 := Eq.trans (hF.r hmo (by rw [kmo]; rfl)) z2160
              have z2266 : q_ir (q_r f2167 mo 32) c3 := Eq.trans (hF.r hmo (by rw [kmo]; rfl)) z2161
              have g2267 : tk_ub f2167 bu B tn := tk_ub_tr g2162 (fun i9 => hF.z hbu (by rw [kbu]; rfl))
              have g2268 : tk_nq f2167 nm nl9 := tk_nq_tr g2163 (fun i9 => hF.j hnm (by rw [knm]; rfl))
              have g2269 : k_b1 f f2167 cs x1634 := k_b1_tr g2165 (fun i9 => hF.z hcs (by rw [kcs]; rfl))
              obtain ⟨x2270, ex2270⟩ : ∃ zz, q_is (q_z f2167 mo 8) zz := ⟨_, q_isr _⟩
              obtain ⟨lx2270, ux2270⟩ := q_isb ex2270 ⟨lz2251, uz2251⟩
              obtain ⟨x2271, ex2271⟩ : ∃ zz, q_is (q_z f2167 mo 5) zz := ⟨_, q_isr _⟩
              obtain ⟨lx2271, ux2271⟩ := q_isb ex2271 (q_fib hB.2.1 hmo kmo (by decide) rfl)
              obtain ⟨x2272, ex2272⟩ : ∃ zz, q_is (q_z f2167 mo 9) zz := ⟨_, q_isr _⟩
              obtain ⟨lx2272, ux2272⟩ := q_isb ex2272 (q_fib hB.2.1 hmo kmo (by decide) rfl)
              obtain ⟨-, l0x2271, u0x2271, -, -⟩ := tk_tr_n g2253 ex2271
              refine q_ald_n cx dX12_command_88 rfl (lv_at hl 2 rfl) ?_
              refine q_cVi (As := []) (rest := []) cx hB (fun _ h => h) hN hmo kmo (by decide) rfl (r_isGood1 l g hN hB.2.1 mo hmo kmo x2270 (by omega) (by omega) ex2270) q_cX12_130 q_dX12_isGood (by decide) rfl rfl hl.1 rfl (Nat.le_of_ble_eq_true rfl) dX12_command_89 (fun y2274 H locs f2273 ry2274 h2275 hF hB => ?_)
              obtain ⟨rfl, qy2274⟩ := h2275
              subst qy2274
              refine q_ifne (tgt := 96) cx ⟨by decide, by decide⟩ dX12_command_92 (by decide) (fun c2276 => ?_) (fun c2276 => ?_)
              · exact absurd c2276 (by omega)
              · refine q_vret cx hr hlk hB dX12_command_95 ?_
                exact (Or.inr (Or.inr ⟨(q_isl ex2270 (by omega)), (q_isu ex2270 (by omega)), (tk_erp (tk_cm_er t2087 (by decide) (by omega) (by omega) (Eq.trans (Eq.symm ex2142) t2122) (tk_erx t2252 ex2270 ex2272)) ex2270 ex2272), g2253⟩))
          · exact absurd c2095 (by omega)
        · refine q_ald_n cx dX12_command_43 rfl (lv_at hl 1 rfl) ?_
          refine q_iconst cx dX12_command_44 ?_
          refine q_cVv (As := [.int (q_i 5)]) (rest := []) cx hB (fun _ h => h) hN hmo kmo (by decide) rfl (f_mwrongk l g hN hB.2.1 mo hmo kmo 5 (by decide) (by decide) ss (by omega) (by omega) 1 (by decide) (by decide) hf1 z2086 hf2 hf3) q_cX12_137 q_dX12_wrong (by decide) rfl rfl hl.1 rfl (Nat.le_of_ble_eq_true rfl) dX12_command_45 (fun H locs f2277 h2279 hF hB => ?_)
          obtain ⟨z2280, z2281⟩ := h2279
          have z2282 : q_is (q_z f2277 mo 3) tn := Eq.trans (hF.z hmo (by rw [kmo]; rfl)) hf0
          have z2283 : q_is (q_z f2277 mo 5) ss := Eq.trans (hF.z hmo (by rw [kmo]; rfl)) hf1
          have z2284 : q_is (q_z f2277 sr 0) xc := Eq.trans (hF.z hsr (by rw [ksr]; rfl)) hf4
          have z2285 : q_is (q_z f2277 mo 37) xo := Eq.trans (hF.z hmo (by rw [kmo]; rfl)) hf5
          have z2286 : q_is (q_z f2277 mo 36) xw := Eq.trans (hF.z hmo (by rw [kmo]; rfl)) hf6
          have z2287 : q_is (q_z f2277 mo 35) x1634 := Eq.trans (hF.z hmo (by rw [kmo]; rfl)) ex1634
          have z2288 : q_is (q_z f2277 mo 6) 1 := Eq.trans (hF.z hmo (by rw [kmo]; rfl)) z2086
          have z2289 : q_ir (q_r f2277 mo 13) sr := Eq.trans (hF.r hmo (by rw [kmo]; rfl)) hr0
          have z2290 : q_ir (q_r f2277 mo 18) nm := Eq.trans (hF.r hmo (by rw [kmo]; rfl)) hr1
          have z2291 : q_ir (q_r f2277 mo 1) bu := Eq.trans (hF.r hmo (by rw [kmo]; rfl)) hr2
          have z2292 : q_ir (q_r f2277 mo 29) cs := Eq.trans (hF.r hmo (by rw [kmo]; rfl)) hr3
          have z2293 : q_ir (q_r f2277 mo 30) c1 := Eq.trans (hF.r hmo (by rw [kmo]; rfl)) hr4
          have z2294 : q_ir (q_r f2277 mo 31) c2 := Eq.trans (hF.r hmo (by rw [kmo]; rfl)) hr5
          have z2295 : q_ir (q_r f2277 mo 32) c3 := Eq.trans (hF.r hmo (by rw [kmo]; rfl)) hr6
          have g2296 : tk_tr f2277 mo B tn := tk_tr_tr htr (hF.z hmo (by rw [kmo]; rfl)) (hF.z hmo (by rw [kmo]; rfl)) (hF.z hmo (by rw [kmo]; rfl)) (hF.z hmo (by rw [kmo]; rfl)) (hF.j hmo (by rw [kmo]; rfl))
          have g2297 : tk_ub f2277 bu B tn := tk_ub_tr hub (fun i9 => hF.z hbu (by rw [kbu]; rfl))
          have g2298 : tk_nq f2277 nm nl9 := tk_nq_tr hrn (fun i9 => hF.j hnm (by rw [knm]; rfl))
          have g2299 : q_sc f2277 mo cs c1 c2 := q_sc_tr hsc (hF.z hmo (by rw [kmo]; rfl)) (hF.z hmo (by rw [kmo]; rfl)) (hF.z hmo (by rw [kmo]; rfl)) (fun i9 => hF.z hcs (by rw [kcs]; rfl)) (fun i9 => hF.z hc1 (by rw [kc1]; rfl)) (fun i9 => hF.z hc2 (by rw [kc2]; rfl))
          have g2300 : k_bl f f2277 c1 c2 60 := k_bl_tr hbx (fun i9 => hF.z hc1 (by rw [kc1]; rfl)) (fun i9 => hF.z hc2 (by rw [kc2]; rfl))
          have g2301 : k_b1 f f2277 cs x1634 := k_b1_tr hbs (fun i9 => hF.z hcs (by rw [kcs]; rfl))
          refine q_ald_n cx dX12_command_48 rfl (lv_at hl 1 rfl) ?_
          refine q_cVi (As := []) (rest := []) cx hB (fun _ h => h) hN hmo kmo (by decide) rfl (r_isGood1 l g hN hB.2.1 mo hmo kmo 5 (by decide) (by decide) z2280) q_cX12_130 q_dX12_isGood (by decide) rfl rfl hl.1 rfl (Nat.le_of_ble_eq_true rfl) dX12_command_49 (fun y2303 H locs f2302 ry2303 h2304 hF hB => ?_)
          obtain ⟨rfl, qy2303⟩ := h2304
          subst qy2303
          refine q_ifne (tgt := 56) cx ⟨by decide, by decide⟩ dX12_command_52 (by decide) (fun c2305 => ?_) (fun c2305 => ?_)
          · exact absurd c2305 (by omega)
          · refine q_vret cx hr hlk hB dX12_command_55 ?_
            exact (Or.inr (Or.inr ⟨(q_isl z2280 (by omega)), (q_isu z2280 (by omega)), (tk_cm_e5 t2087 (by decide) (by omega) (by omega) z2280 z2281), g2296⟩))
      · exact absurd c2089 (by omega)
    · exact absurd c2088 (by omega)
  · obtain ⟨rfl, qy1636, z2306, t2307⟩ := h1641
    subst qy1636
    refine lv_istore_n (lv' := [(1, .int (q_i 3)), (0, .ref mo)]) cx.1 cx.2.1 dX12_command_4 rfl hl (by decide) rfl (fun ls hl => ?_)
    refine q_ild_n cx dX12_command_5 rfl (lv_at hl 0 rfl) ?_
    refine q_iconst cx dX12_command_6 ?_
    refine q_icne (tgt := 15) cx ⟨by decide, by decide⟩ ⟨by decide, by decide⟩ dX12_command_7 (by decide) (fun c2308 => ?_) (fun c2308 => ?_)
    · refine q_ild_n cx dX12_command_15 rfl (lv_at hl 0 rfl) ?_
      refine q_bipush cx dX12_command_16 rfl ?_
      refine q_icne (tgt := 34) cx ⟨by decide, by decide⟩ ⟨by decide, by decide⟩ dX12_command_18 (by decide) (fun c2309 => ?_) (fun c2309 => ?_)
      · refine q_ald_n cx dX12_command_34 rfl (lv_at hl 1 rfl) ?_
        refine q_gX12_491 cx hB hmo kmo hf6 dX12_command_35 (fun lb2310 ub2310 => ?_)
        refine q_bipush cx dX12_command_38 rfl ?_
        refine q_icne (tgt := 48) cx ⟨by omega, by omega⟩ ⟨by decide, by decide⟩ dX12_command_40 (by decide) (fun c2311 => ?_) (fun c2311 => ?_)
        · refine q_ald_n cx dX12_command_48 rfl (lv_at hl 1 rfl) ?_
          refine q_cVi (As := []) (rest := []) cx hB (fun _ h => h) hN hmo kmo (by decide) rfl (f_misGood l g hN hB.2.1 mo hmo kmo hf2) q_cX12_130 q_dX12_isGood (by decide) rfl rfl hl.1 rfl (Nat.le_of_ble_eq_true rfl) dX12_command_49 (fun y2313 H locs f2312 ry2313 h2314 hF hB => ?_)
          obtain ⟨rfl, qy2313⟩ := h2314
          subst qy2313
          refine q_ifne (tgt := 56) cx ⟨by decide, by decide⟩ dX12_command_52 (by decide) (fun c2315 => ?_) (fun c2315 => ?_)
          · refine q_ald_n cx dX12_command_56 rfl (lv_at hl 1 rfl) ?_
            refine lv_dup cx.1 cx.2.1 dX12_command_57 rfl ?_
            refine q_gX12_491 cx hB hmo kmo hf6 dX12_command_58 (fun lb2316 ub2316 => ?_)
            refine q_iconst cx dX12_command_61 ?_
            refine q_iadd cx dX12_command_62 ?_
            refine q_pX12_491 cx hB hmo kmo ⟨by omega, by omega⟩ (by omega) (by omega) rfl dX12_command_63 (fun H locs f2317 ef2317 z2318 hB => ?_)
            have z2319 : q_is (q_z f2317 mo 3) tn := by rw [ef2317, q_setz (Or.inr (by decide))]; exact hf0
            have z2320 : q_is (q_z f2317 mo 5) ss := by rw [ef2317, q_setz (Or.inr (by decide))]; exact hf1
            have z2321 : q_is (q_z f2317 mo 8) 0 := by rw [ef2317, q_setz (Or.inr (by decide))]; exact hf2
            have z2322 : q_is (q_z f2317 mo 9) (-1) := by rw [ef2317, q_setz (Or.inr (by decide))]; exact hf3
            have z2323 : q_is (q_z f2317 sr 0) xc := by rw [ef2317, q_setz (Or.inr (by decide))]; exact hf4
            have z2324 : q_is (q_z f2317 mo 37) xo := by rw [ef2317, q_setz (Or.inr (by decide))]; exact hf5
            have z2325 : q_is (q_z f2317 mo 35) x1634 := by rw [ef2317, q_setz (Or.inr (by decide))]; exact ex1634
            have z2326 : q_is (q_z f2317 mo 6) 1 := by rw [ef2317, q_setz (Or.inr (by decide))]; exact z2306
            have z2327 : q_ir (q_r f2317 mo 13) sr := by rw [ef2317, q_setr (Or.inr (by decide))]; exact hr0
            have z2328 : q_ir (q_r f2317 mo 18) nm := by rw [ef2317, q_setr (Or.inr (by decide))]; exact hr1
            have z2329 : q_ir (q_r f2317 mo 1) bu := by rw [ef2317, q_setr (Or.inr (by decide))]; exact hr2
            have z2330 : q_ir (q_r f2317 mo 29) cs := by rw [ef2317, q_setr (Or.inr (by decide))]; exact hr3
            have z2331 : q_ir (q_r f2317 mo 30) c1 := by rw [ef2317, q_setr (Or.inr (by decide))]; exact hr4
            have z2332 : q_ir (q_r f2317 mo 31) c2 := by rw [ef2317, q_setr (Or.inr (by decide))]; exact hr5
            have z2333 : q_ir (q_r f2317 mo 32) c3 := by rw [ef2317, q_setr (Or.inr (by decide))]; exact hr6
            have g2334 : tk_tr f2317 mo B tn := tk_tr_tr htr (by rw [ef2317, q_setz (Or.inr (by decide))]) (by rw [ef2317, q_setz (Or.inr (by decide))]) (by rw [ef2317, q_setz (Or.inr (by decide))]) (by rw [ef2317, q_setz (Or.inr (by decide))]) (by rw [ef2317, q_setj (Or.inr (by decide))])
            have g2335 : tk_ub f2317 bu B tn := tk_ub_tr hub (fun i9 => by rw [ef2317, q_setz (Or.inl (fun q => by rw [q, kmo] at kbu; exact absurd kbu (by decide)))])
            have g2336 : tk_nq f2317 nm nl9 := tk_nq_tr hrn (fun i9 => by rw [ef2317, q_setj (Or.inl (fun q => by rw [q, kmo] at knm; exact absurd knm (by decide)))])
            have g2337 : k_bl f f2317 c1 c2 60 := k_bl_tr hbx (fun i9 => by rw [ef2317, q_setz (Or.inl (fun q => by rw [q, kmo] at kc1; exact absurd kc1 (by decide)))]) (fun i9 => by rw [ef2317, q_setz (Or.inl (fun q => by rw [q, kmo] at kc2; exact absurd kc2 (by decide)))])
            have g2338 : k_b1 f f2317 cs x1634 := k_b1_tr hbs (fun i9 => by rw [ef2317, q_setz (Or.inl (fun q => by rw [q, kmo] at kcs; exact absurd kcs (by decide)))])
            refine q_ald_n cx dX12_command_66 rfl (lv_at hl 1 rfl) ?_
            refine q_cVv (As := []) (rest := []) cx hB (fun _ h => h) hN hmo kmo (by decide) rfl (f_mon l g hN hB.2.1 B mo hmo kmo bu hbu kbu tn (by omega) (by omega) ss (by omega) (by omega) z2319 z2320 z2329 g2334 g2335) q_cX12_140 q_dX12_goOn (by decide) rfl rfl hl.1 rfl (Nat.le_of_ble_eq_true rfl) dX12_command_67 (fun H locs f2339 h2341 hF hB => ?_)
            obtain ⟨t2342, g2343⟩ := h2341
            have z2344 : q_is (q_z f2339 mo 3) tn := Eq.trans (hF.z hmo (by rw [kmo]; rfl)) z2319
            have z2345 : q_is (q_z f2339 mo 8) 0 := Eq.trans (hF.z hmo (by rw [kmo]; rfl)) z2321
            have z2346 : q_is (q_z f2339 mo 9) (-1) := Eq.trans (hF.z hmo (by rw [kmo]; rfl)) z2322
            have z2347 : q_is (q_z f2339 sr 0) xc := Eq.trans (hF.z hsr (by rw [ksr]; rfl)) z2323
            have z2348 : q_is (q_z f2339 mo 37) xo := Eq.trans (hF.z hmo (by rw [kmo]; rfl)) z2324
            have z2349 : q_is (q_z f2339 mo 35) x1634 := Eq.trans (hF.z hmo (by rw [kmo]; rfl)) z2325
            have z2350 : q_is (q_z f2339 mo 36) (xw + 1) := Eq.trans (hF.z hmo (by rw [kmo]; rfl)) z2318
            have z2351 : q_ir (q_r f2339 mo 13) sr := Eq.trans (hF.r hmo (by rw [kmo]; rfl)) z2327
            have z2352 : q_ir (q_r f2339 mo 18) nm := Eq.trans (hF.r hmo (by rw [kmo]; rfl)) z2328
            have z2353 : q_ir (q_r f2339 mo 1) bu := Eq.trans (hF.r hmo (by rw [kmo]; rfl)) z2329
            have z2354 : q_ir (q_r f2339 mo 29) cs := Eq.trans (hF.r hmo (by rw [kmo]; rfl)) z2330
            have z2355 : q_ir (q_r f2339 mo 30) c1 := Eq.trans (hF.r hmo (by rw [kmo]; rfl)) z2331
            have z2356 : q_ir (q_r f2339 mo 31) c2 := Eq.trans (hF.r hmo (by rw [kmo]; rfl)) z2332
            have z2357 : q_ir (q_r f2339 mo 32) c3 := Eq.trans (hF.r hmo (by rw [kmo]; rfl)) z2333
            have g2358 : tk_ub f2339 bu B tn := tk_ub_tr g2335 (fun i9 => hF.z hbu (by rw [kbu]; rfl))
            have g2359 : tk_nq f2339 nm nl9 := tk_nq_tr g2336 (fun i9 => hF.j hnm (by rw [knm]; rfl))
            have g2360 : k_bl f f2339 c1 c2 60 := k_bl_tr g2337 (fun i9 => hF.z hc1 (by rw [kc1]; rfl)) (fun i9 => hF.z hc2 (by rw [kc2]; rfl))
            have g2361 : k_b1 f f2339 cs x1634 := k_b1_tr g2338 (fun i9 => hF.z hcs (by rw [kcs]; rfl))
            obtain ⟨x2362, ex2362⟩ : ∃ zz, q_is (q_z f2339 mo 5) zz := ⟨_, q_isr _⟩
            obtain ⟨lx2362, ux2362⟩ := q_isb ex2362 (q_fib hB.2.1 hmo kmo (by decide) rfl)
            obtain ⟨-, l0x2362, u0x2362, -, -⟩ := tk_tr_n g2343 ex2362
            refine q_ald_n cx dX12_command_70 rfl (lv_at hl 1 rfl) ?_
            refine q_gX12_494 cx hB hmo kmo z2349 dX12_command_71 (fun lb2363 ub2363 => ?_)
            refine lv_istore_n (lv' := [(2, .int (q_i x1634)), (1, .int (q_i 3)), (0, .ref mo)]) cx.1 cx.2.1 dX12_command_74 rfl hl (by decide) rfl (fun ls hl => ?_)
            refine q_ald_n cx dX12_command_75 rfl (lv_at hl 2 rfl) ?_
            refine q_gX12_51 cx hB hmo kmo z2354 dX12_command_76 (fun hb2364 kb2364 => ?_)
            refine q_ild_n cx dX12_command_79 rfl (lv_at hl 0 rfl) ?_
            refine q_ild_n cx dX12_command_80 rfl (lv_at hl 1 rfl) ?_
            refine q_iast (lo := 0) (hi := 7) (n := 60) cx hB hcs kcs (by decide) rfl rfl (by omega) (by omega) (by decide) rfl ⟨by decide, by decide⟩ (by decide) (by decide) (q_inWi (lo := 0) (hi := 58) (by decide) (by omega) (by omega)) dX12_command_81 (fun H locs f2365 ef2365 z2366 hB => ?_)
            have z2367 : q_is (q_z f2365 mo 3) tn := by rw [ef2365, q_setz (Or.inl (fun q => by rw [q, kcs] at kmo; exact absurd kmo (by decide)))]; exact z2344
            have z2368 : q_is (q_z f2365 mo 8) 0 := by rw [ef2365, q_setz (Or.inl (fun q => by rw [q, kcs] at kmo; exact absurd kmo (by decide)))]; exact z2345
            have z2369 : q_is (q_z f2365 mo 9) (-1) := by rw [ef2365, q_setz (Or.inl (fun q => by rw [q, kcs] at kmo; exact absurd kmo (by decide)))]; exact z2346
            have z2370 : q_is (q_z f2365 sr 0) xc := by rw [ef2365, q_setz (Or.inl (fun q => by rw [q, kcs] at ksr; exact absurd ksr (by decide)))]; exact z2347
            have z2371 : q_is (q_z f2365 mo 37) xo := by rw [ef2365, q_setz (Or.inl (fun q => by rw [q, kcs] at kmo; exact absurd kmo (by decide)))]; exact z2348
            have z2372 : q_is (q_z f2365 mo 35) x1634 := by rw [ef2365, q_setz (Or.inl (fun q => by rw [q, kcs] at kmo; exact absurd kmo (by decide)))]; exact z2349
            have z2373 : q_is (q_z f2365 mo 36) (xw + 1) := by rw [ef2365, q_setz (Or.inl (fun q => by rw [q, kcs] at kmo; exact absurd kmo (by decide)))]; exact z2350
            have z2374 : q_is (q_z f2365 mo 5) x2362 := by rw [ef2365, q_setz (Or.inl (fun q => by rw [q, kcs] at kmo; exact absurd kmo (by decide)))]; exact ex2362
            have z2375 : q_ir (q_r f2365 mo 13) sr := by rw [ef2365, q_setr (Or.inl (fun q => by rw [q, kcs] at kmo; exact absurd kmo (by decide)))]; exact z2351
            have z2376 : q_ir (q_r f2365 mo 18) nm := by rw [ef2365, q_setr (Or.inl (fun q => by rw [q, kcs] at kmo; exact absurd kmo (by decide)))]; exact z2352
            have z2377 : q_ir (q_r f2365 mo 1) bu := by rw [ef2365, q_setr (Or.inl (fun q => by rw [q, kcs] at kmo; exact absurd kmo (by decide)))]; exact z2353
            have z2378 : q_ir (q_r f2365 mo 29) cs := by rw [ef2365, q_setr (Or.inl (fun q => by rw [q, kcs] at kmo; exact absurd kmo (by decide)))]; exact z2354
            have z2379 : q_ir (q_r f2365 mo 30) c1 := by rw [ef2365, q_setr (Or.inl (fun q => by rw [q, kcs] at kmo; exact absurd kmo (by decide)))]; exact z2355
            have z2380 : q_ir (q_r f2365 mo 31) c2 := by rw [ef2365, q_setr (Or.inl (fun q => by rw [q, kcs] at kmo; exact absurd kmo (by decide)))]; exact z2356
            have z2381 : q_ir (q_r f2365 mo 32) c3 := by rw [ef2365, q_setr (Or.inl (fun q => by rw [q, kcs] at kmo; exact absurd kmo (by decide)))]; exact z2357
            have g2382 : tk_ub f2365 bu B tn := tk_ub_tr g2358 (fun i9 => by rw [ef2365, q_setz (Or.inl (fun q => by rw [q, kcs] at kbu; exact absurd kbu (by decide)))])
            have g2383 : tk_nq f2365 nm nl9 := tk_nq_tr g2359 (fun i9 => by rw [ef2365, q_setj (Or.inl (fun q => by rw [q, kcs] at knm; exact absurd knm (by decide)))])
            have g2384 : k_bl f f2365 c1 c2 60 := k_bl_tr g2360 (fun i9 => by rw [ef2365, q_setz (Or.inl (fun q => by rw [q, kcs] at kc1; exact absurd kc1 (by decide)))]) (fun i9 => by rw [ef2365, q_setz (Or.inl (fun q => by rw [q, kcs] at kc2; exact absurd kc2 (by decide)))])
            have g2385 : k_b1 f f2365 cs x1634 := k_b1_s g2361 ef2365 (by omega)
            have g2386 : tk_tr f2365 mo B tn := tk_tr_tr g2343 (by rw [ef2365, q_setz (Or.inl (fun q => by rw [q, kcs] at kmo; exact absurd kmo (by decide)))]) (by rw [ef2365, q_setz (Or.inl (fun q => by rw [q, kcs] at kmo; exact absurd kmo (by decide)))]) (by rw [ef2365, q_setz (Or.inl (fun q => by rw [q, kcs] at kmo; exact absurd kmo (by decide)))]) (by rw [ef2365, q_setz (Or.inl (fun q => by rw [q, kcs] at kmo; exact absurd kmo (by decide)))]) (by rw [ef2365, q_setj (Or.inl (fun q => by rw [q, kcs] at kmo; exact absurd kmo (by decide)))])
            refine q_ald_n cx dX12_command_82 rfl (lv_at hl 2 rfl) ?_
            refine q_ild_n cx dX12_command_83 rfl (lv_at hl 0 rfl) ?_
            refine q_ild_n cx dX12_command_84 rfl (lv_at hl 1 rfl) ?_
            refine q_cVv (As := [.int (q_i x1634), .int (q_i 3)]) (rest := []) cx hB (fun _ h => h) hN hmo kmo (by decide) rfl (f_mreadsNumbers3 l g hN hB.2.1 B nl9 mo hmo kmo x1634 (by omega) (by omega) 3 (by decide) (by decide) sr hsr ksr nm hnm knm bu hbu kbu c1 hc1 kc1 c2 hc2 kc2 c3 hc3 kc3 tn (by omega) (by omega) x2362 (by omega) (by omega) xc (by omega) (by omega) z2367 z2374 z2368 z2369 z2370 z2375 z2376 z2377 z2379 z2380 z2381 hp0 g2386 g2382 g2383) q_cX12_497 q_dX12_readsNumbers (by decide) rfl rfl hl.1 rfl (Nat.le_of_ble_eq_true rfl) dX12_command_85 (fun H locs f2387 h2389 hF hB => ?_)
            rcases h2389 with h2390 | h2391
            · obtain ⟨z2392, z2393, t2394, t2395, t2396, g2397⟩ := h2390
              have z2398 : q_is (q_z f2387 mo 3) tn := Eq.trans (hF.z hmo (by rw [kmo]; rfl)) z2367
              have z2399 : q_is (q_z f2387 sr 0) xc := Eq.trans (hF.z hsr (by rw [ksr]; rfl)) z2370
              have z2400 : q_is (q_z f2387 mo 37) xo := Eq.trans (hF.z hmo (by rw [kmo]; rfl)) z2371
              have z2401 : q_is (q_z f2387 mo 35) x1634 := Eq.trans (hF.z hmo (by rw [kmo]; rfl)) z2372
              have z2402 : q_is (q_z f2387 mo 36) (xw + 1) := Eq.trans (hF.z hmo (by rw [kmo]; rfl)) z2373
              have z2403 : q_is (q_z f2387 cs (Int.toNat x1634)) 3 := Eq.trans (hF.z hcs (by rw [kcs]; rfl)) z2366
              have z2404 : q_ir (q_r f2387 mo 13) sr := Eq.trans (hF.r hmo (by rw [kmo]; rfl)) z2375
              have z2405 : q_ir (q_r f2387 mo 18) nm := Eq.trans (hF.r hmo (by rw [kmo]; rfl)) z2376
              have z2406 : q_ir (q_r f2387 mo 1) bu := Eq.trans (hF.r hmo (by rw [kmo]; rfl)) z2377
              have z2407 : q_ir (q_r f2387 mo 29) cs := Eq.trans (hF.r hmo (by rw [kmo]; rfl)) z2378
              have z2408 : q_ir (q_r f2387 mo 30) c1 := Eq.trans (hF.r hmo (by rw [kmo]; rfl)) z2379
              have z2409 : q_ir (q_r f2387 mo 31) c2 := Eq.trans (hF.r hmo (by rw [kmo]; rfl)) z2380
              have z2410 : q_ir (q_r f2387 mo 32) c3 := Eq.trans (hF.r hmo (by rw [kmo]; rfl)) z2381
              have g2411 : tk_ub f2387 bu B tn := tk_ub_tr g2382 (fun i9 => hF.z hbu (by rw [kbu]; rfl))
              have g2412 : tk_nq f2387 nm nl9 := tk_nq_tr g2383 (fun i9 => hF.j hnm (by rw [knm]; rfl))
              have g2413 : k_b1 f f2387 cs x1634 := k_b1_tr g2385 (fun i9 => hF.z hcs (by rw [kcs]; rfl))
              obtain ⟨x2414, ex2414⟩ : ∃ zz, q_is (q_z f2387 mo 5) zz := ⟨_, q_isr _⟩
              obtain ⟨lx2414, ux2414⟩ := q_isb ex2414 (q_fib hB.2.1 hmo kmo (by decide) rfl)
              obtain ⟨-, l0x2414, u0x2414, -, -⟩ := tk_tr_n g2397 ex2414
              have hb9 : k_bl f f2387 c1 c2 x1634 := k_bl_cat g2384 t2396 (by omega)
              refine q_ald_n cx dX12_command_88 rfl (lv_at hl 2 rfl) ?_
              refine q_cVi (As := []) (rest := []) cx hB (fun _ h => h) hN hmo kmo (by decide) rfl (f_misGood l g hN hB.2.1 mo hmo kmo z2392) q_cX12_130 q_dX12_isGood (by decide) rfl rfl hl.1 rfl (Nat.le_of_ble_eq_true rfl) dX12_command_89 (fun y2416 H locs f2415 ry2416 h2417 hF hB => ?_)
              obtain ⟨rfl, qy2416⟩ := h2417
              subst qy2416
              refine q_ifne (tgt := 96) cx ⟨by decide, by decide⟩ dX12_command_92 (by decide) (fun c2418 => ?_) (fun c2418 => ?_)
              · refine q_ald_n cx dX12_command_96 rfl (lv_at hl 2 rfl) ?_
                refine lv_dup cx.1 cx.2.1 dX12_command_97 rfl ?_
                refine q_gX12_494 cx hB hmo kmo z2401 dX12_command_98 (fun lb2419 ub2419 => ?_)
                refine q_iconst cx dX12_command_101 ?_
                refine q_iadd cx dX12_command_102 ?_
                refine q_pX12_494 cx hB hmo kmo ⟨by omega, by omega⟩ (by omega) (by omega) rfl dX12_command_103 (fun H locs f2420 ef2420 z2421 hB => ?_)
                have z2422 : q_is (q_z f2420 mo 3) tn := by rw [ef2420, q_setz (Or.inr (by decide))]; exact z2398
                have z2423 : q_is (q_z f2420 sr 0) xc := by rw [ef2420, q_setz (Or.inr (by decide))]; exact z2399
                have z2424 : q_is (q_z f2420 mo 37) xo := by rw [ef2420, q_setz (Or.inr (by decide))]; exact z2400
                have z2425 : q_is (q_z f2420 mo 36) (xw + 1) := by rw [ef2420, q_setz (Or.inr (by decide))]; exact z2402
                have z2426 : q_is (q_z f2420 cs (Int.toNat x1634)) 3 := by rw [ef2420, q_setz (Or.inl (fun q => by rw [q, kmo] at kcs; exact absurd kcs (by decide)))]; exact z2403
                have z2427 : q_is (q_z f2420 mo 8) 0 := by rw [ef2420, q_setz (Or.inr (by decide))]; exact z2392
                have z2428 : q_is (q_z f2420 mo 9) (-1) := by rw [ef2420, q_setz (Or.inr (by decide))]; exact z2393
                have z2429 : q_is (q_z f2420 mo 5) x2414 := by rw [ef2420, q_setz (Or.inr (by decide))]; exact ex2414
                have z2430 : q_ir (q_r f2420 mo 13) sr := by rw [ef2420, q_setr (Or.inr (by decide))]; exact z2404
                have z2431 : q_ir (q_r f2420 mo 18) nm := by rw [ef2420, q_setr (Or.inr (by decide))]; exact z2405
                have z2432 : q_ir (q_r f2420 mo 1) bu := by rw [ef2420, q_setr (Or.inr (by decide))]; exact z2406
                have z2433 : q_ir (q_r f2420 mo 29) cs := by rw [ef2420, q_setr (Or.inr (by decide))]; exact z2407
                have z2434 : q_ir (q_r f2420 mo 30) c1 := by rw [ef2420, q_setr (Or.inr (by decide))]; exact z2408
                have z2435 : q_ir (q_r f2420 mo 31) c2 := by rw [ef2420, q_setr (Or.inr (by decide))]; exact z2409
                have z2436 : q_ir (q_r f2420 mo 32) c3 := by rw [ef2420, q_setr (Or.inr (by decide))]; exact z2410
                have g2437 : tk_ub f2420 bu B tn := tk_ub_tr g2411 (fun i9 => by rw [ef2420, q_setz (Or.inl (fun q => by rw [q, kmo] at kbu; exact absurd kbu (by decide)))])
                have g2438 : tk_nq f2420 nm nl9 := tk_nq_tr g2412 (fun i9 => by rw [ef2420, q_setj (Or.inl (fun q => by rw [q, kmo] at knm; exact absurd knm (by decide)))])
                have g2439 : k_b1 f f2420 cs x1634 := k_b1_tr g2413 (fun i9 => by rw [ef2420, q_setz (Or.inl (fun q => by rw [q, kmo] at kcs; exact absurd kcs (by decide)))])
                have g2440 : tk_tr f2420 mo B tn := tk_tr_tr g2397 (by rw [ef2420, q_setz (Or.inr (by decide))]) (by rw [ef2420, q_setz (Or.inr (by decide))]) (by rw [ef2420, q_setz (Or.inr (by decide))]) (by rw [ef2420, q_setz (Or.inr (by decide))]) (by rw [ef2420, q_setj (Or.inr (by decide))])
                have g2441 : k_cc 3 f2420 c1 c2 (Int.toNat x1634) := k_cc_tr t2395 (fun i9 => by rw [ef2420, q_setz (Or.inl (fun q => by rw [q, kmo] at kc1; exact absurd kc1 (by decide)))]) (fun i9 => by rw [ef2420, q_setz (Or.inl (fun q => by rw [q, kmo] at kc2; exact absurd kc2 (by decide)))])
                have g2442 : k_bl f f2420 c1 c2 x1634 := k_bl_tr hb9 (fun i9 => by rw [ef2420, q_setz (Or.inl (fun q => by rw [q, kmo] at kc1; exact absurd kc1 (by decide)))]) (fun i9 => by rw [ef2420, q_setz (Or.inl (fun q => by rw [q, kmo] at kc2; exact absurd kc2 (by decide)))])
                refine q_ald_n cx dX12_command_106 rfl (lv_at hl 2 rfl) ?_
                refine lv_dup cx.1 cx.2.1 dX12_command_107 rfl ?_
                refine q_gX12_488 cx hB hmo kmo z2424 dX12_command_108 (fun lb2443 ub2443 => ?_)
                refine q_ild_n cx dX12_command_111 rfl (lv_at hl 1 rfl) ?_
                refine q_bipush cx dX12_command_112 rfl ?_
                refine q_icne (tgt := 121) cx ⟨by decide, by decide⟩ ⟨by decide, by decide⟩ dX12_command_114 (by decide) (fun c2444 => ?_) (fun c2444 => ?_)
                · refine q_iconst cx dX12_command_121 ?_
                  refine q_cSi (As := [.int (q_i 0)]) (rest := [.int (q_i xo), .ref mo]) cx hB (fun _ h => h) hN (r_truth0 l g hN hB.2.1 0 (by decide) (by decide)) q_cX12_78 q_dX12_truth (by decide) rfl rfl hl.1 rfl (Nat.le_of_ble_eq_true rfl) dX12_command_122 (fun y2446 H locs f2445 ry2446 h2447 hF hB => ?_)
                  obtain ⟨rfl, qy2446⟩ := h2447
                  subst qy2446
                  refine q_iadd cx dX12_command_125 ?_
                  refine q_pX12_488 cx hB hmo kmo ⟨by omega, by omega⟩ (by omega) (by omega) rfl dX12_command_126 (fun H locs f2448 ef2448 z2449 hB => ?_)
                  have z2450 : q_is (q_z f2448 mo 3) tn := by rw [ef2448, q_setz (Or.inr (by decide))]; exact z2422
                  have z2451 : q_is (q_z f2448 sr 0) xc := by rw [ef2448, q_setz (Or.inr (by decide))]; exact z2423
                  have z2452 : q_is (q_z f2448 mo 36) (xw + 1) := by rw [ef2448, q_setz (Or.inr (by decide))]; exact z2425
                  have z2453 : q_is (q_z f2448 cs (Int.toNat x1634)) 3 := by rw [ef2448, q_setz (Or.inl (fun q => by rw [q, kmo] at kcs; exact absurd kcs (by decide)))]; exact z2426
                  have z2454 : q_is (q_z f2448 mo 8) 0 := by rw [ef2448, q_setz (Or.inr (by decide))]; exact z2427
                  have z2455 : q_is (q_z f2448 mo 9) (-1) := by rw [ef2448, q_setz (Or.inr (by decide))]; exact z2428
                  have z2456 : q_is (q_z f2448 mo 5) x2414 := by rw [ef2448, q_setz (Or.inr (by decide))]; exact z2429
                  have z2457 : q_is (q_z f2448 mo 35) (x1634 + 1) := by rw [ef2448, q_setz (Or.inr (by decide))]; exact z2421
                  have z2458 : q_ir (q_r f2448 mo 13) sr := by rw [ef2448, q_setr (Or.inr (by decide))]; exact z2430
                  have z2459 : q_ir (q_r f2448 mo 18) nm := by rw [ef2448, q_setr (Or.inr (by decide))]; exact z2431
                  have z2460 : q_ir (q_r f2448 mo 1) bu := by rw [ef2448, q_setr (Or.inr (by decide))]; exact z2432
                  have z2461 : q_ir (q_r f2448 mo 29) cs := by rw [ef2448, q_setr (Or.inr (by decide))]; exact z2433
                  have z2462 : q_ir (q_r f2448 mo 30) c1 := by rw [ef2448, q_setr (Or.inr (by decide))]; exact z2434
                  have z2463 : q_ir (q_r f2448 mo 31) c2 := by rw [ef2448, q_setr (Or.inr (by decide))]; exact z2435
                  have z2464 : q_ir (q_r f2448 mo 32) c3 := by rw [ef2448, q_setr (Or.inr (by decide))]; exact z2436
                  have g2465 : tk_ub f2448 bu B tn := tk_ub_tr g2437 (fun i9 => by rw [ef2448, q_setz (Or.inl (fun q => by rw [q, kmo] at kbu; exact absurd kbu (by decide)))])
                  have g2466 : tk_nq f2448 nm nl9 := tk_nq_tr g2438 (fun i9 => by rw [ef2448, q_setj (Or.inl (fun q => by rw [q, kmo] at knm; exact absurd knm (by decide)))])
                  have g2467 : k_b1 f f2448 cs x1634 := k_b1_tr g2439 (fun i9 => by rw [ef2448, q_setz (Or.inl (fun q => by rw [q, kmo] at kcs; exact absurd kcs (by decide)))])
                  have g2468 : tk_tr f2448 mo B tn := tk_tr_tr g2440 (by rw [ef2448, q_setz (Or.inr (by decide))]) (by rw [ef2448, q_setz (Or.inr (by decide))]) (by rw [ef2448, q_setz (Or.inr (by decide))]) (by rw [ef2448, q_setz (Or.inr (by decide))]) (by rw [ef2448, q_setj (Or.inr (by decide))])
                  have g2469 : k_cc 3 f2448 c1 c2 (Int.toNat x1634) := k_cc_tr g2441 (fun i9 => by rw [ef2448, q_setz (Or.inl (fun q => by rw [q, kmo] at kc1; exact absurd kc1 (by decide)))]) (fun i9 => by rw [ef2448, q_setz (Or.inl (fun q => by rw [q, kmo] at kc2; exact absurd kc2 (by decide)))])
                  have g2470 : k_bl f f2448 c1 c2 x1634 := k_bl_tr g2442 (fun i9 => by rw [ef2448, q_setz (Or.inl (fun q => by rw [q, kmo] at kc1; exact absurd kc1 (by decide)))]) (fun i9 => by rw [ef2448, q_setz (Or.inl (fun q => by rw [q, kmo] at kc2; exact absurd kc2 (by decide)))])
                  have hsp : k_stp 3 = 0 := rfl
                  have hsc9 : q_sc f2448 mo cs c1 c2 := k_sc_add (c := 3) hsc ex1634 hf5 hf6 z2457 z2452 (Eq.trans z2449 (by rw [hsp] <;> omega)) (by omega) z2453 g2469 g2467 g2470 (by rw [hsp] <;> omega) (by rw [hsp] <;> omega)
                  refine q_vret cx hr hlk hB dX12_command_129 ?_
                  exact (Or.inl ⟨z2454, z2455, (Eq.trans z2449 (by omega)), z2452, (tk_xok (tk_cm_go (d1 := xo) (c1 := xw + 1) t2307 (by decide) (by omega) (by omega) (Eq.trans (Eq.symm ex2362) t2342) (tk_okx t2394 ex2414) (tk_ifn (by decide)) rfl) z2456 (Eq.trans z2449 (by omega)) (Eq.trans z2452 (by omega))), (by omega), hsc9, g2468⟩)
                · exact absurd c2444 (by omega)
              · exact absurd c2418 (by omega)
            · obtain ⟨lz2471, uz2471, t2472, g2473⟩ := h2391
              have z2474 : q_is (q_z f2387 mo 3) tn := Eq.trans (hF.z hmo (by rw [kmo]; rfl)) z2367
              have z2475 : q_is (q_z f2387 sr 0) xc := Eq.trans (hF.z hsr (by rw [ksr]; rfl)) z2370
              have z2476 : q_is (q_z f2387 mo 37) xo := Eq.trans (hF.z hmo (by rw [kmo]; rfl)) z2371
              have z2477 : q_is (q_z f2387 mo 35) x1634 := Eq.trans (hF.z hmo (by rw [kmo]; rfl)) z2372
              have z2478 : q_is (q_z f2387 mo 36) (xw + 1) := Eq.trans (hF.z hmo (by rw [kmo]; rfl)) z2373
              have z2479 : q_is (q_z f2387 cs (Int.toNat x1634)) 3 := Eq.trans (hF.z hcs (by rw [kcs]; rfl)) z2366
              have z2480 : q_ir (q_r f2387 mo 13) sr := Eq.trans (hF.r hmo (by rw [kmo]; rfl)) z2375
              have z2481 : q_ir (q_r f2387 mo 18) nm := Eq.trans (hF.r hmo (by rw [kmo]; rfl)) z2376
              have z2482 : q_ir (q_r f2387 mo 1) bu := Eq.trans (hF.r hmo (by rw [kmo]; rfl)) z2377
              have z2483 : q_ir (q_r f2387 mo 29) cs := Eq.trans (hF.r hmo (by rw [kmo]; rfl)) z2378
              have z2484 : q_ir (q_r f2387 mo 30) c1 := Eq.trans (hF.r hmo (by rw [kmo]; rfl)) z2379
              have z2485 : q_ir (q_r f2387 mo 31) c2 := Eq.trans (hF.r hmo (by rw [kmo]; rfl)) z2380
              have z2486 : q_ir (q_r f2387 mo 32) c3 := Eq.trans (hF.r hmo (by rw [kmo]; rfl)) z2381
              have g2487 : tk_ub f2387 bu B tn := tk_ub_tr g2382 (fun i9 => hF.z hbu (by rw [kbu]; rfl))
              have g2488 : tk_nq f2387 nm nl9 := tk_nq_tr g2383 (fun i9 => hF.j hnm (by rw [knm]; rfl))
              have g2489 : k_b1 f f2387 cs x1634 := k_b1_tr g2385 (fun i9 => hF.z hcs (by rw [kcs]; rfl))
              obtain ⟨x2490, ex2490⟩ : ∃ zz, q_is (q_z f2387 mo 8) zz := ⟨_, q_isr _⟩
              obtain ⟨lx2490, ux2490⟩ := q_isb ex2490 ⟨lz2471, uz2471⟩
              obtain ⟨x2491, ex2491⟩ : ∃ zz, q_is (q_z f2387 mo 5) zz := ⟨_, q_isr _⟩
              obtain ⟨lx2491, ux2491⟩ := q_isb ex2491 (q_fib hB.2.1 hmo kmo (by decide) rfl)
              obtain ⟨x2492, ex2492⟩ : ∃ zz, q_is (q_z f2387 mo 9) zz := ⟨_, q_isr _⟩
              obtain ⟨lx2492, ux2492⟩ := q_isb ex2492 (q_fib hB.2.1 hmo kmo (by decide) rfl)
              obtain ⟨-, l0x2491, u0x2491, -, -⟩ := tk_tr_n g2473 ex2491
              refine q_ald_n cx dX12_command_88 rfl (lv_at hl 2 rfl) ?_
              refine q_cVi (As := []) (rest := []) cx hB (fun _ h => h) hN hmo kmo (by decide) rfl (r_isGood1 l g hN hB.2.1 mo hmo kmo x2490 (by omega) (by omega) ex2490) q_cX12_130 q_dX12_isGood (by decide) rfl rfl hl.1 rfl (Nat.le_of_ble_eq_true rfl) dX12_command_89 (fun y2494 H locs f2493 ry2494 h2495 hF hB => ?_)
              obtain ⟨rfl, qy2494⟩ := h2495
              subst qy2494
              refine q_ifne (tgt := 96) cx ⟨by decide, by decide⟩ dX12_command_92 (by decide) (fun c2496 => ?_) (fun c2496 => ?_)
              · exact absurd c2496 (by omega)
              · refine q_vret cx hr hlk hB dX12_command_95 ?_
                exact (Or.inr (Or.inr ⟨(q_isl ex2490 (by omega)), (q_isu ex2490 (by omega)), (tk_erp (tk_cm_er t2307 (by decide) (by omega) (by omega) (Eq.trans (Eq.symm ex2362) t2342) (tk_erx t2472 ex2490 ex2492)) ex2490 ex2492), g2473⟩))
          · exact absurd c2315 (by omega)
        · refine q_ald_n cx dX12_command_43 rfl (lv_at hl 1 rfl) ?_
          refine q_iconst cx dX12_command_44 ?_
          refine q_cVv (As := [.int (q_i 5)]) (rest := []) cx hB (fun _ h => h) hN hmo kmo (by decide) rfl (f_mwrongk l g hN hB.2.1 mo hmo kmo 5 (by decide) (by decide) ss (by omega) (by omega) 1 (by decide) (by decide) hf1 z2306 hf2 hf3) q_cX12_137 q_dX12_wrong (by decide) rfl rfl hl.1 rfl (Nat.le_of_ble_eq_true rfl) dX12_command_45 (fun H locs f2497 h2499 hF hB => ?_)
          obtain ⟨z2500, z2501⟩ := h2499
          have z2502 : q_is (q_z f2497 mo 3) tn := Eq.trans (hF.z hmo (by rw [kmo]; rfl)) hf0
          have z2503 : q_is (q_z f2497 mo 5) ss := Eq.trans (hF.z hmo (by rw [kmo]; rfl)) hf1
          have z2504 : q_is (q_z f2497 sr 0) xc := Eq.trans (hF.z hsr (by rw [ksr]; rfl)) hf4
          have z2505 : q_is (q_z f2497 mo 37) xo := Eq.trans (hF.z hmo (by rw [kmo]; rfl)) hf5
          have z2506 : q_is (q_z f2497 mo 36) xw := Eq.trans (hF.z hmo (by rw [kmo]; rfl)) hf6
          have z2507 : q_is (q_z f2497 mo 35) x1634 := Eq.trans (hF.z hmo (by rw [kmo]; rfl)) ex1634
          have z2508 : q_is (q_z f2497 mo 6) 1 := Eq.trans (hF.z hmo (by rw [kmo]; rfl)) z2306
          have z2509 : q_ir (q_r f2497 mo 13) sr := Eq.trans (hF.r hmo (by rw [kmo]; rfl)) hr0
          have z2510 : q_ir (q_r f2497 mo 18) nm := Eq.trans (hF.r hmo (by rw [kmo]; rfl)) hr1
          have z2511 : q_ir (q_r f2497 mo 1) bu := Eq.trans (hF.r hmo (by rw [kmo]; rfl)) hr2
          have z2512 : q_ir (q_r f2497 mo 29) cs := Eq.trans (hF.r hmo (by rw [kmo]; rfl)) hr3
          have z2513 : q_ir (q_r f2497 mo 30) c1 := Eq.trans (hF.r hmo (by rw [kmo]; rfl)) hr4
          have z2514 : q_ir (q_r f2497 mo 31) c2 := Eq.trans (hF.r hmo (by rw [kmo]; rfl)) hr5
          have z2515 : q_ir (q_r f2497 mo 32) c3 := Eq.trans (hF.r hmo (by rw [kmo]; rfl)) hr6
          have g2516 : tk_tr f2497 mo B tn := tk_tr_tr htr (hF.z hmo (by rw [kmo]; rfl)) (hF.z hmo (by rw [kmo]; rfl)) (hF.z hmo (by rw [kmo]; rfl)) (hF.z hmo (by rw [kmo]; rfl)) (hF.j hmo (by rw [kmo]; rfl))
          have g2517 : tk_ub f2497 bu B tn := tk_ub_tr hub (fun i9 => hF.z hbu (by rw [kbu]; rfl))
          have g2518 : tk_nq f2497 nm nl9 := tk_nq_tr hrn (fun i9 => hF.j hnm (by rw [knm]; rfl))
          have g2519 : q_sc f2497 mo cs c1 c2 := q_sc_tr hsc (hF.z hmo (by rw [kmo]; rfl)) (hF.z hmo (by rw [kmo]; rfl)) (hF.z hmo (by rw [kmo]; rfl)) (fun i9 => hF.z hcs (by rw [kcs]; rfl)) (fun i9 => hF.z hc1 (by rw [kc1]; rfl)) (fun i9 => hF.z hc2 (by rw [kc2]; rfl))
          have g2520 : k_bl f f2497 c1 c2 60 := k_bl_tr hbx (fun i9 => hF.z hc1 (by rw [kc1]; rfl)) (fun i9 => hF.z hc2 (by rw [kc2]; rfl))
          have g2521 : k_b1 f f2497 cs x1634 := k_b1_tr hbs (fun i9 => hF.z hcs (by rw [kcs]; rfl))
          refine q_ald_n cx dX12_command_48 rfl (lv_at hl 1 rfl) ?_
          refine q_cVi (As := []) (rest := []) cx hB (fun _ h => h) hN hmo kmo (by decide) rfl (r_isGood1 l g hN hB.2.1 mo hmo kmo 5 (by decide) (by decide) z2500) q_cX12_130 q_dX12_isGood (by decide) rfl rfl hl.1 rfl (Nat.le_of_ble_eq_true rfl) dX12_command_49 (fun y2523 H locs f2522 ry2523 h2524 hF hB => ?_)
          obtain ⟨rfl, qy2523⟩ := h2524
          subst qy2523
          refine q_ifne (tgt := 56) cx ⟨by decide, by decide⟩ dX12_command_52 (by decide) (fun c2525 => ?_) (fun c2525 => ?_)
          · exact absurd c2525 (by omega)
          · refine q_vret cx hr hlk hB dX12_command_55 ?_
            exact (Or.inr (Or.inr ⟨(q_isl z2500 (by omega)), (q_isu z2500 (by omega)), (tk_cm_e5 t2307 (by decide) (by omega) (by omega) z2500 z2501), g2516⟩))
      · exact absurd c2309 (by omega)
    · exact absurd c2308 (by omega)
  · obtain ⟨rfl, qy1636, z2526, t2527⟩ := h1642
    subst qy1636
    refine lv_istore_n (lv' := [(1, .int (q_i 4)), (0, .ref mo)]) cx.1 cx.2.1 dX12_command_4 rfl hl (by decide) rfl (fun ls hl => ?_)
    refine q_ild_n cx dX12_command_5 rfl (lv_at hl 0 rfl) ?_
    refine q_iconst cx dX12_command_6 ?_
    refine q_icne (tgt := 15) cx ⟨by decide, by decide⟩ ⟨by decide, by decide⟩ dX12_command_7 (by decide) (fun c2528 => ?_) (fun c2528 => ?_)
    · refine q_ild_n cx dX12_command_15 rfl (lv_at hl 0 rfl) ?_
      refine q_bipush cx dX12_command_16 rfl ?_
      refine q_icne (tgt := 34) cx ⟨by decide, by decide⟩ ⟨by decide, by decide⟩ dX12_command_18 (by decide) (fun c2529 => ?_) (fun c2529 => ?_)
      · refine q_ald_n cx dX12_command_34 rfl (lv_at hl 1 rfl) ?_
        refine q_gX12_491 cx hB hmo kmo hf6 dX12_command_35 (fun lb2530 ub2530 => ?_)
        refine q_bipush cx dX12_command_38 rfl ?_
        refine q_icne (tgt := 48) cx ⟨by omega, by omega⟩ ⟨by decide, by decide⟩ dX12_command_40 (by decide) (fun c2531 => ?_) (fun c2531 => ?_)
        · refine q_ald_n cx dX12_command_48 rfl (lv_at hl 1 rfl) ?_
          refine q_cVi (As := []) (rest := []) cx hB (fun _ h => h) hN hmo kmo (by decide) rfl (f_misGood l g hN hB.2.1 mo hmo kmo hf2) q_cX12_130 q_dX12_isGood (by decide) rfl rfl hl.1 rfl (Nat.le_of_ble_eq_true rfl) dX12_command_49 (fun y2533 H locs f2532 ry2533 h2534 hF hB => ?_)
          obtain ⟨rfl, qy2533⟩ := h2534
          subst qy2533
          refine q_ifne (tgt := 56) cx ⟨by decide, by decide⟩ dX12_command_52 (by decide) (fun c2535 => ?_) (fun c2535 => ?_)
          · refine q_ald_n cx dX12_command_56 rfl (lv_at hl 1 rfl) ?_
            refine lv_dup cx.1 cx.2.1 dX12_command_57 rfl ?_
            refine q_gX12_491 cx hB hmo kmo hf6 dX12_command_58 (fun lb2536 ub2536 => ?_)
            refine q_iconst cx dX12_command_61 ?_
            refine q_iadd cx dX12_command_62 ?_
            refine q_pX12_491 cx hB hmo kmo ⟨by omega, by omega⟩ (by omega) (by omega) rfl dX12_command_63 (fun H locs f2537 ef2537 z2538 hB => ?_)
            have z2539 : q_is (q_z f2537 mo 3) tn := by rw [ef2537, q_setz (Or.inr (by decide))]; exact hf0
            have z2540 : q_is (q_z f2537 mo 5) ss := by rw [ef2537, q_setz (Or.inr (by decide))]; exact hf1
            have z2541 : q_is (q_z f2537 mo 8) 0 := by rw [ef2537, q_setz (Or.inr (by decide))]; exact hf2
            have z2542 : q_is (q_z f2537 mo 9) (-1) := by rw [ef2537, q_setz (Or.inr (by decide))]; exact hf3
            have z2543 : q_is (q_z f2537 sr 0) xc := by rw [ef2537, q_setz (Or.inr (by decide))]; exact hf4
            have z2544 : q_is (q_z f2537 mo 37) xo := by rw [ef2537, q_setz (Or.inr (by decide))]; exact hf5
            have z2545 : q_is (q_z f2537 mo 35) x1634 := by rw [ef2537, q_setz (Or.inr (by decide))]; exact ex1634
            have z2546 : q_is (q_z f2537 mo 6) 1 := by rw [ef2537, q_setz (Or.inr (by decide))]; exact z2526
            have z2547 : q_ir (q_r f2537 mo 13) sr := by rw [ef2537, q_setr (Or.inr (by decide))]; exact hr0
            have z2548 : q_ir (q_r f2537 mo 18) nm := by rw [ef2537, q_setr (Or.inr (by decide))]; exact hr1
            have z2549 : q_ir (q_r f2537 mo 1) bu := by rw [ef2537, q_setr (Or.inr (by decide))]; exact hr2
            have z2550 : q_ir (q_r f2537 mo 29) cs := by rw [ef2537, q_setr (Or.inr (by decide))]; exact hr3
            have z2551 : q_ir (q_r f2537 mo 30) c1 := by rw [ef2537, q_setr (Or.inr (by decide))]; exact hr4
            have z2552 : q_ir (q_r f2537 mo 31) c2 := by rw [ef2537, q_setr (Or.inr (by decide))]; exact hr5
            have z2553 : q_ir (q_r f2537 mo 32) c3 := by rw [ef2537, q_setr (Or.inr (by decide))]; exact hr6
            have g2554 : tk_tr f2537 mo B tn := tk_tr_tr htr (by rw [ef2537, q_setz (Or.inr (by decide))]) (by rw [ef2537, q_setz (Or.inr (by decide))]) (by rw [ef2537, q_setz (Or.inr (by decide))]) (by rw [ef2537, q_setz (Or.inr (by decide))]) (by rw [ef2537, q_setj (Or.inr (by decide))])
            have g2555 : tk_ub f2537 bu B tn := tk_ub_tr hub (fun i9 => by rw [ef2537, q_setz (Or.inl (fun q => by rw [q, kmo] at kbu; exact absurd kbu (by decide)))])
            have g2556 : tk_nq f2537 nm nl9 := tk_nq_tr hrn (fun i9 => by rw [ef2537, q_setj (Or.inl (fun q => by rw [q, kmo] at knm; exact absurd knm (by decide)))])
            have g2557 : k_bl f f2537 c1 c2 60 := k_bl_tr hbx (fun i9 => by rw [ef2537, q_setz (Or.inl (fun q => by rw [q, kmo] at kc1; exact absurd kc1 (by decide)))]) (fun i9 => by rw [ef2537, q_setz (Or.inl (fun q => by rw [q, kmo] at kc2; exact absurd kc2 (by decide)))])
            have g2558 : k_b1 f f2537 cs x1634 := k_b1_tr hbs (fun i9 => by rw [ef2537, q_setz (Or.inl (fun q => by rw [q, kmo] at kcs; exact absurd kcs (by decide)))])
            refine q_ald_n cx dX12_command_66 rfl (lv_at hl 1 rfl) ?_
            refine q_cVv (As := []) (rest := []) cx hB (fun _ h => h) hN hmo kmo (by decide) rfl (f_mon l g hN hB.2.1 B mo hmo kmo bu hbu kbu tn (by omega) (by omega) ss (by omega) (by omega) z2539 z2540 z2549 g2554 g2555) q_cX12_140 q_dX12_goOn (by decide) rfl rfl hl.1 rfl (Nat.le_of_ble_eq_true rfl) dX12_command_67 (fun H locs f2559 h2561 hF hB => ?_)
            obtain ⟨t2562, g2563⟩ := h2561
            have z2564 : q_is (q_z f2559 mo 3) tn := Eq.trans (hF.z hmo (by rw [kmo]; rfl)) z2539
            have z2565 : q_is (q_z f2559 mo 8) 0 := Eq.trans (hF.z hmo (by rw [kmo]; rfl)) z2541
            have z2566 : q_is (q_z f2559 mo 9) (-1) := Eq.trans (hF.z hmo (by rw [kmo]; rfl)) z2542
            have z2567 : q_is (q_z f2559 sr 0) xc := Eq.trans (hF.z hsr (by rw [ksr]; rfl)) z2543
            have z2568 : q_is (q_z f2559 mo 37) xo := Eq.trans (hF.z hmo (by rw [kmo]; rfl)) z2544
            have z2569 : q_is (q_z f2559 mo 35) x1634 := Eq.trans (hF.z hmo (by rw [kmo]; rfl)) z2545
            have z2570 : q_is (q_z f2559 mo 36) (xw + 1) := Eq.trans (hF.z hmo (by rw [kmo]; rfl)) z2538
            have z2571 : q_ir (q_r f2559 mo 13) sr := Eq.trans (hF.r hmo (by rw [kmo]; rfl)) z2547
            have z2572 : q_ir (q_r f2559 mo 18) nm := Eq.trans (hF.r hmo (by rw [kmo]; rfl)) z2548
            have z2573 : q_ir (q_r f2559 mo 1) bu := Eq.trans (hF.r hmo (by rw [kmo]; rfl)) z2549
            have z2574 : q_ir (q_r f2559 mo 29) cs := Eq.trans (hF.r hmo (by rw [kmo]; rfl)) z2550
            have z2575 : q_ir (q_r f2559 mo 30) c1 := Eq.trans (hF.r hmo (by rw [kmo]; rfl)) z2551
            have z2576 : q_ir (q_r f2559 mo 31) c2 := Eq.trans (hF.r hmo (by rw [kmo]; rfl)) z2552
            have z2577 : q_ir (q_r f2559 mo 32) c3 := Eq.trans (hF.r hmo (by rw [kmo]; rfl)) z2553
            have g2578 : tk_ub f2559 bu B tn := tk_ub_tr g2555 (fun i9 => hF.z hbu (by rw [kbu]; rfl))
            have g2579 : tk_nq f2559 nm nl9 := tk_nq_tr g2556 (fun i9 => hF.j hnm (by rw [knm]; rfl))
            have g2580 : k_bl f f2559 c1 c2 60 := k_bl_tr g2557 (fun i9 => hF.z hc1 (by rw [kc1]; rfl)) (fun i9 => hF.z hc2 (by rw [kc2]; rfl))
            have g2581 : k_b1 f f2559 cs x1634 := k_b1_tr g2558 (fun i9 => hF.z hcs (by rw [kcs]; rfl))
            obtain ⟨x2582, ex2582⟩ : ∃ zz, q_is (q_z f2559 mo 5) zz := ⟨_, q_isr _⟩
            obtain ⟨lx2582, ux2582⟩ := q_isb ex2582 (q_fib hB.2.1 hmo kmo (by decide) rfl)
            obtain ⟨-, l0x2582, u0x2582, -, -⟩ := tk_tr_n g2563 ex2582
            refine q_ald_n cx dX12_command_70 rfl (lv_at hl 1 rfl) ?_
            refine q_gX12_494 cx hB hmo kmo z2569 dX12_command_71 (fun lb2583 ub2583 => ?_)
            refine lv_istore_n (lv' := [(2, .int (q_i x1634)), (1, .int (q_i 4)), (0, .ref mo)]) cx.1 cx.2.1 dX12_command_74 rfl hl (by decide) rfl (fun ls hl => ?_)
            refine q_ald_n cx dX12_command_75 rfl (lv_at hl 2 rfl) ?_
            refine q_gX12_51 cx hB hmo kmo z2574 dX12_command_76 (fun hb2584 kb2584 => ?_)
            refine q_ild_n cx dX12_command_79 rfl (lv_at hl 0 rfl) ?_
            refine q_ild_n cx dX12_command_80 rfl (lv_at hl 1 rfl) ?_
            refine q_iast (lo := 0) (hi := 7) (n := 60) cx hB hcs kcs (by decide) rfl rfl (by omega) (by omega) (by decide) rfl ⟨by decide, by decide⟩ (by decide) (by decide) (q_inWi (lo := 0) (hi := 58) (by decide) (by omega) (by omega)) dX12_command_81 (fun H locs f2585 ef2585 z2586 hB => ?_)
            have z2587 : q_is (q_z f2585 mo 3) tn := by rw [ef2585, q_setz (Or.inl (fun q => by rw [q, kcs] at kmo; exact absurd kmo (by decide)))]; exact z2564
            have z2588 : q_is (q_z f2585 mo 8) 0 := by rw [ef2585, q_setz (Or.inl (fun q => by rw [q, kcs] at kmo; exact absurd kmo (by decide)))]; exact z2565
            have z2589 : q_is (q_z f2585 mo 9) (-1) := by rw [ef2585, q_setz (Or.inl (fun q => by rw [q, kcs] at kmo; exact absurd kmo (by decide)))]; exact z2566
            have z2590 : q_is (q_z f2585 sr 0) xc := by rw [ef2585, q_setz (Or.inl (fun q => by rw [q, kcs] at ksr; exact absurd ksr (by decide)))]; exact z2567
            have z2591 : q_is (q_z f2585 mo 37) xo := by rw [ef2585, q_setz (Or.inl (fun q => by rw [q, kcs] at kmo; exact absurd kmo (by decide)))]; exact z2568
            have z2592 : q_is (q_z f2585 mo 35) x1634 := by rw [ef2585, q_setz (Or.inl (fun q => by rw [q, kcs] at kmo; exact absurd kmo (by decide)))]; exact z2569
            have z2593 : q_is (q_z f2585 mo 36) (xw + 1) := by rw [ef2585, q_setz (Or.inl (fun q => by rw [q, kcs] at kmo; exact absurd kmo (by decide)))]; exact z2570
            have z2594 : q_is (q_z f2585 mo 5) x2582 := by rw [ef2585, q_setz (Or.inl (fun q => by rw [q, kcs] at kmo; exact absurd kmo (by decide)))]; exact ex2582
            have z2595 : q_ir (q_r f2585 mo 13) sr := by rw [ef2585, q_setr (Or.inl (fun q => by rw [q, kcs] at kmo; exact absurd kmo (by decide)))]; exact z2571
            have z2596 : q_ir (q_r f2585 mo 18) nm := by rw [ef2585, q_setr (Or.inl (fun q => by rw [q, kcs] at kmo; exact absurd kmo (by decide)))]; exact z2572
            have z2597 : q_ir (q_r f2585 mo 1) bu := by rw [ef2585, q_setr (Or.inl (fun q => by rw [q, kcs] at kmo; exact absurd kmo (by decide)))]; exact z2573
            have z2598 : q_ir (q_r f2585 mo 29) cs := by rw [ef2585, q_setr (Or.inl (fun q => by rw [q, kcs] at kmo; exact absurd kmo (by decide)))]; exact z2574
            have z2599 : q_ir (q_r f2585 mo 30) c1 := by rw [ef2585, q_setr (Or.inl (fun q => by rw [q, kcs] at kmo; exact absurd kmo (by decide)))]; exact z2575
            have z2600 : q_ir (q_r f2585 mo 31) c2 := by rw [ef2585, q_setr (Or.inl (fun q => by rw [q, kcs] at kmo; exact absurd kmo (by decide)))]; exact z2576
            have z2601 : q_ir (q_r f2585 mo 32) c3 := by rw [ef2585, q_setr (Or.inl (fun q => by rw [q, kcs] at kmo; exact absurd kmo (by decide)))]; exact z2577
            have g2602 : tk_ub f2585 bu B tn := tk_ub_tr g2578 (fun i9 => by rw [ef2585, q_setz (Or.inl (fun q => by rw [q, kcs] at kbu; exact absurd kbu (by decide)))])
            have g2603 : tk_nq f2585 nm nl9 := tk_nq_tr g2579 (fun i9 => by rw [ef2585, q_setj (Or.inl (fun q => by rw [q, kcs] at knm; exact absurd knm (by decide)))])
            have g2604 : k_bl f f2585 c1 c2 60 := k_bl_tr g2580 (fun i9 => by rw [ef2585, q_setz (Or.inl (fun q => by rw [q, kcs] at kc1; exact absurd kc1 (by decide)))]) (fun i9 => by rw [ef2585, q_setz (Or.inl (fun q => by rw [q, kcs] at kc2; exact absurd kc2 (by decide)))])
            have g2605 : k_b1 f f2585 cs x1634 := k_b1_s g2581 ef2585 (by omega)
            have g2606 : tk_tr f2585 mo B tn := tk_tr_tr g2563 (by rw [ef2585, q_setz (Or.inl (fun q => by rw [q, kcs] at kmo; exact absurd kmo (by decide)))]) (by rw [ef2585, q_setz (Or.inl (fun q => by rw [q, kcs] at kmo; exact absurd kmo (by decide)))]) (by rw [ef2585, q_setz (Or.inl (fun q => by rw [q, kcs] at kmo; exact absurd kmo (by decide)))]) (by rw [ef2585, q_setz (Or.inl (fun q => by rw [q, kcs] at kmo; exact absurd kmo (by decide)))]) (by rw [ef2585, q_setj (Or.inl (fun q => by rw [q, kcs] at kmo; exact absurd kmo (by decide)))])
            refine q_ald_n cx dX12_command_82 rfl (lv_at hl 2 rfl) ?_
            refine q_ild_n cx dX12_command_83 rfl (lv_at hl 0 rfl) ?_
            refine q_ild_n cx dX12_command_84 rfl (lv_at hl 1 rfl) ?_
            refine q_cVv (As := [.int (q_i x1634), .int (q_i 4)]) (rest := []) cx hB (fun _ h => h) hN hmo kmo (by decide) rfl (f_mreadsNumbers4 l g hN hB.2.1 B nl9 mo hmo kmo x1634 (by omega) (by omega) 4 (by decide) (by decide) sr hsr ksr nm hnm knm bu hbu kbu c1 hc1 kc1 c2 hc2 kc2 c3 hc3 kc3 tn (by omega) (by omega) x2582 (by omega) (by omega) xc (by omega) (by omega) z2587 z2594 z2588 z2589 z2590 z2595 z2596 z2597 z2599 z2600 z2601 hp0 g2606 g2602 g2603) q_cX12_497 q_dX12_readsNumbers (by decide) rfl rfl hl.1 rfl (Nat.le_of_ble_eq_true rfl) dX12_command_85 (fun H locs f2607 h2609 hF hB => ?_)
            rcases h2609 with h2610 | h2611
            · obtain ⟨z2612, z2613, t2614, t2615, t2616, g2617⟩ := h2610
              have z2618 : q_is (q_z f2607 mo 3) tn := Eq.trans (hF.z hmo (by rw [kmo]; rfl)) z2587
              have z2619 : q_is (q_z f2607 sr 0) xc := Eq.trans (hF.z hsr (by rw [ksr]; rfl)) z2590
              have z2620 : q_is (q_z f2607 mo 37) xo := Eq.trans (hF.z hmo (by rw [kmo]; rfl)) z2591
              have z2621 : q_is (q_z f2607 mo 35) x1634 := Eq.trans (hF.z hmo (by rw [kmo]; rfl)) z2592
              have z2622 : q_is (q_z f2607 mo 36) (xw + 1) := Eq.trans (hF.z hmo (by rw [kmo]; rfl)) z2593
              have z2623 : q_is (q_z f2607 cs (Int.toNat x1634)) 4 := Eq.trans (hF.z hcs (by rw [kcs]; rfl)) z2586
              have z2624 : q_ir (q_r f2607 mo 13) sr := Eq.trans (hF.r hmo (by rw [kmo]; rfl)) z2595
              have z2625 : q_ir (q_r f2607 mo 18) nm := Eq.trans (hF.r hmo (by rw [kmo]; rfl)) z2596
              have z2626 : q_ir (q_r f2607 mo 1) bu := Eq.trans (hF.r hmo (by rw [kmo]; rfl)) z2597
              have z2627 : q_ir (q_r f2607 mo 29) cs := Eq.trans (hF.r hmo (by rw [kmo]; rfl)) z2598
              have z2628 : q_ir (q_r f2607 mo 30) c1 := Eq.trans (hF.r hmo (by rw [kmo]; rfl)) z2599
              have z2629 : q_ir (q_r f2607 mo 31) c2 := Eq.trans (hF.r hmo (by rw [kmo]; rfl)) z2600
              have z2630 : q_ir (q_r f2607 mo 32) c3 := Eq.trans (hF.r hmo (by rw [kmo]; rfl)) z2601
              have g2631 : tk_ub f2607 bu B tn := tk_ub_tr g2602 (fun i9 => hF.z hbu (by rw [kbu]; rfl))
              have g2632 : tk_nq f2607 nm nl9 := tk_nq_tr g2603 (fun i9 => hF.j hnm (by rw [knm]; rfl))
              have g2633 : k_b1 f f2607 cs x1634 := k_b1_tr g2605 (fun i9 => hF.z hcs (by rw [kcs]; rfl))
              obtain ⟨x2634, ex2634⟩ : ∃ zz, q_is (q_z f2607 mo 5) zz := ⟨_, q_isr _⟩
              obtain ⟨lx2634, ux2634⟩ := q_isb ex2634 (q_fib hB.2.1 hmo kmo (by decide) rfl)
              obtain ⟨-, l0x2634, u0x2634, -, -⟩ := tk_tr_n g2617 ex2634
              have hb9 : k_bl f f2607 c1 c2 x1634 := k_bl_cat g2604 t2616 (by omega)
              refine q_ald_n cx dX12_command_88 rfl (lv_at hl 2 rfl) ?_
              refine q_cVi (As := []) (rest := []) cx hB (fun _ h => h) hN hmo kmo (by decide) rfl (f_misGood l g hN hB.2.1 mo hmo kmo z2612) q_cX12_130 q_dX12_isGood (by decide) rfl rfl hl.1 rfl (Nat.le_of_ble_eq_true rfl) dX12_command_89 (fun y2636 H locs f2635 ry2636 h2637 hF hB => ?_)
              obtain ⟨rfl, qy2636⟩ := h2637
              subst qy2636
              refine q_ifne (tgt := 96) cx ⟨by decide, by decide⟩ dX12_command_92 (by decide) (fun c2638 => ?_) (fun c2638 => ?_)
              · refine q_ald_n cx dX12_command_96 rfl (lv_at hl 2 rfl) ?_
                refine lv_dup cx.1 cx.2.1 dX12_command_97 rfl ?_
                refine q_gX12_494 cx hB hmo kmo z2621 dX12_command_98 (fun lb2639 ub2639 => ?_)
                refine q_iconst cx dX12_command_101 ?_
                refine q_iadd cx dX12_command_102 ?_
                refine q_pX12_494 cx hB hmo kmo ⟨by omega, by omega⟩ (by omega) (by omega) rfl dX12_command_103 (fun H locs f2640 ef2640 z2641 hB => ?_)
                have z2642 : q_is (q_z f2640 mo 3) tn := by rw [ef2640, q_setz (Or.inr (by decide))]; exact z2618
                have z2643 : q_is (q_z f2640 sr 0) xc := by rw [ef2640, q_setz (Or.inr (by decide))]; exact z2619
                have z2644 : q_is (q_z f2640 mo 37) xo := by rw [ef2640, q_setz (Or.inr (by decide))]; exact z2620
                have z2645 : q_is (q_z f2640 mo 36) (xw + 1) := by rw [ef2640, q_setz (Or.inr (by decide))]; exact z2622
                have z2646 : q_is (q_z f2640 cs (Int.toNat x1634)) 4 := by rw [ef2640, q_setz (Or.inl (fun q => by rw [q, kmo] at kcs; exact absurd kcs (by decide)))]; exact z2623
                have z2647 : q_is (q_z f2640 mo 8) 0 := by rw [ef2640, q_setz (Or.inr (by decide))]; exact z2612
                have z2648 : q_is (q_z f2640 mo 9) (-1) := by rw [ef2640, q_setz (Or.inr (by decide))]; exact z2613
                have z2649 : q_is (q_z f2640 mo 5) x2634 := by rw [ef2640, q_setz (Or.inr (by decide))]; exact ex2634
                have z2650 : q_ir (q_r f2640 mo 13) sr := by rw [ef2640, q_setr (Or.inr (by decide))]; exact z2624
                have z2651 : q_ir (q_r f2640 mo 18) nm := by rw [ef2640, q_setr (Or.inr (by decide))]; exact z2625
                have z2652 : q_ir (q_r f2640 mo 1) bu := by rw [ef2640, q_setr (Or.inr (by decide))]; exact z2626
                have z2653 : q_ir (q_r f2640 mo 29) cs := by rw [ef2640, q_setr (Or.inr (by decide))]; exact z2627
                have z2654 : q_ir (q_r f2640 mo 30) c1 := by rw [ef2640, q_setr (Or.inr (by decide))]; exact z2628
                have z2655 : q_ir (q_r f2640 mo 31) c2 := by rw [ef2640, q_setr (Or.inr (by decide))]; exact z2629
                have z2656 : q_ir (q_r f2640 mo 32) c3 := by rw [ef2640, q_setr (Or.inr (by decide))]; exact z2630
                have g2657 : tk_ub f2640 bu B tn := tk_ub_tr g2631 (fun i9 => by rw [ef2640, q_setz (Or.inl (fun q => by rw [q, kmo] at kbu; exact absurd kbu (by decide)))])
                have g2658 : tk_nq f2640 nm nl9 := tk_nq_tr g2632 (fun i9 => by rw [ef2640, q_setj (Or.inl (fun q => by rw [q, kmo] at knm; exact absurd knm (by decide)))])
                have g2659 : k_b1 f f2640 cs x1634 := k_b1_tr g2633 (fun i9 => by rw [ef2640, q_setz (Or.inl (fun q => by rw [q, kmo] at kcs; exact absurd kcs (by decide)))])
                have g2660 : tk_tr f2640 mo B tn := tk_tr_tr g2617 (by rw [ef2640, q_setz (Or.inr (by decide))]) (by rw [ef2640, q_setz (Or.inr (by decide))]) (by rw [ef2640, q_setz (Or.inr (by decide))]) (by rw [ef2640, q_setz (Or.inr (by decide))]) (by rw [ef2640, q_setj (Or.inr (by decide))])
                have g2661 : k_cc 4 f2640 c1 c2 (Int.toNat x1634) := k_cc_tr t2615 (fun i9 => by rw [ef2640, q_setz (Or.inl (fun q => by rw [q, kmo] at kc1; exact absurd kc1 (by decide)))]) (fun i9 => by rw [ef2640, q_setz (Or.inl (fun q => by rw [q, kmo] at kc2; exact absurd kc2 (by decide)))])
                have g2662 : k_bl f f2640 c1 c2 x1634 := k_bl_tr hb9 (fun i9 => by rw [ef2640, q_setz (Or.inl (fun q => by rw [q, kmo] at kc1; exact absurd kc1 (by decide)))]) (fun i9 => by rw [ef2640, q_setz (Or.inl (fun q => by rw [q, kmo] at kc2; exact absurd kc2 (by decide)))])
                refine q_ald_n cx dX12_command_106 rfl (lv_at hl 2 rfl) ?_
                refine lv_dup cx.1 cx.2.1 dX12_command_107 rfl ?_
                refine q_gX12_488 cx hB hmo kmo z2644 dX12_command_108 (fun lb2663 ub2663 => ?_)
                refine q_ild_n cx dX12_command_111 rfl (lv_at hl 1 rfl) ?_
                refine q_bipush cx dX12_command_112 rfl ?_
                refine q_icne (tgt := 121) cx ⟨by decide, by decide⟩ ⟨by decide, by decide⟩ dX12_command_114 (by decide) (fun c2664 => ?_) (fun c2664 => ?_)
                · refine q_iconst cx dX12_command_121 ?_
                  refine q_cSi (As := [.int (q_i 0)]) (rest := [.int (q_i xo), .ref mo]) cx hB (fun _ h => h) hN (r_truth0 l g hN hB.2.1 0 (by decide) (by decide)) q_cX12_78 q_dX12_truth (by decide) rfl rfl hl.1 rfl (Nat.le_of_ble_eq_true rfl) dX12_command_122 (fun y2666 H locs f2665 ry2666 h2667 hF hB => ?_)
                  obtain ⟨rfl, qy2666⟩ := h2667
                  subst qy2666
                  refine q_iadd cx dX12_command_125 ?_
                  refine q_pX12_488 cx hB hmo kmo ⟨by omega, by omega⟩ (by omega) (by omega) rfl dX12_command_126 (fun H locs f2668 ef2668 z2669 hB => ?_)
                  have z2670 : q_is (q_z f2668 mo 3) tn := by rw [ef2668, q_setz (Or.inr (by decide))]; exact z2642
                  have z2671 : q_is (q_z f2668 sr 0) xc := by rw [ef2668, q_setz (Or.inr (by decide))]; exact z2643
                  have z2672 : q_is (q_z f2668 mo 36) (xw + 1) := by rw [ef2668, q_setz (Or.inr (by decide))]; exact z2645
                  have z2673 : q_is (q_z f2668 cs (Int.toNat x1634)) 4 := by rw [ef2668, q_setz (Or.inl (fun q => by rw [q, kmo] at kcs; exact absurd kcs (by decide)))]; exact z2646
                  have z2674 : q_is (q_z f2668 mo 8) 0 := by rw [ef2668, q_setz (Or.inr (by decide))]; exact z2647
                  have z2675 : q_is (q_z f2668 mo 9) (-1) := by rw [ef2668, q_setz (Or.inr (by decide))]; exact z2648
                  have z2676 : q_is (q_z f2668 mo 5) x2634 := by rw [ef2668, q_setz (Or.inr (by decide))]; exact z2649
                  have z2677 : q_is (q_z f2668 mo 35) (x1634 + 1) := by rw [ef2668, q_setz (Or.inr (by decide))]; exact z2641
                  have z2678 : q_ir (q_r f2668 mo 13) sr := by rw [ef2668, q_setr (Or.inr (by decide))]; exact z2650
                  have z2679 : q_ir (q_r f2668 mo 18) nm := by rw [ef2668, q_setr (Or.inr (by decide))]; exact z2651
                  have z2680 : q_ir (q_r f2668 mo 1) bu := by rw [ef2668, q_setr (Or.inr (by decide))]; exact z2652
                  have z2681 : q_ir (q_r f2668 mo 29) cs := by rw [ef2668, q_setr (Or.inr (by decide))]; exact z2653
                  have z2682 : q_ir (q_r f2668 mo 30) c1 := by rw [ef2668, q_setr (Or.inr (by decide))]; exact z2654
                  have z2683 : q_ir (q_r f2668 mo 31) c2 := by rw [ef2668, q_setr (Or.inr (by decide))]; exact z2655
                  have z2684 : q_ir (q_r f2668 mo 32) c3 := by rw [ef2668, q_setr (Or.inr (by decide))]; exact z2656
                  have g2685 : tk_ub f2668 bu B tn := tk_ub_tr g2657 (fun i9 => by rw [ef2668, q_setz (Or.inl (fun q => by rw [q, kmo] at kbu; exact absurd kbu (by decide)))])
                  have g2686 : tk_nq f2668 nm nl9 := tk_nq_tr g2658 (fun i9 => by rw [ef2668, q_setj (Or.inl (fun q => by rw [q, kmo] at knm; exact absurd knm (by decide)))])
                  have g2687 : k_b1 f f2668 cs x1634 := k_b1_tr g2659 (fun i9 => by rw [ef2668, q_setz (Or.inl (fun q => by rw [q, kmo] at kcs; exact absurd kcs (by decide)))])
                  have g2688 : tk_tr f2668 mo B tn := tk_tr_tr g2660 (by rw [ef2668, q_setz (Or.inr (by decide))]) (by rw [ef2668, q_setz (Or.inr (by decide))]) (by rw [ef2668, q_setz (Or.inr (by decide))]) (by rw [ef2668, q_setz (Or.inr (by decide))]) (by rw [ef2668, q_setj (Or.inr (by decide))])
                  have g2689 : k_cc 4 f2668 c1 c2 (Int.toNat x1634) := k_cc_tr g2661 (fun i9 => by rw [ef2668, q_setz (Or.inl (fun q => by rw [q, kmo] at kc1; exact absurd kc1 (by decide)))]) (fun i9 => by rw [ef2668, q_setz (Or.inl (fun q => by rw [q, kmo] at kc2; exact absurd kc2 (by decide)))])
                  have g2690 : k_bl f f2668 c1 c2 x1634 := k_bl_tr g2662 (fun i9 => by rw [ef2668, q_setz (Or.inl (fun q => by rw [q, kmo] at kc1; exact absurd kc1 (by decide)))]) (fun i9 => by rw [ef2668, q_setz (Or.inl (fun q => by rw [q, kmo] at kc2; exact absurd kc2 (by decide)))])
                  have hsp : k_stp 4 = 0 := rfl
                  have hsc9 : q_sc f2668 mo cs c1 c2 := k_sc_add (c := 4) hsc ex1634 hf5 hf6 z2677 z2672 (Eq.trans z2669 (by rw [hsp] <;> omega)) (by omega) z2673 g2689 g2687 g2690 (by rw [hsp] <;> omega) (by rw [hsp] <;> omega)
                  refine q_vret cx hr hlk hB dX12_command_129 ?_
                  exact (Or.inl ⟨z2674, z2675, (Eq.trans z2669 (by omega)), z2672, (tk_xok (tk_cm_go (d1 := xo) (c1 := xw + 1) t2527 (by decide) (by omega) (by omega) (Eq.trans (Eq.symm ex2582) t2562) (tk_okx t2614 ex2634) (tk_ifn (by decide)) rfl) z2676 (Eq.trans z2669 (by omega)) (Eq.trans z2672 (by omega))), (by omega), hsc9, g2688⟩)
                · exact absurd c2664 (by omega)
              · exact absurd c2638 (by omega)
            · obtain ⟨lz2691, uz2691, t2692, g2693⟩ := h2611
              have z2694 : q_is (q_z f2607 mo 3) tn := Eq.trans (hF.z hmo (by rw [kmo]; rfl)) z2587
              have z2695 : q_is (q_z f2607 sr 0) xc := Eq.trans (hF.z hsr (by rw [ksr]; rfl)) z2590
              have z2696 : q_is (q_z f2607 mo 37) xo := Eq.trans (hF.z hmo (by rw [kmo]; rfl)) z2591
              have z2697 : q_is (q_z f2607 mo 35) x1634 := Eq.trans (hF.z hmo (by rw [kmo]; rfl)) z2592
              have z2698 : q_is (q_z f2607 mo 36) (xw + 1) := Eq.trans (hF.z hmo (by rw [kmo]; rfl)) z2593
              have z2699 : q_is (q_z f2607 cs (Int.toNat x1634)) 4 := Eq.trans (hF.z hcs (by rw [kcs]; rfl)) z2586
              have z2700 : q_ir (q_r f2607 mo 13) sr := Eq.trans (hF.r hmo (by rw [kmo]; rfl)) z2595
              have z2701 : q_ir (q_r f2607 mo 18) nm := Eq.trans (hF.r hmo (by rw [kmo]; rfl)) z2596
              have z2702 : q_ir (q_r f2607 mo 1) bu := Eq.trans (hF.r hmo (by rw [kmo]; rfl)) z2597
              have z2703 : q_ir (q_r f2607 mo 29) cs := Eq.trans (hF.r hmo (by rw [kmo]; rfl)) z2598
              have z2704 : q_ir (q_r f2607 mo 30) c1 := Eq.trans (hF.r hmo (by rw [kmo]; rfl)) z2599
              have z2705 : q_ir (q_r f2607 mo 31) c2 := Eq.trans (hF.r hmo (by rw [kmo]; rfl)) z2600
              have z2706 : q_ir (q_r f2607 mo 32) c3 := Eq.trans (hF.r hmo (by rw [kmo]; rfl)) z2601
              have g2707 : tk_ub f2607 bu B tn := tk_ub_tr g2602 (fun i9 => hF.z hbu (by rw [kbu]; rfl))
              have g2708 : tk_nq f2607 nm nl9 := tk_nq_tr g2603 (fun i9 => hF.j hnm (by rw [knm]; rfl))
              have g2709 : k_b1 f f2607 cs x1634 := k_b1_tr g2605 (fun i9 => hF.z hcs (by rw [kcs]; rfl))
              obtain ⟨x2710, ex2710⟩ : ∃ zz, q_is (q_z f2607 mo 8) zz := ⟨_, q_isr _⟩
              obtain ⟨lx2710, ux2710⟩ := q_isb ex2710 ⟨lz2691, uz2691⟩
              obtain ⟨x2711, ex2711⟩ : ∃ zz, q_is (q_z f2607 mo 5) zz := ⟨_, q_isr _⟩
              obtain ⟨lx2711, ux2711⟩ := q_isb ex2711 (q_fib hB.2.1 hmo kmo (by decide) rfl)
              obtain ⟨x2712, ex2712⟩ : ∃ zz, q_is (q_z f2607 mo 9) zz := ⟨_, q_isr _⟩
              obtain ⟨lx2712, ux2712⟩ := q_isb ex2712 (q_fib hB.2.1 hmo kmo (by decide) rfl)
              obtain ⟨-, l0x2711, u0x2711, -, -⟩ := tk_tr_n g2693 ex2711
              refine q_ald_n cx dX12_command_88 rfl (lv_at hl 2 rfl) ?_
              refine q_cVi (As := []) (rest := []) cx hB (fun _ h => h) hN hmo kmo (by decide) rfl (r_isGood1 l g hN hB.2.1 mo hmo kmo x2710 (by omega) (by omega) ex2710) q_cX12_130 q_dX12_isGood (by decide) rfl rfl hl.1 rfl (Nat.le_of_ble_eq_true rfl) dX12_command_89 (fun y2714 H locs f2713 ry2714 h2715 hF hB => ?_)
              obtain ⟨rfl, qy2714⟩ := h2715
              subst qy2714
              refine q_ifne (tgt := 96) cx ⟨by decide, by decide⟩ dX12_command_92 (by decide) (fun c2716 => ?_) (fun c2716 => ?_)
              · exact absurd c2716 (by omega)
              · refine q_vret cx hr hlk hB dX12_command_95 ?_
                exact (Or.inr (Or.inr ⟨(q_isl ex2710 (by omega)), (q_isu ex2710 (by omega)), (tk_erp (tk_cm_er t2527 (by decide) (by omega) (by omega) (Eq.trans (Eq.symm ex2582) t2562) (tk_erx t2692 ex2710 ex2712)) ex2710 ex2712), g2693⟩))
          · exact absurd c2535 (by omega)
        · refine q_ald_n cx dX12_command_43 rfl (lv_at hl 1 rfl) ?_
          refine q_iconst cx dX12_command_44 ?_
          refine q_cVv (As := [.int (q_i 5)]) (rest := []) cx hB (fun _ h => h) hN hmo kmo (by decide) rfl (f_mwrongk l g hN hB.2.1 mo hmo kmo 5 (by decide) (by decide) ss (by omega) (by omega) 1 (by decide) (by decide) hf1 z2526 hf2 hf3) q_cX12_137 q_dX12_wrong (by decide) rfl rfl hl.1 rfl (Nat.le_of_ble_eq_true rfl) dX12_command_45 (fun H locs f2717 h2719 hF hB => ?_)
          obtain ⟨z2720, z2721⟩ := h2719
          have z2722 : q_is (q_z f2717 mo 3) tn := Eq.trans (hF.z hmo (by rw [kmo]; rfl)) hf0
          have z2723 : q_is (q_z f2717 mo 5) ss := Eq.trans (hF.z hmo (by rw [kmo]; rfl)) hf1
          have z2724 : q_is (q_z f2717 sr 0) xc := Eq.trans (hF.z hsr (by rw [ksr]; rfl)) hf4
          have z2725 : q_is (q_z f2717 mo 37) xo := Eq.trans (hF.z hmo (by rw [kmo]; rfl)) hf5
          have z2726 : q_is (q_z f2717 mo 36) xw := Eq.trans (hF.z hmo (by rw [kmo]; rfl)) hf6
          have z2727 : q_is (q_z f2717 mo 35) x1634 := Eq.trans (hF.z hmo (by rw [kmo]; rfl)) ex1634
          have z2728 : q_is (q_z f2717 mo 6) 1 := Eq.trans (hF.z hmo (by rw [kmo]; rfl)) z2526
          have z2729 : q_ir (q_r f2717 mo 13) sr := Eq.trans (hF.r hmo (by rw [kmo]; rfl)) hr0
          have z2730 : q_ir (q_r f2717 mo 18) nm := Eq.trans (hF.r hmo (by rw [kmo]; rfl)) hr1
          have z2731 : q_ir (q_r f2717 mo 1) bu := Eq.trans (hF.r hmo (by rw [kmo]; rfl)) hr2
          have z2732 : q_ir (q_r f2717 mo 29) cs := Eq.trans (hF.r hmo (by rw [kmo]; rfl)) hr3
          have z2733 : q_ir (q_r f2717 mo 30) c1 := Eq.trans (hF.r hmo (by rw [kmo]; rfl)) hr4
          have z2734 : q_ir (q_r f2717 mo 31) c2 := Eq.trans (hF.r hmo (by rw [kmo]; rfl)) hr5
          have z2735 : q_ir (q_r f2717 mo 32) c3 := Eq.trans (hF.r hmo (by rw [kmo]; rfl)) hr6
          have g2736 : tk_tr f2717 mo B tn := tk_tr_tr htr (hF.z hmo (by rw [kmo]; rfl)) (hF.z hmo (by rw [kmo]; rfl)) (hF.z hmo (by rw [kmo]; rfl)) (hF.z hmo (by rw [kmo]; rfl)) (hF.j hmo (by rw [kmo]; rfl))
          have g2737 : tk_ub f2717 bu B tn := tk_ub_tr hub (fun i9 => hF.z hbu (by rw [kbu]; rfl))
          have g2738 : tk_nq f2717 nm nl9 := tk_nq_tr hrn (fun i9 => hF.j hnm (by rw [knm]; rfl))
          have g2739 : q_sc f2717 mo cs c1 c2 := q_sc_tr hsc (hF.z hmo (by rw [kmo]; rfl)) (hF.z hmo (by rw [kmo]; rfl)) (hF.z hmo (by rw [kmo]; rfl)) (fun i9 => hF.z hcs (by rw [kcs]; rfl)) (fun i9 => hF.z hc1 (by rw [kc1]; rfl)) (fun i9 => hF.z hc2 (by rw [kc2]; rfl))
          have g2740 : k_bl f f2717 c1 c2 60 := k_bl_tr hbx (fun i9 => hF.z hc1 (by rw [kc1]; rfl)) (fun i9 => hF.z hc2 (by rw [kc2]; rfl))
          have g2741 : k_b1 f f2717 cs x1634 := k_b1_tr hbs (fun i9 => hF.z hcs (by rw [kcs]; rfl))
          refine q_ald_n cx dX12_command_48 rfl (lv_at hl 1 rfl) ?_
          refine q_cVi (As := []) (rest := []) cx hB (fun _ h => h) hN hmo kmo (by decide) rfl (r_isGood1 l g hN hB.2.1 mo hmo kmo 5 (by decide) (by decide) z2720) q_cX12_130 q_dX12_isGood (by decide) rfl rfl hl.1 rfl (Nat.le_of_ble_eq_true rfl) dX12_command_49 (fun y2743 H locs f2742 ry2743 h2744 hF hB => ?_)
          obtain ⟨rfl, qy2743⟩ := h2744
          subst qy2743
          refine q_ifne (tgt := 56) cx ⟨by decide, by decide⟩ dX12_command_52 (by decide) (fun c2745 => ?_) (fun c2745 => ?_)
          · exact absurd c2745 (by omega)
          · refine q_vret cx hr hlk hB dX12_command_55 ?_
            exact (Or.inr (Or.inr ⟨(q_isl z2720 (by omega)), (q_isu z2720 (by omega)), (tk_cm_e5 t2527 (by decide) (by omega) (by omega) z2720 z2721), g2736⟩))
      · exact absurd c2529 (by omega)
    · exact absurd c2528 (by omega)
  · obtain ⟨rfl, qy1636, z2746, t2747⟩ := h1643
    subst qy1636
    refine lv_istore_n (lv' := [(1, .int (q_i 5)), (0, .ref mo)]) cx.1 cx.2.1 dX12_command_4 rfl hl (by decide) rfl (fun ls hl => ?_)
    refine q_ild_n cx dX12_command_5 rfl (lv_at hl 0 rfl) ?_
    refine q_iconst cx dX12_command_6 ?_
    refine q_icne (tgt := 15) cx ⟨by decide, by decide⟩ ⟨by decide, by decide⟩ dX12_command_7 (by decide) (fun c2748 => ?_) (fun c2748 => ?_)
    · refine q_ild_n cx dX12_command_15 rfl (lv_at hl 0 rfl) ?_
      refine q_bipush cx dX12_command_16 rfl ?_
      refine q_icne (tgt := 34) cx ⟨by decide, by decide⟩ ⟨by decide, by decide⟩ dX12_command_18 (by decide) (fun c2749 => ?_) (fun c2749 => ?_)
      · refine q_ald_n cx dX12_command_34 rfl (lv_at hl 1 rfl) ?_
        refine q_gX12_491 cx hB hmo kmo hf6 dX12_command_35 (fun lb2750 ub2750 => ?_)
        refine q_bipush cx dX12_command_38 rfl ?_
        refine q_icne (tgt := 48) cx ⟨by omega, by omega⟩ ⟨by decide, by decide⟩ dX12_command_40 (by decide) (fun c2751 => ?_) (fun c2751 => ?_)
        · refine q_ald_n cx dX12_command_48 rfl (lv_at hl 1 rfl) ?_
          refine q_cVi (As := []) (rest := []) cx hB (fun _ h => h) hN hmo kmo (by decide) rfl (f_misGood l g hN hB.2.1 mo hmo kmo hf2) q_cX12_130 q_dX12_isGood (by decide) rfl rfl hl.1 rfl (Nat.le_of_ble_eq_true rfl) dX12_command_49 (fun y2753 H locs f2752 ry2753 h2754 hF hB => ?_)
          obtain ⟨rfl, qy2753⟩ := h2754
          subst qy2753
          refine q_ifne (tgt := 56) cx ⟨by decide, by decide⟩ dX12_command_52 (by decide) (fun c2755 => ?_) (fun c2755 => ?_)
          · refine q_ald_n cx dX12_command_56 rfl (lv_at hl 1 rfl) ?_
            refine lv_dup cx.1 cx.2.1 dX12_command_57 rfl ?_
            refine q_gX12_491 cx hB hmo kmo hf6 dX12_command_58 (fun lb2756 ub2756 => ?_)
            refine q_iconst cx dX12_command_61 ?_
            refine q_iadd cx dX12_command_62 ?_
            refine q_pX12_491 cx hB hmo kmo ⟨by omega, by omega⟩ (by omega) (by omega) rfl dX12_command_63 (fun H locs f2757 ef2757 z2758 hB => ?_)
            have z2759 : q_is (q_z f2757 mo 3) tn := by rw [ef2757, q_setz (Or.inr (by decide))]; exact hf0
            have z2760 : q_is (q_z f2757 mo 5) ss := by rw [ef2757, q_setz (Or.inr (by decide))]; exact hf1
            have z2761 : q_is (q_z f2757 mo 8) 0 := by rw [ef2757, q_setz (Or.inr (by decide))]; exact hf2
            have z2762 : q_is (q_z f2757 mo 9) (-1) := by rw [ef2757, q_setz (Or.inr (by decide))]; exact hf3
            have z2763 : q_is (q_z f2757 sr 0) xc := by rw [ef2757, q_setz (Or.inr (by decide))]; exact hf4
            have z2764 : q_is (q_z f2757 mo 37) xo := by rw [ef2757, q_setz (Or.inr (by decide))]; exact hf5
            have z2765 : q_is (q_z f2757 mo 35) x1634 := by rw [ef2757, q_setz (Or.inr (by decide))]; exact ex1634
            have z2766 : q_is (q_z f2757 mo 6) 1 := by rw [ef2757, q_setz (Or.inr (by decide))]; exact z2746
            have z2767 : q_ir (q_r f2757 mo 13) sr := by rw [ef2757, q_setr (Or.inr (by decide))]; exact hr0
            have z2768 : q_ir (q_r f2757 mo 18) nm := by rw [ef2757, q_setr (Or.inr (by decide))]; exact hr1
            have z2769 : q_ir (q_r f2757 mo 1) bu := by rw [ef2757, q_setr (Or.inr (by decide))]; exact hr2
            have z2770 : q_ir (q_r f2757 mo 29) cs := by rw [ef2757, q_setr (Or.inr (by decide))]; exact hr3
            have z2771 : q_ir (q_r f2757 mo 30) c1 := by rw [ef2757, q_setr (Or.inr (by decide))]; exact hr4
            have z2772 : q_ir (q_r f2757 mo 31) c2 := by rw [ef2757, q_setr (Or.inr (by decide))]; exact hr5
            have z2773 : q_ir (q_r f2757 mo 32) c3 := by rw [ef2757, q_setr (Or.inr (by decide))]; exact hr6
            have g2774 : tk_tr f2757 mo B tn := tk_tr_tr htr (by rw [ef2757, q_setz (Or.inr (by decide))]) (by rw [ef2757, q_setz (Or.inr (by decide))]) (by rw [ef2757, q_setz (Or.inr (by decide))]) (by rw [ef2757, q_setz (Or.inr (by decide))]) (by rw [ef2757, q_setj (Or.inr (by decide))])
            have g2775 : tk_ub f2757 bu B tn := tk_ub_tr hub (fun i9 => by rw [ef2757, q_setz (Or.inl (fun q => by rw [q, kmo] at kbu; exact absurd kbu (by decide)))])
            have g2776 : tk_nq f2757 nm nl9 := tk_nq_tr hrn (fun i9 => by rw [ef2757, q_setj (Or.inl (fun q => by rw [q, kmo] at knm; exact absurd knm (by decide)))])
            have g2777 : k_bl f f2757 c1 c2 60 := k_bl_tr hbx (fun i9 => by rw [ef2757, q_setz (Or.inl (fun q => by rw [q, kmo] at kc1; exact absurd kc1 (by decide)))]) (fun i9 => by rw [ef2757, q_setz (Or.inl (fun q => by rw [q, kmo] at kc2; exact absurd kc2 (by decide)))])
            have g2778 : k_b1 f f2757 cs x1634 := k_b1_tr hbs (fun i9 => by rw [ef2757, q_setz (Or.inl (fun q => by rw [q, kmo] at kcs; exact absurd kcs (by decide)))])
            refine q_ald_n cx dX12_command_66 rfl (lv_at hl 1 rfl) ?_
            refine q_cVv (As := []) (rest := []) cx hB (fun _ h => h) hN hmo kmo (by decide) rfl (f_mon l g hN hB.2.1 B mo hmo kmo bu hbu kbu tn (by omega) (by omega) ss (by omega) (by omega) z2759 z2760 z2769 g2774 g2775) q_cX12_140 q_dX12_goOn (by decide) rfl rfl hl.1 rfl (Nat.le_of_ble_eq_true rfl) dX12_command_67 (fun H locs f2779 h2781 hF hB => ?_)
            obtain ⟨t2782, g2783⟩ := h2781
            have z2784 : q_is (q_z f2779 mo 3) tn := Eq.trans (hF.z hmo (by rw [kmo]; rfl)) z2759
            have z2785 : q_is (q_z f2779 mo 8) 0 := Eq.trans (hF.z hmo (by rw [kmo]; rfl)) z2761
            have z2786 : q_is (q_z f2779 mo 9) (-1) := Eq.trans (hF.z hmo (by rw [kmo]; rfl)) z2762
            have z2787 : q_is (q_z f2779 sr 0) xc := Eq.trans (hF.z hsr (by rw [ksr]; rfl)) z2763
            have z2788 : q_is (q_z f2779 mo 37) xo := Eq.trans (hF.z hmo (by rw [kmo]; rfl)) z2764
            have z2789 : q_is (q_z f2779 mo 35) x1634 := Eq.trans (hF.z hmo (by rw [kmo]; rfl)) z2765
            have z2790 : q_is (q_z f2779 mo 36) (xw + 1) := Eq.trans (hF.z hmo (by rw [kmo]; rfl)) z2758
            have z2791 : q_ir (q_r f2779 mo 13) sr := Eq.trans (hF.r hmo (by rw [kmo]; rfl)) z2767
            have z2792 : q_ir (q_r f2779 mo 18) nm := Eq.trans (hF.r hmo (by rw [kmo]; rfl)) z2768
            have z2793 : q_ir (q_r f2779 mo 1) bu := Eq.trans (hF.r hmo (by rw [kmo]; rfl)) z2769
            have z2794 : q_ir (q_r f2779 mo 29) cs := Eq.trans (hF.r hmo (by rw [kmo]; rfl)) z2770
            have z2795 : q_ir (q_r f2779 mo 30) c1 := Eq.trans (hF.r hmo (by rw [kmo]; rfl)) z2771
            have z2796 : q_ir (q_r f2779 mo 31) c2 := Eq.trans (hF.r hmo (by rw [kmo]; rfl)) z2772
            have z2797 : q_ir (q_r f2779 mo 32) c3 := Eq.trans (hF.r hmo (by rw [kmo]; rfl)) z2773
            have g2798 : tk_ub f2779 bu B tn := tk_ub_tr g2775 (fun i9 => hF.z hbu (by rw [kbu]; rfl))
            have g2799 : tk_nq f2779 nm nl9 := tk_nq_tr g2776 (fun i9 => hF.j hnm (by rw [knm]; rfl))
            have g2800 : k_bl f f2779 c1 c2 60 := k_bl_tr g2777 (fun i9 => hF.z hc1 (by rw [kc1]; rfl)) (fun i9 => hF.z hc2 (by rw [kc2]; rfl))
            have g2801 : k_b1 f f2779 cs x1634 := k_b1_tr g2778 (fun i9 => hF.z hcs (by rw [kcs]; rfl))
            obtain ⟨x2802, ex2802⟩ : ∃ zz, q_is (q_z f2779 mo 5) zz := ⟨_, q_isr _⟩
            obtain ⟨lx2802, ux2802⟩ := q_isb ex2802 (q_fib hB.2.1 hmo kmo (by decide) rfl)
            obtain ⟨-, l0x2802, u0x2802, -, -⟩ := tk_tr_n g2783 ex2802
            refine q_ald_n cx dX12_command_70 rfl (lv_at hl 1 rfl) ?_
            refine q_gX12_494 cx hB hmo kmo z2789 dX12_command_71 (fun lb2803 ub2803 => ?_)
            refine lv_istore_n (lv' := [(2, .int (q_i x1634)), (1, .int (q_i 5)), (0, .ref mo)]) cx.1 cx.2.1 dX12_command_74 rfl hl (by decide) rfl (fun ls hl => ?_)
            refine q_ald_n cx dX12_command_75 rfl (lv_at hl 2 rfl) ?_
            refine q_gX12_51 cx hB hmo kmo z2794 dX12_command_76 (fun hb2804 kb2804 => ?_)
            refine q_ild_n cx dX12_command_79 rfl (lv_at hl 0 rfl) ?_
            refine q_ild_n cx dX12_command_80 rfl (lv_at hl 1 rfl) ?_
            refine q_iast (lo := 0) (hi := 7) (n := 60) cx hB hcs kcs (by decide) rfl rfl (by omega) (by omega) (by decide) rfl ⟨by decide, by decide⟩ (by decide) (by decide) (q_inWi (lo := 0) (hi := 58) (by decide) (by omega) (by omega)) dX12_command_81 (fun H locs f2805 ef2805 z2806 hB => ?_)
            have z2807 : q_is (q_z f2805 mo 3) tn := by rw [ef2805, q_setz (Or.inl (fun q => by rw [q, kcs] at kmo; exact absurd kmo (by decide)))]; exact z2784
            have z2808 : q_is (q_z f2805 mo 8) 0 := by rw [ef2805, q_setz (Or.inl (fun q => by rw [q, kcs] at kmo; exact absurd kmo (by decide)))]; exact z2785
            have z2809 : q_is (q_z f2805 mo 9) (-1) := by rw [ef2805, q_setz (Or.inl (fun q => by rw [q, kcs] at kmo; exact absurd kmo (by decide)))]; exact z2786
            have z2810 : q_is (q_z f2805 sr 0) xc := by rw [ef2805, q_setz (Or.inl (fun q => by rw [q, kcs] at ksr; exact absurd ksr (by decide)))]; exact z2787
            have z2811 : q_is (q_z f2805 mo 37) xo := by rw [ef2805, q_setz (Or.inl (fun q => by rw [q, kcs] at kmo; exact absurd kmo (by decide)))]; exact z2788
            have z2812 : q_is (q_z f2805 mo 35) x1634 := by rw [ef2805, q_setz (Or.inl (fun q => by rw [q, kcs] at kmo; exact absurd kmo (by decide)))]; exact z2789
            have z2813 : q_is (q_z f2805 mo 36) (xw + 1) := by rw [ef2805, q_setz (Or.inl (fun q => by rw [q, kcs] at kmo; exact absurd kmo (by decide)))]; exact z2790
            have z2814 : q_is (q_z f2805 mo 5) x2802 := by rw [ef2805, q_setz (Or.inl (fun q => by rw [q, kcs] at kmo; exact absurd kmo (by decide)))]; exact ex2802
            have z2815 : q_ir (q_r f2805 mo 13) sr := by rw [ef2805, q_setr (Or.inl (fun q => by rw [q, kcs] at kmo; exact absurd kmo (by decide)))]; exact z2791
            have z2816 : q_ir (q_r f2805 mo 18) nm := by rw [ef2805, q_setr (Or.inl (fun q => by rw [q, kcs] at kmo; exact absurd kmo (by decide)))]; exact z2792
            have z2817 : q_ir (q_r f2805 mo 1) bu := by rw [ef2805, q_setr (Or.inl (fun q => by rw [q, kcs] at kmo; exact absurd kmo (by decide)))]; exact z2793
            have z2818 : q_ir (q_r f2805 mo 29) cs := by rw [ef2805, q_setr (Or.inl (fun q => by rw [q, kcs] at kmo; exact absurd kmo (by decide)))]; exact z2794
            have z2819 : q_ir (q_r f2805 mo 30) c1 := by rw [ef2805, q_setr (Or.inl (fun q => by rw [q, kcs] at kmo; exact absurd kmo (by decide)))]; exact z2795
            have z2820 : q_ir (q_r f2805 mo 31) c2 := by rw [ef2805, q_setr (Or.inl (fun q => by rw [q, kcs] at kmo; exact absurd kmo (by decide)))]; exact z2796
            have z2821 : q_ir (q_r f2805 mo 32) c3 := by rw [ef2805, q_setr (Or.inl (fun q => by rw [q, kcs] at kmo; exact absurd kmo (by decide)))]; exact z2797
            have g2822 : tk_ub f2805 bu B tn := tk_ub_tr g2798 (fun i9 => by rw [ef2805, q_setz (Or.inl (fun q => by rw [q, kcs] at kbu; exact absurd kbu (by decide)))])
            have g2823 : tk_nq f2805 nm nl9 := tk_nq_tr g2799 (fun i9 => by rw [ef2805, q_setj (Or.inl (fun q => by rw [q, kcs] at knm; exact absurd knm (by decide)))])
            have g2824 : k_bl f f2805 c1 c2 60 := k_bl_tr g2800 (fun i9 => by rw [ef2805, q_setz (Or.inl (fun q => by rw [q, kcs] at kc1; exact absurd kc1 (by decide)))]) (fun i9 => by rw [ef2805, q_setz (Or.inl (fun q => by rw [q, kcs] at kc2; exact absurd kc2 (by decide)))])
            have g2825 : k_b1 f f2805 cs x1634 := k_b1_s g2801 ef2805 (by omega)
            have g2826 : tk_tr f2805 mo B tn := tk_tr_tr g2783 (by rw [ef2805, q_setz (Or.inl (fun q => by rw [q, kcs] at kmo; exact absurd kmo (by decide)))]) (by rw [ef2805, q_setz (Or.inl (fun q => by rw [q, kcs] at kmo; exact absurd kmo (by decide)))]) (by rw [ef2805, q_setz (Or.inl (fun q => by rw [q, kcs] at kmo; exact absurd kmo (by decide)))]) (by rw [ef2805, q_setz (Or.inl (fun q => by rw [q, kcs] at kmo; exact absurd kmo (by decide)))]) (by rw [ef2805, q_setj (Or.inl (fun q => by rw [q, kcs] at kmo; exact absurd kmo (by decide)))])
            refine q_ald_n cx dX12_command_82 rfl (lv_at hl 2 rfl) ?_
            refine q_ild_n cx dX12_command_83 rfl (lv_at hl 0 rfl) ?_
            refine q_ild_n cx dX12_command_84 rfl (lv_at hl 1 rfl) ?_
            refine q_cVv (As := [.int (q_i x1634), .int (q_i 5)]) (rest := []) cx hB (fun _ h => h) hN hmo kmo (by decide) rfl (f_mreadsNumbers5 l g hN hB.2.1 B nl9 mo hmo kmo x1634 (by omega) (by omega) 5 (by decide) (by decide) sr hsr ksr nm hnm knm bu hbu kbu c1 hc1 kc1 c2 hc2 kc2 c3 hc3 kc3 tn (by omega) (by omega) x2802 (by omega) (by omega) xc (by omega) (by omega) z2807 z2814 z2808 z2809 z2810 z2815 z2816 z2817 z2819 z2820 z2821 hp0 g2826 g2822 g2823) q_cX12_497 q_dX12_readsNumbers (by decide) rfl rfl hl.1 rfl (Nat.le_of_ble_eq_true rfl) dX12_command_85 (fun H locs f2827 h2829 hF hB => ?_)
            rcases h2829 with h2830 | h2831
            · obtain ⟨z2832, z2833, t2834, t2835, t2836, g2837⟩ := h2830
              have z2838 : q_is (q_z f2827 mo 3) tn := Eq.trans (hF.z hmo (by rw [kmo]; rfl)) z2807
              have z2839 : q_is (q_z f2827 sr 0) xc := Eq.trans (hF.z hsr (by rw [ksr]; rfl)) z2810
              have z2840 : q_is (q_z f2827 mo 37) xo := Eq.trans (hF.z hmo (by rw [kmo]; rfl)) z2811
              have z2841 : q_is (q_z f2827 mo 35) x1634 := Eq.trans (hF.z hmo (by rw [kmo]; rfl)) z2812
              have z2842 : q_is (q_z f2827 mo 36) (xw + 1) := Eq.trans (hF.z hmo (by rw [kmo]; rfl)) z2813
              have z2843 : q_is (q_z f2827 cs (Int.toNat x1634)) 5 := Eq.trans (hF.z hcs (by rw [kcs]; rfl)) z2806
              have z2844 : q_ir (q_r f2827 mo 13) sr := Eq.trans (hF.r hmo (by rw [kmo]; rfl)) z2815
              have z2845 : q_ir (q_r f2827 mo 18) nm := Eq.trans (hF.r hmo (by rw [kmo]; rfl)) z2816
              have z2846 : q_ir (q_r f2827 mo 1) bu := Eq.trans (hF.r hmo (by rw [kmo]; rfl)) z2817
              have z2847 : q_ir (q_r f2827 mo 29) cs := Eq.trans (hF.r hmo (by rw [kmo]; rfl)) z2818
              have z2848 : q_ir (q_r f2827 mo 30) c1 := Eq.trans (hF.r hmo (by rw [kmo]; rfl)) z2819
              have z2849 : q_ir (q_r f2827 mo 31) c2 := Eq.trans (hF.r hmo (by rw [kmo]; rfl)) z2820
              have z2850 : q_ir (q_r f2827 mo 32) c3 := Eq.trans (hF.r hmo (by rw [kmo]; rfl)) z2821
              have g2851 : tk_ub f2827 bu B tn := tk_ub_tr g2822 (fun i9 => hF.z hbu (by rw [kbu]; rfl))
              have g2852 : tk_nq f2827 nm nl9 := tk_nq_tr g2823 (fun i9 => hF.j hnm (by rw [knm]; rfl))
              have g2853 : k_b1 f f2827 cs x1634 := k_b1_tr g2825 (fun i9 => hF.z hcs (by rw [kcs]; rfl))
              obtain ⟨x2854, ex2854⟩ : ∃ zz, q_is (q_z f2827 mo 5) zz := ⟨_, q_isr _⟩
              obtain ⟨lx2854, ux2854⟩ := q_isb ex2854 (q_fib hB.2.1 hmo kmo (by decide) rfl)
              obtain ⟨-, l0x2854, u0x2854, -, -⟩ := tk_tr_n g2837 ex2854
              have hb9 : k_bl f f2827 c1 c2 x1634 := k_bl_cat g2824 t2836 (by omega)
              refine q_ald_n cx dX12_command_88 rfl (lv_at hl 2 rfl) ?_
              refine q_cVi (As := []) (rest := []) cx hB (fun _ h => h) hN hmo kmo (by decide) rfl (f_misGood l g hN hB.2.1 mo hmo kmo z2832) q_cX12_130 q_dX12_isGood (by decide) rfl rfl hl.1 rfl (Nat.le_of_ble_eq_true rfl) dX12_command_89 (fun y2856 H locs f2855 ry2856 h2857 hF hB => ?_)
              obtain ⟨rfl, qy2856⟩ := h2857
              subst qy2856
              refine q_ifne (tgt := 96) cx ⟨by decide, by decide⟩ dX12_command_92 (by decide) (fun c2858 => ?_) (fun c2858 => ?_)
              · refine q_ald_n cx dX12_command_96 rfl (lv_at hl 2 rfl) ?_
                refine lv_dup cx.1 cx.2.1 dX12_command_97 rfl ?_
                refine q_gX12_494 cx hB hmo kmo z2841 dX12_command_98 (fun lb2859 ub2859 => ?_)
                refine q_iconst cx dX12_command_101 ?_
                refine q_iadd cx dX12_command_102 ?_
                refine q_pX12_494 cx hB hmo kmo ⟨by omega, by omega⟩ (by omega) (by omega) rfl dX12_command_103 (fun H locs f2860 ef2860 z2861 hB => ?_)
                have z2862 : q_is (q_z f2860 mo 3) tn := by rw [ef2860, q_setz (Or.inr (by decide))]; exact z2838
                have z2863 : q_is (q_z f2860 sr 0) xc := by rw [ef2860, q_setz (Or.inr (by decide))]; exact z2839
                have z2864 : q_is (q_z f2860 mo 37) xo := by rw [ef2860, q_setz (Or.inr (by decide))]; exact z2840
                have z2865 : q_is (q_z f2860 mo 36) (xw + 1) := by rw [ef2860, q_setz (Or.inr (by decide))]; exact z2842
                have z2866 : q_is (q_z f2860 cs (Int.toNat x1634)) 5 := by rw [ef2860, q_setz (Or.inl (fun q => by rw [q, kmo] at kcs; exact absurd kcs (by decide)))]; exact z2843
                have z2867 : q_is (q_z f2860 mo 8) 0 := by rw [ef2860, q_setz (Or.inr (by decide))]; exact z2832
                have z2868 : q_is (q_z f2860 mo 9) (-1) := by rw [ef2860, q_setz (Or.inr (by decide))]; exact z2833
                have z2869 : q_is (q_z f2860 mo 5) x2854 := by rw [ef2860, q_setz (Or.inr (by decide))]; exact ex2854
                have z2870 : q_ir (q_r f2860 mo 13) sr := by rw [ef2860, q_setr (Or.inr (by decide))]; exact z2844
                have z2871 : q_ir (q_r f2860 mo 18) nm := by rw [ef2860, q_setr (Or.inr (by decide))]; exact z2845
                have z2872 : q_ir (q_r f2860 mo 1) bu := by rw [ef2860, q_setr (Or.inr (by decide))]; exact z2846
                have z2873 : q_ir (q_r f2860 mo 29) cs := by rw [ef2860, q_setr (Or.inr (by decide))]; exact z2847
                have z2874 : q_ir (q_r f2860 mo 30) c1 := by rw [ef2860, q_setr (Or.inr (by decide))]; exact z2848
                have z2875 : q_ir (q_r f2860 mo 31) c2 := by rw [ef2860, q_setr (Or.inr (by decide))]; exact z2849
                have z2876 : q_ir (q_r f2860 mo 32) c3 := by rw [ef2860, q_setr (Or.inr (by decide))]; exact z2850
                have g2877 : tk_ub f2860 bu B tn := tk_ub_tr g2851 (fun i9 => by rw [ef2860, q_setz (Or.inl (fun q => by rw [q, kmo] at kbu; exact absurd kbu (by decide)))])
                have g2878 : tk_nq f2860 nm nl9 := tk_nq_tr g2852 (fun i9 => by rw [ef2860, q_setj (Or.inl (fun q => by rw [q, kmo] at knm; exact absurd knm (by decide)))])
                have g2879 : k_b1 f f2860 cs x1634 := k_b1_tr g2853 (fun i9 => by rw [ef2860, q_setz (Or.inl (fun q => by rw [q, kmo] at kcs; exact absurd kcs (by decide)))])
                have g2880 : tk_tr f2860 mo B tn := tk_tr_tr g2837 (by rw [ef2860, q_setz (Or.inr (by decide))]) (by rw [ef2860, q_setz (Or.inr (by decide))]) (by rw [ef2860, q_setz (Or.inr (by decide))]) (by rw [ef2860, q_setz (Or.inr (by decide))]) (by rw [ef2860, q_setj (Or.inr (by decide))])
                have g2881 : k_cc 5 f2860 c1 c2 (Int.toNat x1634) := k_cc_tr t2835 (fun i9 => by rw [ef2860, q_setz (Or.inl (fun q => by rw [q, kmo] at kc1; exact absurd kc1 (by decide)))]) (fun i9 => by rw [ef2860, q_setz (Or.inl (fun q => by rw [q, kmo] at kc2; exact absurd kc2 (by decide)))])
                have g2882 : k_bl f f2860 c1 c2 x1634 := k_bl_tr hb9 (fun i9 => by rw [ef2860, q_setz (Or.inl (fun q => by rw [q, kmo] at kc1; exact absurd kc1 (by decide)))]) (fun i9 => by rw [ef2860, q_setz (Or.inl (fun q => by rw [q, kmo] at kc2; exact absurd kc2 (by decide)))])
                refine q_ald_n cx dX12_command_106 rfl (lv_at hl 2 rfl) ?_
                refine lv_dup cx.1 cx.2.1 dX12_command_107 rfl ?_
                refine q_gX12_488 cx hB hmo kmo z2864 dX12_command_108 (fun lb2883 ub2883 => ?_)
                refine q_ild_n cx dX12_command_111 rfl (lv_at hl 1 rfl) ?_
                refine q_bipush cx dX12_command_112 rfl ?_
                refine q_icne (tgt := 121) cx ⟨by decide, by decide⟩ ⟨by decide, by decide⟩ dX12_command_114 (by decide) (fun c2884 => ?_) (fun c2884 => ?_)
                · refine q_iconst cx dX12_command_121 ?_
                  refine q_cSi (As := [.int (q_i 0)]) (rest := [.int (q_i xo), .ref mo]) cx hB (fun _ h => h) hN (r_truth0 l g hN hB.2.1 0 (by decide) (by decide)) q_cX12_78 q_dX12_truth (by decide) rfl rfl hl.1 rfl (Nat.le_of_ble_eq_true rfl) dX12_command_122 (fun y2886 H locs f2885 ry2886 h2887 hF hB => ?_)
                  obtain ⟨rfl, qy2886⟩ := h2887
                  subst qy2886
                  refine q_iadd cx dX12_command_125 ?_
                  refine q_pX12_488 cx hB hmo kmo ⟨by omega, by omega⟩ (by omega) (by omega) rfl dX12_command_126 (fun H locs f2888 ef2888 z2889 hB => ?_)
                  have z2890 : q_is (q_z f2888 mo 3) tn := by rw [ef2888, q_setz (Or.inr (by decide))]; exact z2862
                  have z2891 : q_is (q_z f2888 sr 0) xc := by rw [ef2888, q_setz (Or.inr (by decide))]; exact z2863
                  have z2892 : q_is (q_z f2888 mo 36) (xw + 1) := by rw [ef2888, q_setz (Or.inr (by decide))]; exact z2865
                  have z2893 : q_is (q_z f2888 cs (Int.toNat x1634)) 5 := by rw [ef2888, q_setz (Or.inl (fun q => by rw [q, kmo] at kcs; exact absurd kcs (by decide)))]; exact z2866
                  have z2894 : q_is (q_z f2888 mo 8) 0 := by rw [ef2888, q_setz (Or.inr (by decide))]; exact z2867
                  have z2895 : q_is (q_z f2888 mo 9) (-1) := by rw [ef2888, q_setz (Or.inr (by decide))]; exact z2868
                  have z2896 : q_is (q_z f2888 mo 5) x2854 := by rw [ef2888, q_setz (Or.inr (by decide))]; exact z2869
                  have z2897 : q_is (q_z f2888 mo 35) (x1634 + 1) := by rw [ef2888, q_setz (Or.inr (by decide))]; exact z2861
                  have z2898 : q_ir (q_r f2888 mo 13) sr := by rw [ef2888, q_setr (Or.inr (by decide))]; exact z2870
                  have z2899 : q_ir (q_r f2888 mo 18) nm := by rw [ef2888, q_setr (Or.inr (by decide))]; exact z2871
                  have z2900 : q_ir (q_r f2888 mo 1) bu := by rw [ef2888, q_setr (Or.inr (by decide))]; exact z2872
                  have z2901 : q_ir (q_r f2888 mo 29) cs := by rw [ef2888, q_setr (Or.inr (by decide))]; exact z2873
                  have z2902 : q_ir (q_r f2888 mo 30) c1 := by rw [ef2888, q_setr (Or.inr (by decide))]; exact z2874
                  have z2903 : q_ir (q_r f2888 mo 31) c2 := by rw [ef2888, q_setr (Or.inr (by decide))]; exact z2875
                  have z2904 : q_ir (q_r f2888 mo 32) c3 := by rw [ef2888, q_setr (Or.inr (by decide))]; exact z2876
                  have g2905 : tk_ub f2888 bu B tn := tk_ub_tr g2877 (fun i9 => by rw [ef2888, q_setz (Or.inl (fun q => by rw [q, kmo] at kbu; exact absurd kbu (by decide)))])
                  have g2906 : tk_nq f2888 nm nl9 := tk_nq_tr g2878 (fun i9 => by rw [ef2888, q_setj (Or.inl (fun q => by rw [q, kmo] at knm; exact absurd knm (by decide)))])
                  have g2907 : k_b1 f f2888 cs x1634 := k_b1_tr g2879 (fun i9 => by rw [ef2888, q_setz (Or.inl (fun q => by rw [q, kmo] at kcs; exact absurd kcs (by decide)))])
                  have g2908 : tk_tr f2888 mo B tn := tk_tr_tr g2880 (by rw [ef2888, q_setz (Or.inr (by decide))]) (by rw [ef2888, q_setz (Or.inr (by decide))]) (by rw [ef2888, q_setz (Or.inr (by decide))]) (by rw [ef2888, q_setz (Or.inr (by decide))]) (by rw [ef2888, q_setj (Or.inr (by decide))])
                  have g2909 : k_cc 5 f2888 c1 c2 (Int.toNat x1634) := k_cc_tr g2881 (fun i9 => by rw [ef2888, q_setz (Or.inl (fun q => by rw [q, kmo] at kc1; exact absurd kc1 (by decide)))]) (fun i9 => by rw [ef2888, q_setz (Or.inl (fun q => by rw [q, kmo] at kc2; exact absurd kc2 (by decide)))])
                  have g2910 : k_bl f f2888 c1 c2 x1634 := k_bl_tr g2882 (fun i9 => by rw [ef2888, q_setz (Or.inl (fun q => by rw [q, kmo] at kc1; exact absurd kc1 (by decide)))]) (fun i9 => by rw [ef2888, q_setz (Or.inl (fun q => by rw [q, kmo] at kc2; exact absurd kc2 (by decide)))])
                  have hsp : k_stp 5 = 0 := rfl
                  have hsc9 : q_sc f2888 mo cs c1 c2 := k_sc_add (c := 5) hsc ex1634 hf5 hf6 z2897 z2892 (Eq.trans z2889 (by rw [hsp] <;> omega)) (by omega) z2893 g2909 g2907 g2910 (by rw [hsp] <;> omega) (by rw [hsp] <;> omega)
                  refine q_vret cx hr hlk hB dX12_command_129 ?_
                  exact (Or.inl ⟨z2894, z2895, (Eq.trans z2889 (by omega)), z2892, (tk_xok (tk_cm_go (d1 := xo) (c1 := xw + 1) t2747 (by decide) (by omega) (by omega) (Eq.trans (Eq.symm ex2802) t2782) (tk_okx t2834 ex2854) (tk_ifn (by decide)) rfl) z2896 (Eq.trans z2889 (by omega)) (Eq.trans z2892 (by omega))), (by omega), hsc9, g2908⟩)
                · exact absurd c2884 (by omega)
              · exact absurd c2858 (by omega)
            · obtain ⟨lz2911, uz2911, t2912, g2913⟩ := h2831
              have z2914 : q_is (q_z f2827 mo 3) tn := Eq.trans (hF.z hmo (by rw [kmo]; rfl)) z2807
              have z2915 : q_is (q_z f2827 sr 0) xc := Eq.trans (hF.z hsr (by rw [ksr]; rfl)) z2810
              have z2916 : q_is (q_z f2827 mo 37) xo := Eq.trans (hF.z hmo (by rw [kmo]; rfl)) z2811
              have z2917 : q_is (q_z f2827 mo 35) x1634 := Eq.trans (hF.z hmo (by rw [kmo]; rfl)) z2812
              have z2918 : q_is (q_z f2827 mo 36) (xw + 1) := Eq.trans (hF.z hmo (by rw [kmo]; rfl)) z2813
              have z2919 : q_is (q_z f2827 cs (Int.toNat x1634)) 5 := Eq.trans (hF.z hcs (by rw [kcs]; rfl)) z2806
              have z2920 : q_ir (q_r f2827 mo 13) sr := Eq.trans (hF.r hmo (by rw [kmo]; rfl)) z2815
              have z2921 : q_ir (q_r f2827 mo 18) nm := Eq.trans (hF.r hmo (by rw [kmo]; rfl)) z2816
              have z2922 : q_ir (q_r f2827 mo 1) bu := Eq.trans (hF.r hmo (by rw [kmo]; rfl)) z2817
              have z2923 : q_ir (q_r f2827 mo 29) cs := Eq.trans (hF.r hmo (by rw [kmo]; rfl)) z2818
              have z2924 : q_ir (q_r f2827 mo 30) c1 := Eq.trans (hF.r hmo (by rw [kmo]; rfl)) z2819
              have z2925 : q_ir (q_r f2827 mo 31) c2 := Eq.trans (hF.r hmo (by rw [kmo]; rfl)) z2820
              have z2926 : q_ir (q_r f2827 mo 32) c3 := Eq.trans (hF.r hmo (by rw [kmo]; rfl)) z2821
              have g2927 : tk_ub f2827 bu B tn := tk_ub_tr g2822 (fun i9 => hF.z hbu (by rw [kbu]; rfl))
              have g2928 : tk_nq f2827 nm nl9 := tk_nq_tr g2823 (fun i9 => hF.j hnm (by rw [knm]; rfl))
              have g2929 : k_b1 f f2827 cs x1634 := k_b1_tr g2825 (fun i9 => hF.z hcs (by rw [kcs]; rfl))
              obtain ⟨x2930, ex2930⟩ : ∃ zz, q_is (q_z f2827 mo 8) zz := ⟨_, q_isr _⟩
              obtain ⟨lx2930, ux2930⟩ := q_isb ex2930 ⟨lz2911, uz2911⟩
              obtain ⟨x2931, ex2931⟩ : ∃ zz, q_is (q_z f2827 mo 5) zz := ⟨_, q_isr _⟩
              obtain ⟨lx2931, ux2931⟩ := q_isb ex2931 (q_fib hB.2.1 hmo kmo (by decide) rfl)
              obtain ⟨x2932, ex2932⟩ : ∃ zz, q_is (q_z f2827 mo 9) zz := ⟨_, q_isr _⟩
              obtain ⟨lx2932, ux2932⟩ := q_isb ex2932 (q_fib hB.2.1 hmo kmo (by decide) rfl)
              obtain ⟨-, l0x2931, u0x2931, -, -⟩ := tk_tr_n g2913 ex2931
              refine q_ald_n cx dX12_command_88 rfl (lv_at hl 2 rfl) ?_
              refine q_cVi (As := []) (rest := []) cx hB (fun _ h => h) hN hmo kmo (by decide) rfl (r_isGood1 l g hN hB.2.1 mo hmo kmo x2930 (by omega) (by omega) ex2930) q_cX12_130 q_dX12_isGood (by decide) rfl rfl hl.1 rfl (Nat.le_of_ble_eq_true rfl) dX12_command_89 (fun y2934 H locs f2933 ry2934 h2935 hF hB => ?_)
              obtain ⟨rfl, qy2934⟩ := h2935
              subst qy2934
              refine q_ifne (tgt := 96) cx ⟨by decide, by decide⟩ dX12_command_92 (by decide) (fun c2936 => ?_) (fun c2936 => ?_)
              · exact absurd c2936 (by omega)
              · refine q_vret cx hr hlk hB dX12_command_95 ?_
                exact (Or.inr (Or.inr ⟨(q_isl ex2930 (by omega)), (q_isu ex2930 (by omega)), (tk_erp (tk_cm_er t2747 (by decide) (by omega) (by omega) (Eq.trans (Eq.symm ex2802) t2782) (tk_erx t2912 ex2930 ex2932)) ex2930 ex2932), g2913⟩))
          · exact absurd c2755 (by omega)
        · refine q_ald_n cx dX12_command_43 rfl (lv_at hl 1 rfl) ?_
          refine q_iconst cx dX12_command_44 ?_
          refine q_cVv (As := [.int (q_i 5)]) (rest := []) cx hB (fun _ h => h) hN hmo kmo (by decide) rfl (f_mwrongk l g hN hB.2.1 mo hmo kmo 5 (by decide) (by decide) ss (by omega) (by omega) 1 (by decide) (by decide) hf1 z2746 hf2 hf3) q_cX12_137 q_dX12_wrong (by decide) rfl rfl hl.1 rfl (Nat.le_of_ble_eq_true rfl) dX12_command_45 (fun H locs f2937 h2939 hF hB => ?_)
          obtain ⟨z2940, z2941⟩ := h2939
          have z2942 : q_is (q_z f2937 mo 3) tn := Eq.trans (hF.z hmo (by rw [kmo]; rfl)) hf0
          have z2943 : q_is (q_z f2937 mo 5) ss := Eq.trans (hF.z hmo (by rw [kmo]; rfl)) hf1
          have z2944 : q_is (q_z f2937 sr 0) xc := Eq.trans (hF.z hsr (by rw [ksr]; rfl)) hf4
          have z2945 : q_is (q_z f2937 mo 37) xo := Eq.trans (hF.z hmo (by rw [kmo]; rfl)) hf5
          have z2946 : q_is (q_z f2937 mo 36) xw := Eq.trans (hF.z hmo (by rw [kmo]; rfl)) hf6
          have z2947 : q_is (q_z f2937 mo 35) x1634 := Eq.trans (hF.z hmo (by rw [kmo]; rfl)) ex1634
          have z2948 : q_is (q_z f2937 mo 6) 1 := Eq.trans (hF.z hmo (by rw [kmo]; rfl)) z2746
          have z2949 : q_ir (q_r f2937 mo 13) sr := Eq.trans (hF.r hmo (by rw [kmo]; rfl)) hr0
          have z2950 : q_ir (q_r f2937 mo 18) nm := Eq.trans (hF.r hmo (by rw [kmo]; rfl)) hr1
          have z2951 : q_ir (q_r f2937 mo 1) bu := Eq.trans (hF.r hmo (by rw [kmo]; rfl)) hr2
          have z2952 : q_ir (q_r f2937 mo 29) cs := Eq.trans (hF.r hmo (by rw [kmo]; rfl)) hr3
          have z2953 : q_ir (q_r f2937 mo 30) c1 := Eq.trans (hF.r hmo (by rw [kmo]; rfl)) hr4
          have z2954 : q_ir (q_r f2937 mo 31) c2 := Eq.trans (hF.r hmo (by rw [kmo]; rfl)) hr5
          have z2955 : q_ir (q_r f2937 mo 32) c3 := Eq.trans (hF.r hmo (by rw [kmo]; rfl)) hr6
          have g2956 : tk_tr f2937 mo B tn := tk_tr_tr htr (hF.z hmo (by rw [kmo]; rfl)) (hF.z hmo (by rw [kmo]; rfl)) (hF.z hmo (by rw [kmo]; rfl)) (hF.z hmo (by rw [kmo]; rfl)) (hF.j hmo (by rw [kmo]; rfl))
          have g2957 : tk_ub f2937 bu B tn := tk_ub_tr hub (fun i9 => hF.z hbu (by rw [kbu]; rfl))
          have g2958 : tk_nq f2937 nm nl9 := tk_nq_tr hrn (fun i9 => hF.j hnm (by rw [knm]; rfl))
          have g2959 : q_sc f2937 mo cs c1 c2 := q_sc_tr hsc (hF.z hmo (by rw [kmo]; rfl)) (hF.z hmo (by rw [kmo]; rfl)) (hF.z hmo (by rw [kmo]; rfl)) (fun i9 => hF.z hcs (by rw [kcs]; rfl)) (fun i9 => hF.z hc1 (by rw [kc1]; rfl)) (fun i9 => hF.z hc2 (by rw [kc2]; rfl))
          have g2960 : k_bl f f2937 c1 c2 60 := k_bl_tr hbx (fun i9 => hF.z hc1 (by rw [kc1]; rfl)) (fun i9 => hF.z hc2 (by rw [kc2]; rfl))
          have g2961 : k_b1 f f2937 cs x1634 := k_b1_tr hbs (fun i9 => hF.z hcs (by rw [kcs]; rfl))
          refine q_ald_n cx dX12_command_48 rfl (lv_at hl 1 rfl) ?_
          refine q_cVi (As := []) (rest := []) cx hB (fun _ h => h) hN hmo kmo (by decide) rfl (r_isGood1 l g hN hB.2.1 mo hmo kmo 5 (by decide) (by decide) z2940) q_cX12_130 q_dX12_isGood (by decide) rfl rfl hl.1 rfl (Nat.le_of_ble_eq_true rfl) dX12_command_49 (fun y2963 H locs f2962 ry2963 h2964 hF hB => ?_)
          obtain ⟨rfl, qy2963⟩ := h2964
          subst qy2963
          refine q_ifne (tgt := 56) cx ⟨by decide, by decide⟩ dX12_command_52 (by decide) (fun c2965 => ?_) (fun c2965 => ?_)
          · exact absurd c2965 (by omega)
          · refine q_vret cx hr hlk hB dX12_command_55 ?_
            exact (Or.inr (Or.inr ⟨(q_isl z2940 (by omega)), (q_isu z2940 (by omega)), (tk_cm_e5 t2747 (by decide) (by omega) (by omega) z2940 z2941), g2956⟩))
      · exact absurd c2749 (by omega)
    · exact absurd c2748 (by omega)
  · obtain ⟨rfl, qy1636, z2966, t2967⟩ := h1644
    subst qy1636
    refine lv_istore_n (lv' := [(1, .int (q_i 6)), (0, .ref mo)]) cx.1 cx.2.1 dX12_command_4 rfl hl (by decide) rfl (fun ls hl => ?_)
    refine q_ild_n cx dX12_command_5 rfl (lv_at hl 0 rfl) ?_
    refine q_iconst cx dX12_command_6 ?_
    refine q_icne (tgt := 15) cx ⟨by decide, by decide⟩ ⟨by decide, by decide⟩ dX12_command_7 (by decide) (fun c2968 => ?_) (fun c2968 => ?_)
    · refine q_ild_n cx dX12_command_15 rfl (lv_at hl 0 rfl) ?_
      refine q_bipush cx dX12_command_16 rfl ?_
      refine q_icne (tgt := 34) cx ⟨by decide, by decide⟩ ⟨by decide, by decide⟩ dX12_command_18 (by decide) (fun c2969 => ?_) (fun c2969 => ?_)
      · exact absurd c2969 (by omega)
      · refine q_ald_n cx dX12_command_21 rfl (lv_at hl 1 rfl) ?_
        refine q_gX12_488 cx hB hmo kmo hf5 dX12_command_22 (fun lb2970 ub2970 => ?_)
        refine q_iconst cx dX12_command_25 ?_
        refine q_icne (tgt := 34) cx ⟨by omega, by omega⟩ ⟨by decide, by decide⟩ dX12_command_26 (by decide) (fun c2971 => ?_) (fun c2971 => ?_)
        · refine q_ald_n cx dX12_command_34 rfl (lv_at hl 1 rfl) ?_
          refine q_gX12_491 cx hB hmo kmo hf6 dX12_command_35 (fun lb2972 ub2972 => ?_)
          refine q_bipush cx dX12_command_38 rfl ?_
          refine q_icne (tgt := 48) cx ⟨by omega, by omega⟩ ⟨by decide, by decide⟩ dX12_command_40 (by decide) (fun c2973 => ?_) (fun c2973 => ?_)
          · refine q_ald_n cx dX12_command_48 rfl (lv_at hl 1 rfl) ?_
            refine q_cVi (As := []) (rest := []) cx hB (fun _ h => h) hN hmo kmo (by decide) rfl (f_misGood l g hN hB.2.1 mo hmo kmo hf2) q_cX12_130 q_dX12_isGood (by decide) rfl rfl hl.1 rfl (Nat.le_of_ble_eq_true rfl) dX12_command_49 (fun y2975 H locs f2974 ry2975 h2976 hF hB => ?_)
            obtain ⟨rfl, qy2975⟩ := h2976
            subst qy2975
            refine q_ifne (tgt := 56) cx ⟨by decide, by decide⟩ dX12_command_52 (by decide) (fun c2977 => ?_) (fun c2977 => ?_)
            · refine q_ald_n cx dX12_command_56 rfl (lv_at hl 1 rfl) ?_
              refine lv_dup cx.1 cx.2.1 dX12_command_57 rfl ?_
              refine q_gX12_491 cx hB hmo kmo hf6 dX12_command_58 (fun lb2978 ub2978 => ?_)
              refine q_iconst cx dX12_command_61 ?_
              refine q_iadd cx dX12_command_62 ?_
              refine q_pX12_491 cx hB hmo kmo ⟨by omega, by omega⟩ (by omega) (by omega) rfl dX12_command_63 (fun H locs f2979 ef2979 z2980 hB => ?_)
              have z2981 : q_is (q_z f2979 mo 3) tn := by rw [ef2979, q_setz (Or.inr (by decide))]; exact hf0
              have z2982 : q_is (q_z f2979 mo 5) ss := by rw [ef2979, q_setz (Or.inr (by decide))]; exact hf1
              have z2983 : q_is (q_z f2979 mo 8) 0 := by rw [ef2979, q_setz (Or.inr (by decide))]; exact hf2
              have z2984 : q_is (q_z f2979 mo 9) (-1) := by rw [ef2979, q_setz (Or.inr (by decide))]; exact hf3
              have z2985 : q_is (q_z f2979 sr 0) xc := by rw [ef2979, q_setz (Or.inr (by decide))]; exact hf4
              have z2986 : q_is (q_z f2979 mo 37) xo := by rw [ef2979, q_setz (Or.inr (by decide))]; exact hf5
              have z2987 : q_is (q_z f2979 mo 35) x1634 := by rw [ef2979, q_setz (Or.inr (by decide))]; exact ex1634
              have z2988 : q_is (q_z f2979 mo 6) 1 := by rw [ef2979, q_setz (Or.inr (by decide))]; exact z2966
              have z2989 : q_ir (q_r f2979 mo 13) sr := by rw [ef2979, q_setr (Or.inr (by decide))]; exact hr0
              have z2990 : q_ir (q_r f2979 mo 18) nm := by rw [ef2979, q_setr (Or.inr (by decide))]; exact hr1
              have z2991 : q_ir (q_r f2979 mo 1) bu := by rw [ef2979, q_setr (Or.inr (by decide))]; exact hr2
              have z2992 : q_ir (q_r f2979 mo 29) cs := by rw [ef2979, q_setr (Or.inr (by decide))]; exact hr3
              have z2993 : q_ir (q_r f2979 mo 30) c1 := by rw [ef2979, q_setr (Or.inr (by decide))]; exact hr4
              have z2994 : q_ir (q_r f2979 mo 31) c2 := by rw [ef2979, q_setr (Or.inr (by decide))]; exact hr5
              have z2995 : q_ir (q_r f2979 mo 32) c3 := by rw [ef2979, q_setr (Or.inr (by decide))]; exact hr6
              have g2996 : tk_tr f2979 mo B tn := tk_tr_tr htr (by rw [ef2979, q_setz (Or.inr (by decide))]) (by rw [ef2979, q_setz (Or.inr (by decide))]) (by rw [ef2979, q_setz (Or.inr (by decide))]) (by rw [ef2979, q_setz (Or.inr (by decide))]) (by rw [ef2979, q_setj (Or.inr (by decide))])
              have g2997 : tk_ub f2979 bu B tn := tk_ub_tr hub (fun i9 => by rw [ef2979, q_setz (Or.inl (fun q => by rw [q, kmo] at kbu; exact absurd kbu (by decide)))])
              have g2998 : tk_nq f2979 nm nl9 := tk_nq_tr hrn (fun i9 => by rw [ef2979, q_setj (Or.inl (fun q => by rw [q, kmo] at knm; exact absurd knm (by decide)))])
              have g2999 : k_bl f f2979 c1 c2 60 := k_bl_tr hbx (fun i9 => by rw [ef2979, q_setz (Or.inl (fun q => by rw [q, kmo] at kc1; exact absurd kc1 (by decide)))]) (fun i9 => by rw [ef2979, q_setz (Or.inl (fun q => by rw [q, kmo] at kc2; exact absurd kc2 (by decide)))])
              have g3000 : k_b1 f f2979 cs x1634 := k_b1_tr hbs (fun i9 => by rw [ef2979, q_setz (Or.inl (fun q => by rw [q, kmo] at kcs; exact absurd kcs (by decide)))])
              refine q_ald_n cx dX12_command_66 rfl (lv_at hl 1 rfl) ?_
              refine q_cVv (As := []) (rest := []) cx hB (fun _ h => h) hN hmo kmo (by decide) rfl (f_mon l g hN hB.2.1 B mo hmo kmo bu hbu kbu tn (by omega) (by omega) ss (by omega) (by omega) z2981 z2982 z2991 g2996 g2997) q_cX12_140 q_dX12_goOn (by decide) rfl rfl hl.1 rfl (Nat.le_of_ble_eq_true rfl) dX12_command_67 (fun H locs f3001 h3003 hF hB => ?_)
              obtain ⟨t3004, g3005⟩ := h3003
              have z3006 : q_is (q_z f3001 mo 3) tn := Eq.trans (hF.z hmo (by rw [kmo]; rfl)) z2981
              have z3007 : q_is (q_z f3001 mo 8) 0 := Eq.trans (hF.z hmo (by rw [kmo]; rfl)) z2983
              have z3008 : q_is (q_z f3001 mo 9) (-1) := Eq.trans (hF.z hmo (by rw [kmo]; rfl)) z2984
              have z3009 : q_is (q_z f3001 sr 0) xc := Eq.trans (hF.z hsr (by rw [ksr]; rfl)) z2985
              have z3010 : q_is (q_z f3001 mo 37) xo := Eq.trans (hF.z hmo (by rw [kmo]; rfl)) z2986
              have z3011 : q_is (q_z f3001 mo 35) x1634 := Eq.trans (hF.z hmo (by rw [kmo]; rfl)) z2987
              have z3012 : q_is (q_z f3001 mo 36) (xw + 1) := Eq.trans (hF.z hmo (by rw [kmo]; rfl)) z2980
              have z3013 : q_ir (q_r f3001 mo 13) sr := Eq.trans (hF.r hmo (by rw [kmo]; rfl)) z2989
              have z3014 : q_ir (q_r f3001 mo 18) nm := Eq.trans (hF.r hmo (by rw [kmo]; rfl)) z2990
              have z3015 : q_ir (q_r f3001 mo 1) bu := Eq.trans (hF.r hmo (by rw [kmo]; rfl)) z2991
              have z3016 : q_ir (q_r f3001 mo 29) cs := Eq.trans (hF.r hmo (by rw [kmo]; rfl)) z2992
              have z3017 : q_ir (q_r f3001 mo 30) c1 := Eq.trans (hF.r hmo (by rw [kmo]; rfl)) z2993
              have z3018 : q_ir (q_r f3001 mo 31) c2 := Eq.trans (hF.r hmo (by rw [kmo]; rfl)) z2994
              have z3019 : q_ir (q_r f3001 mo 32) c3 := Eq.trans (hF.r hmo (by rw [kmo]; rfl)) z2995
              have g3020 : tk_ub f3001 bu B tn := tk_ub_tr g2997 (fun i9 => hF.z hbu (by rw [kbu]; rfl))
              have g3021 : tk_nq f3001 nm nl9 := tk_nq_tr g2998 (fun i9 => hF.j hnm (by rw [knm]; rfl))
              have g3022 : k_bl f f3001 c1 c2 60 := k_bl_tr g2999 (fun i9 => hF.z hc1 (by rw [kc1]; rfl)) (fun i9 => hF.z hc2 (by rw [kc2]; rfl))
              have g3023 : k_b1 f f3001 cs x1634 := k_b1_tr g3000 (fun i9 => hF.z hcs (by rw [kcs]; rfl))
              obtain ⟨x3024, ex3024⟩ : ∃ zz, q_is (q_z f3001 mo 5) zz := ⟨_, q_isr _⟩
              obtain ⟨lx3024, ux3024⟩ := q_isb ex3024 (q_fib hB.2.1 hmo kmo (by decide) rfl)
              obtain ⟨-, l0x3024, u0x3024, -, -⟩ := tk_tr_n g3005 ex3024
              refine q_ald_n cx dX12_command_70 rfl (lv_at hl 1 rfl) ?_
              refine q_gX12_494 cx hB hmo kmo z3011 dX12_command_71 (fun lb3025 ub3025 => ?_)
              refine lv_istore_n (lv' := [(2, .int (q_i x1634)), (1, .int (q_i 6)), (0, .ref mo)]) cx.1 cx.2.1 dX12_command_74 rfl hl (by decide) rfl (fun ls hl => ?_)
              refine q_ald_n cx dX12_command_75 rfl (lv_at hl 2 rfl) ?_
              refine q_gX12_51 cx hB hmo kmo z3016 dX12_command_76 (fun hb3026 kb3026 => ?_)
              refine q_ild_n cx dX12_command_79 rfl (lv_at hl 0 rfl) ?_
              refine q_ild_n cx dX12_command_80 rfl (lv_at hl 1 rfl) ?_
              refine q_iast (lo := 0) (hi := 7) (n := 60) cx hB hcs kcs (by decide) rfl rfl (by omega) (by omega) (by decide) rfl ⟨by decide, by decide⟩ (by decide) (by decide) (q_inWi (lo := 0) (hi := 58) (by decide) (by omega) (by omega)) dX12_command_81 (fun H locs f3027 ef3027 z3028 hB => ?_)
              have z3029 : q_is (q_z f3027 mo 3) tn := by rw [ef3027, q_setz (Or.inl (fun q => by rw [q, kcs] at kmo; exact absurd kmo (by decide)))]; exact z3006
              have z3030 : q_is (q_z f3027 mo 8) 0 := by rw [ef3027, q_setz (Or.inl (fun q => by rw [q, kcs] at kmo; exact absurd kmo (by decide)))]; exact z3007
              have z3031 : q_is (q_z f3027 mo 9) (-1) := by rw [ef3027, q_setz (Or.inl (fun q => by rw [q, kcs] at kmo; exact absurd kmo (by decide)))]; exact z3008
              have z3032 : q_is (q_z f3027 sr 0) xc := by rw [ef3027, q_setz (Or.inl (fun q => by rw [q, kcs] at ksr; exact absurd ksr (by decide)))]; exact z3009
              have z3033 : q_is (q_z f3027 mo 37) xo := by rw [ef3027, q_setz (Or.inl (fun q => by rw [q, kcs] at kmo; exact absurd kmo (by decide)))]; exact z3010
              have z3034 : q_is (q_z f3027 mo 35) x1634 := by rw [ef3027, q_setz (Or.inl (fun q => by rw [q, kcs] at kmo; exact absurd kmo (by decide)))]; exact z3011
              have z3035 : q_is (q_z f3027 mo 36) (xw + 1) := by rw [ef3027, q_setz (Or.inl (fun q => by rw [q, kcs] at kmo; exact absurd kmo (by decide)))]; exact z3012
              have z3036 : q_is (q_z f3027 mo 5) x3024 := by rw [ef3027, q_setz (Or.inl (fun q => by rw [q, kcs] at kmo; exact absurd kmo (by decide)))]; exact ex3024
              have z3037 : q_ir (q_r f3027 mo 13) sr := by rw [ef3027, q_setr (Or.inl (fun q => by rw [q, kcs] at kmo; exact absurd kmo (by decide)))]; exact z3013
              have z3038 : q_ir (q_r f3027 mo 18) nm := by rw [ef3027, q_setr (Or.inl (fun q => by rw [q, kcs] at kmo; exact absurd kmo (by decide)))]; exact z3014
              have z3039 : q_ir (q_r f3027 mo 1) bu := by rw [ef3027, q_setr (Or.inl (fun q => by rw [q, kcs] at kmo; exact absurd kmo (by decide)))]; exact z3015
              have z3040 : q_ir (q_r f3027 mo 29) cs := by rw [ef3027, q_setr (Or.inl (fun q => by rw [q, kcs] at kmo; exact absurd kmo (by decide)))]; exact z3016
              have z3041 : q_ir (q_r f3027 mo 30) c1 := by rw [ef3027, q_setr (Or.inl (fun q => by rw [q, kcs] at kmo; exact absurd kmo (by decide)))]; exact z3017
              have z3042 : q_ir (q_r f3027 mo 31) c2 := by rw [ef3027, q_setr (Or.inl (fun q => by rw [q, kcs] at kmo; exact absurd kmo (by decide)))]; exact z3018
              have z3043 : q_ir (q_r f3027 mo 32) c3 := by rw [ef3027, q_setr (Or.inl (fun q => by rw [q, kcs] at kmo; exact absurd kmo (by decide)))]; exact z3019
              have g3044 : tk_ub f3027 bu B tn := tk_ub_tr g3020 (fun i9 => by rw [ef3027, q_setz (Or.inl (fun q => by rw [q, kcs] at kbu; exact absurd kbu (by decide)))])
              have g3045 : tk_nq f3027 nm nl9 := tk_nq_tr g3021 (fun i9 => by rw [ef3027, q_setj (Or.inl (fun q => by rw [q, kcs] at knm; exact absurd knm (by decide)))])
              have g3046 : k_bl f f3027 c1 c2 60 := k_bl_tr g3022 (fun i9 => by rw [ef3027, q_setz (Or.inl (fun q => by rw [q, kcs] at kc1; exact absurd kc1 (by decide)))]) (fun i9 => by rw [ef3027, q_setz (Or.inl (fun q => by rw [q, kcs] at kc2; exact absurd kc2 (by decide)))])
              have g3047 : k_b1 f f3027 cs x1634 := k_b1_s g3023 ef3027 (by omega)
              have g3048 : tk_tr f3027 mo B tn := tk_tr_tr g3005 (by rw [ef3027, q_setz (Or.inl (fun q => by rw [q, kcs] at kmo; exact absurd kmo (by decide)))]) (by rw [ef3027, q_setz (Or.inl (fun q => by rw [q, kcs] at kmo; exact absurd kmo (by decide)))]) (by rw [ef3027, q_setz (Or.inl (fun q => by rw [q, kcs] at kmo; exact absurd kmo (by decide)))]) (by rw [ef3027, q_setz (Or.inl (fun q => by rw [q, kcs] at kmo; exact absurd kmo (by decide)))]) (by rw [ef3027, q_setj (Or.inl (fun q => by rw [q, kcs] at kmo; exact absurd kmo (by decide)))])
              refine q_ald_n cx dX12_command_82 rfl (lv_at hl 2 rfl) ?_
              refine q_ild_n cx dX12_command_83 rfl (lv_at hl 0 rfl) ?_
              refine q_ild_n cx dX12_command_84 rfl (lv_at hl 1 rfl) ?_
              refine q_cVv (As := [.int (q_i x1634), .int (q_i 6)]) (rest := []) cx hB (fun _ h => h) hN hmo kmo (by decide) rfl (f_mreadsNumbers6 l g hN hB.2.1 B nl9 mo hmo kmo x1634 (by omega) (by omega) 6 (by decide) (by decide) sr hsr ksr nm hnm knm bu hbu kbu c1 hc1 kc1 c2 hc2 kc2 c3 hc3 kc3 tn (by omega) (by omega) x3024 (by omega) (by omega) xc (by omega) (by omega) z3029 z3036 z3030 z3031 z3032 z3037 z3038 z3039 z3041 z3042 z3043 hp0 g3048 g3044 g3045) q_cX12_497 q_dX12_readsNumbers (by decide) rfl rfl hl.1 rfl (Nat.le_of_ble_eq_true rfl) dX12_command_85 (fun H locs f3049 h3051 hF hB => ?_)
              rcases h3051 with h3052 | h3053
              · obtain ⟨z3054, z3055, t3056, t3057, t3058, g3059⟩ := h3052
                have z3060 : q_is (q_z f3049 mo 3) tn := Eq.trans (hF.z hmo (by rw [kmo]; rfl)) z3029
                have z3061 : q_is (q_z f3049 sr 0) xc := Eq.trans (hF.z hsr (by rw [ksr]; rfl)) z3032
                have z3062 : q_is (q_z f3049 mo 37) xo := Eq.trans (hF.z hmo (by rw [kmo]; rfl)) z3033
                have z3063 : q_is (q_z f3049 mo 35) x1634 := Eq.trans (hF.z hmo (by rw [kmo]; rfl)) z3034
                have z3064 : q_is (q_z f3049 mo 36) (xw + 1) := Eq.trans (hF.z hmo (by rw [kmo]; rfl)) z3035
                have z3065 : q_is (q_z f3049 cs (Int.toNat x1634)) 6 := Eq.trans (hF.z hcs (by rw [kcs]; rfl)) z3028
                have z3066 : q_ir (q_r f3049 mo 13) sr := Eq.trans (hF.r hmo (by rw [kmo]; rfl)) z3037
                have z3067 : q_ir (q_r f3049 mo 18) nm := Eq.trans (hF.r hmo (by rw [kmo]; rfl)) z3038
                have z3068 : q_ir (q_r f3049 mo 1) bu := Eq.trans (hF.r hmo (by rw [kmo]; rfl)) z3039
                have z3069 : q_ir (q_r f3049 mo 29) cs := Eq.trans (hF.r hmo (by rw [kmo]; rfl)) z3040
                have z3070 : q_ir (q_r f3049 mo 30) c1 := Eq.trans (hF.r hmo (by rw [kmo]; rfl)) z3041
                have z3071 : q_ir (q_r f3049 mo 31) c2 := Eq.trans (hF.r hmo (by rw [kmo]; rfl)) z3042
                have z3072 : q_ir (q_r f3049 mo 32) c3 := Eq.trans (hF.r hmo (by rw [kmo]; rfl)) z3043
                have g3073 : tk_ub f3049 bu B tn := tk_ub_tr g3044 (fun i9 => hF.z hbu (by rw [kbu]; rfl))
                have g3074 : tk_nq f3049 nm nl9 := tk_nq_tr g3045 (fun i9 => hF.j hnm (by rw [knm]; rfl))
                have g3075 : k_b1 f f3049 cs x1634 := k_b1_tr g3047 (fun i9 => hF.z hcs (by rw [kcs]; rfl))
                obtain ⟨x3076, ex3076⟩ : ∃ zz, q_is (q_z f3049 mo 5) zz := ⟨_, q_isr _⟩
                obtain ⟨lx3076, ux3076⟩ := q_isb ex3076 (q_fib hB.2.1 hmo kmo (by decide) rfl)
                obtain ⟨-, l0x3076, u0x3076, -, -⟩ := tk_tr_n g3059 ex3076
                have hb9 : k_bl f f3049 c1 c2 x1634 := k_bl_cat g3046 t3058 (by omega)
                refine q_ald_n cx dX12_command_88 rfl (lv_at hl 2 rfl) ?_
                refine q_cVi (As := []) (rest := []) cx hB (fun _ h => h) hN hmo kmo (by decide) rfl (f_misGood l g hN hB.2.1 mo hmo kmo z3054) q_cX12_130 q_dX12_isGood (by decide) rfl rfl hl.1 rfl (Nat.le_of_ble_eq_true rfl) dX12_command_89 (fun y3078 H locs f3077 ry3078 h3079 hF hB => ?_)
                obtain ⟨rfl, qy3078⟩ := h3079
                subst qy3078
                refine q_ifne (tgt := 96) cx ⟨by decide, by decide⟩ dX12_command_92 (by decide) (fun c3080 => ?_) (fun c3080 => ?_)
                · refine q_ald_n cx dX12_command_96 rfl (lv_at hl 2 rfl) ?_
                  refine lv_dup cx.1 cx.2.1 dX12_command_97 rfl ?_
                  refine q_gX12_494 cx hB hmo kmo z3063 dX12_command_98 (fun lb3081 ub3081 => ?_)
                  refine q_iconst cx dX12_command_101 ?_
                  refine q_iadd cx dX12_command_102 ?_
                  refine q_pX12_494 cx hB hmo kmo ⟨by omega, by omega⟩ (by omega) (by omega) rfl dX12_command_103 (fun H locs f3082 ef3082 z3083 hB => ?_)
                  have z3084 : q_is (q_z f3082 mo 3) tn := by rw [ef3082, q_setz (Or.inr (by decide))]; exact z3060
                  have z3085 : q_is (q_z f3082 sr 0) xc := by rw [ef3082, q_setz (Or.inr (by decide))]; exact z3061
                  have z3086 : q_is (q_z f3082 mo 37) xo := by rw [ef3082, q_setz (Or.inr (by decide))]; exact z3062
                  have z3087 : q_is (q_z f3082 mo 36) (xw + 1) := by rw [ef3082, q_setz (Or.inr (by decide))]; exact z3064
                  have z3088 : q_is (q_z f3082 cs (Int.toNat x1634)) 6 := by rw [ef3082, q_setz (Or.inl (fun q => by rw [q, kmo] at kcs; exact absurd kcs (by decide)))]; exact z3065
                  have z3089 : q_is (q_z f3082 mo 8) 0 := by rw [ef3082, q_setz (Or.inr (by decide))]; exact z3054
                  have z3090 : q_is (q_z f3082 mo 9) (-1) := by rw [ef3082, q_setz (Or.inr (by decide))]; exact z3055
                  have z3091 : q_is (q_z f3082 mo 5) x3076 := by rw [ef3082, q_setz (Or.inr (by decide))]; exact ex3076
                  have z3092 : q_ir (q_r f3082 mo 13) sr := by rw [ef3082, q_setr (Or.inr (by decide))]; exact z3066
                  have z3093 : q_ir (q_r f3082 mo 18) nm := by rw [ef3082, q_setr (Or.inr (by decide))]; exact z3067
                  have z3094 : q_ir (q_r f3082 mo 1) bu := by rw [ef3082, q_setr (Or.inr (by decide))]; exact z3068
                  have z3095 : q_ir (q_r f3082 mo 29) cs := by rw [ef3082, q_setr (Or.inr (by decide))]; exact z3069
                  have z3096 : q_ir (q_r f3082 mo 30) c1 := by rw [ef3082, q_setr (Or.inr (by decide))]; exact z3070
                  have z3097 : q_ir (q_r f3082 mo 31) c2 := by rw [ef3082, q_setr (Or.inr (by decide))]; exact z3071
                  have z3098 : q_ir (q_r f3082 mo 32) c3 := by rw [ef3082, q_setr (Or.inr (by decide))]; exact z3072
                  have g3099 : tk_ub f3082 bu B tn := tk_ub_tr g3073 (fun i9 => by rw [ef3082, q_setz (Or.inl (fun q => by rw [q, kmo] at kbu; exact absurd kbu (by decide)))])
                  have g3100 : tk_nq f3082 nm nl9 := tk_nq_tr g3074 (fun i9 => by rw [ef3082, q_setj (Or.inl (fun q => by rw [q, kmo] at knm; exact absurd knm (by decide)))])
                  have g3101 : k_b1 f f3082 cs x1634 := k_b1_tr g3075 (fun i9 => by rw [ef3082, q_setz (Or.inl (fun q => by rw [q, kmo] at kcs; exact absurd kcs (by decide)))])
                  have g3102 : tk_tr f3082 mo B tn := tk_tr_tr g3059 (by rw [ef3082, q_setz (Or.inr (by decide))]) (by rw [ef3082, q_setz (Or.inr (by decide))]) (by rw [ef3082, q_setz (Or.inr (by decide))]) (by rw [ef3082, q_setz (Or.inr (by decide))]) (by rw [ef3082, q_setj (Or.inr (by decide))])
                  have g3103 : k_cc 6 f3082 c1 c2 (Int.toNat x1634) := k_cc_tr t3057 (fun i9 => by rw [ef3082, q_setz (Or.inl (fun q => by rw [q, kmo] at kc1; exact absurd kc1 (by decide)))]) (fun i9 => by rw [ef3082, q_setz (Or.inl (fun q => by rw [q, kmo] at kc2; exact absurd kc2 (by decide)))])
                  have g3104 : k_bl f f3082 c1 c2 x1634 := k_bl_tr hb9 (fun i9 => by rw [ef3082, q_setz (Or.inl (fun q => by rw [q, kmo] at kc1; exact absurd kc1 (by decide)))]) (fun i9 => by rw [ef3082, q_setz (Or.inl (fun q => by rw [q, kmo] at kc2; exact absurd kc2 (by decide)))])
                  refine q_ald_n cx dX12_command_106 rfl (lv_at hl 2 rfl) ?_
                  refine lv_dup cx.1 cx.2.1 dX12_command_107 rfl ?_
                  refine q_gX12_488 cx hB hmo kmo z3086 dX12_command_108 (fun lb3105 ub3105 => ?_)
                  refine q_ild_n cx dX12_command_111 rfl (lv_at hl 1 rfl) ?_
                  refine q_bipush cx dX12_command_112 rfl ?_
                  refine q_icne (tgt := 121) cx ⟨by decide, by decide⟩ ⟨by decide, by decide⟩ dX12_command_114 (by decide) (fun c3106 => ?_) (fun c3106 => ?_)
                  · exact absurd c3106 (by omega)
                  · refine q_iconst cx dX12_command_117 ?_
                    refine lv_goto (tgt := 122) cx.1 cx.2.1 dX12_command_118 (by decide) ?_
                    refine q_cSi (As := [.int (q_i 1)]) (rest := [.int (q_i xo), .ref mo]) cx hB (fun _ h => h) hN (r_truth1 l g hN hB.2.1 1 (by decide) (by decide)) q_cX12_78 q_dX12_truth (by decide) rfl rfl hl.1 rfl (Nat.le_of_ble_eq_true rfl) dX12_command_122 (fun y3108 H locs f3107 ry3108 h3109 hF hB => ?_)
                    obtain ⟨rfl, qy3108⟩ := h3109
                    subst qy3108
                    refine q_iadd cx dX12_command_125 ?_
                    refine q_pX12_488 cx hB hmo kmo ⟨by omega, by omega⟩ (by omega) (by omega) rfl dX12_command_126 (fun H locs f3110 ef3110 z3111 hB => ?_)
                    have z3112 : q_is (q_z f3110 mo 3) tn := by rw [ef3110, q_setz (Or.inr (by decide))]; exact z3084
                    have z3113 : q_is (q_z f3110 sr 0) xc := by rw [ef3110, q_setz (Or.inr (by decide))]; exact z3085
                    have z3114 : q_is (q_z f3110 mo 36) (xw + 1) := by rw [ef3110, q_setz (Or.inr (by decide))]; exact z3087
                    have z3115 : q_is (q_z f3110 cs (Int.toNat x1634)) 6 := by rw [ef3110, q_setz (Or.inl (fun q => by rw [q, kmo] at kcs; exact absurd kcs (by decide)))]; exact z3088
                    have z3116 : q_is (q_z f3110 mo 8) 0 := by rw [ef3110, q_setz (Or.inr (by decide))]; exact z3089
                    have z3117 : q_is (q_z f3110 mo 9) (-1) := by rw [ef3110, q_setz (Or.inr (by decide))]; exact z3090
                    have z3118 : q_is (q_z f3110 mo 5) x3076 := by rw [ef3110, q_setz (Or.inr (by decide))]; exact z3091
                    have z3119 : q_is (q_z f3110 mo 35) (x1634 + 1) := by rw [ef3110, q_setz (Or.inr (by decide))]; exact z3083
                    have z3120 : q_ir (q_r f3110 mo 13) sr := by rw [ef3110, q_setr (Or.inr (by decide))]; exact z3092
                    have z3121 : q_ir (q_r f3110 mo 18) nm := by rw [ef3110, q_setr (Or.inr (by decide))]; exact z3093
                    have z3122 : q_ir (q_r f3110 mo 1) bu := by rw [ef3110, q_setr (Or.inr (by decide))]; exact z3094
                    have z3123 : q_ir (q_r f3110 mo 29) cs := by rw [ef3110, q_setr (Or.inr (by decide))]; exact z3095
                    have z3124 : q_ir (q_r f3110 mo 30) c1 := by rw [ef3110, q_setr (Or.inr (by decide))]; exact z3096
                    have z3125 : q_ir (q_r f3110 mo 31) c2 := by rw [ef3110, q_setr (Or.inr (by decide))]; exact z3097
                    have z3126 : q_ir (q_r f3110 mo 32) c3 := by rw [ef3110, q_setr (Or.inr (by decide))]; exact z3098
                    have g3127 : tk_ub f3110 bu B tn := tk_ub_tr g3099 (fun i9 => by rw [ef3110, q_setz (Or.inl (fun q => by rw [q, kmo] at kbu; exact absurd kbu (by decide)))])
                    have g3128 : tk_nq f3110 nm nl9 := tk_nq_tr g3100 (fun i9 => by rw [ef3110, q_setj (Or.inl (fun q => by rw [q, kmo] at knm; exact absurd knm (by decide)))])
                    have g3129 : k_b1 f f3110 cs x1634 := k_b1_tr g3101 (fun i9 => by rw [ef3110, q_setz (Or.inl (fun q => by rw [q, kmo] at kcs; exact absurd kcs (by decide)))])
                    have g3130 : tk_tr f3110 mo B tn := tk_tr_tr g3102 (by rw [ef3110, q_setz (Or.inr (by decide))]) (by rw [ef3110, q_setz (Or.inr (by decide))]) (by rw [ef3110, q_setz (Or.inr (by decide))]) (by rw [ef3110, q_setz (Or.inr (by decide))]) (by rw [ef3110, q_setj (Or.inr (by decide))])
                    have g3131 : k_cc 6 f3110 c1 c2 (Int.toNat x1634) := k_cc_tr g3103 (fun i9 => by rw [ef3110, q_setz (Or.inl (fun q => by rw [q, kmo] at kc1; exact absurd kc1 (by decide)))]) (fun i9 => by rw [ef3110, q_setz (Or.inl (fun q => by rw [q, kmo] at kc2; exact absurd kc2 (by decide)))])
                    have g3132 : k_bl f f3110 c1 c2 x1634 := k_bl_tr g3104 (fun i9 => by rw [ef3110, q_setz (Or.inl (fun q => by rw [q, kmo] at kc1; exact absurd kc1 (by decide)))]) (fun i9 => by rw [ef3110, q_setz (Or.inl (fun q => by rw [q, kmo] at kc2; exact absurd kc2 (by decide)))])
                    have hsp : k_stp 6 = 1 := rfl
                    have hsc9 : q_sc f3110 mo cs c1 c2 := k_sc_add (c := 6) hsc ex1634 hf5 hf6 z3119 z3114 (Eq.trans z3111 (by rw [hsp] <;> omega)) (by omega) z3115 g3131 g3129 g3132 (by rw [hsp] <;> omega) (by rw [hsp] <;> omega)
                    refine q_vret cx hr hlk hB dX12_command_129 ?_
                    exact (Or.inr (Or.inl ⟨z3116, z3117, z3111, z3114, (tk_xok (tk_cm_go (d1 := xo + 1) (c1 := xw + 1) t2967 (by decide) (by omega) (by omega) (Eq.trans (Eq.symm ex3024) t3004) (tk_okx t3056 ex3076) (tk_if6 rfl) rfl) z3118 (Eq.trans z3111 (by omega)) (Eq.trans z3114 (by omega))), (by omega), (by omega), hsc9, g3130⟩))
                · exact absurd c3080 (by omega)
              · obtain ⟨lz3133, uz3133, t3134, g3135⟩ := h3053
                have z3136 : q_is (q_z f3049 mo 3) tn := Eq.trans (hF.z hmo (by rw [kmo]; rfl)) z3029
                have z3137 : q_is (q_z f3049 sr 0) xc := Eq.trans (hF.z hsr (by rw [ksr]; rfl)) z3032
                have z3138 : q_is (q_z f3049 mo 37) xo := Eq.trans (hF.z hmo (by rw [kmo]; rfl)) z3033
                have z3139 : q_is (q_z f3049 mo 35) x1634 := Eq.trans (hF.z hmo (by rw [kmo]; rfl)) z3034
                have z3140 : q_is (q_z f3049 mo 36) (xw + 1) := Eq.trans (hF.z hmo (by rw [kmo]; rfl)) z3035
                have z3141 : q_is (q_z f3049 cs (Int.toNat x1634)) 6 := Eq.trans (hF.z hcs (by rw [kcs]; rfl)) z3028
                have z3142 : q_ir (q_r f3049 mo 13) sr := Eq.trans (hF.r hmo (by rw [kmo]; rfl)) z3037
                have z3143 : q_ir (q_r f3049 mo 18) nm := Eq.trans (hF.r hmo (by rw [kmo]; rfl)) z3038
                have z3144 : q_ir (q_r f3049 mo 1) bu := Eq.trans (hF.r hmo (by rw [kmo]; rfl)) z3039
                have z3145 : q_ir (q_r f3049 mo 29) cs := Eq.trans (hF.r hmo (by rw [kmo]; rfl)) z3040
                have z3146 : q_ir (q_r f3049 mo 30) c1 := Eq.trans (hF.r hmo (by rw [kmo]; rfl)) z3041
                have z3147 : q_ir (q_r f3049 mo 31) c2 := Eq.trans (hF.r hmo (by rw [kmo]; rfl)) z3042
                have z3148 : q_ir (q_r f3049 mo 32) c3 := Eq.trans (hF.r hmo (by rw [kmo]; rfl)) z3043
                have g3149 : tk_ub f3049 bu B tn := tk_ub_tr g3044 (fun i9 => hF.z hbu (by rw [kbu]; rfl))
                have g3150 : tk_nq f3049 nm nl9 := tk_nq_tr g3045 (fun i9 => hF.j hnm (by rw [knm]; rfl))
                have g3151 : k_b1 f f3049 cs x1634 := k_b1_tr g3047 (fun i9 => hF.z hcs (by rw [kcs]; rfl))
                obtain ⟨x3152, ex3152⟩ : ∃ zz, q_is (q_z f3049 mo 8) zz := ⟨_, q_isr _⟩
                obtain ⟨lx3152, ux3152⟩ := q_isb ex3152 ⟨lz3133, uz3133⟩
                obtain ⟨x3153, ex3153⟩ : ∃ zz, q_is (q_z f3049 mo 5) zz := ⟨_, q_isr _⟩
                obtain ⟨lx3153, ux3153⟩ := q_isb ex3153 (q_fib hB.2.1 hmo kmo (by decide) rfl)
                obtain ⟨x3154, ex3154⟩ : ∃ zz, q_is (q_z f3049 mo 9) zz := ⟨_, q_isr _⟩
                obtain ⟨lx3154, ux3154⟩ := q_isb ex3154 (q_fib hB.2.1 hmo kmo (by decide) rfl)
                obtain ⟨-, l0x3153, u0x3153, -, -⟩ := tk_tr_n g3135 ex3153
                refine q_ald_n cx dX12_command_88 rfl (lv_at hl 2 rfl) ?_
                refine q_cVi (As := []) (rest := []) cx hB (fun _ h => h) hN hmo kmo (by decide) rfl (r_isGood1 l g hN hB.2.1 mo hmo kmo x3152 (by omega) (by omega) ex3152) q_cX12_130 q_dX12_isGood (by decide) rfl rfl hl.1 rfl (Nat.le_of_ble_eq_true rfl) dX12_command_89 (fun y3156 H locs f3155 ry3156 h3157 hF hB => ?_)
                obtain ⟨rfl, qy3156⟩ := h3157
                subst qy3156
                refine q_ifne (tgt := 96) cx ⟨by decide, by decide⟩ dX12_command_92 (by decide) (fun c3158 => ?_) (fun c3158 => ?_)
                · exact absurd c3158 (by omega)
                · refine q_vret cx hr hlk hB dX12_command_95 ?_
                  exact (Or.inr (Or.inr ⟨(q_isl ex3152 (by omega)), (q_isu ex3152 (by omega)), (tk_erp (tk_cm_er t2967 (by decide) (by omega) (by omega) (Eq.trans (Eq.symm ex3024) t3004) (tk_erx t3134 ex3152 ex3154)) ex3152 ex3154), g3135⟩))
            · exact absurd c2977 (by omega)
          · refine q_ald_n cx dX12_command_43 rfl (lv_at hl 1 rfl) ?_
            refine q_iconst cx dX12_command_44 ?_
            refine q_cVv (As := [.int (q_i 5)]) (rest := []) cx hB (fun _ h => h) hN hmo kmo (by decide) rfl (f_mwrongk l g hN hB.2.1 mo hmo kmo 5 (by decide) (by decide) ss (by omega) (by omega) 1 (by decide) (by decide) hf1 z2966 hf2 hf3) q_cX12_137 q_dX12_wrong (by decide) rfl rfl hl.1 rfl (Nat.le_of_ble_eq_true rfl) dX12_command_45 (fun H locs f3159 h3161 hF hB => ?_)
            obtain ⟨z3162, z3163⟩ := h3161
            have z3164 : q_is (q_z f3159 mo 3) tn := Eq.trans (hF.z hmo (by rw [kmo]; rfl)) hf0
            have z3165 : q_is (q_z f3159 mo 5) ss := Eq.trans (hF.z hmo (by rw [kmo]; rfl)) hf1
            have z3166 : q_is (q_z f3159 sr 0) xc := Eq.trans (hF.z hsr (by rw [ksr]; rfl)) hf4
            have z3167 : q_is (q_z f3159 mo 37) xo := Eq.trans (hF.z hmo (by rw [kmo]; rfl)) hf5
            have z3168 : q_is (q_z f3159 mo 36) xw := Eq.trans (hF.z hmo (by rw [kmo]; rfl)) hf6
            have z3169 : q_is (q_z f3159 mo 35) x1634 := Eq.trans (hF.z hmo (by rw [kmo]; rfl)) ex1634
            have z3170 : q_is (q_z f3159 mo 6) 1 := Eq.trans (hF.z hmo (by rw [kmo]; rfl)) z2966
            have z3171 : q_ir (q_r f3159 mo 13) sr := Eq.trans (hF.r hmo (by rw [kmo]; rfl)) hr0
            have z3172 : q_ir (q_r f3159 mo 18) nm := Eq.trans (hF.r hmo (by rw [kmo]; rfl)) hr1
            have z3173 : q_ir (q_r f3159 mo 1) bu := Eq.trans (hF.r hmo (by rw [kmo]; rfl)) hr2
            have z3174 : q_ir (q_r f3159 mo 29) cs := Eq.trans (hF.r hmo (by rw [kmo]; rfl)) hr3
            have z3175 : q_ir (q_r f3159 mo 30) c1 := Eq.trans (hF.r hmo (by rw [kmo]; rfl)) hr4
            have z3176 : q_ir (q_r f3159 mo 31) c2 := Eq.trans (hF.r hmo (by rw [kmo]; rfl)) hr5
            have z3177 : q_ir (q_r f3159 mo 32) c3 := Eq.trans (hF.r hmo (by rw [kmo]; rfl)) hr6
            have g3178 : tk_tr f3159 mo B tn := tk_tr_tr htr (hF.z hmo (by rw [kmo]; rfl)) (hF.z hmo (by rw [kmo]; rfl)) (hF.z hmo (by rw [kmo]; rfl)) (hF.z hmo (by rw [kmo]; rfl)) (hF.j hmo (by rw [kmo]; rfl))
            have g3179 : tk_ub f3159 bu B tn := tk_ub_tr hub (fun i9 => hF.z hbu (by rw [kbu]; rfl))
            have g3180 : tk_nq f3159 nm nl9 := tk_nq_tr hrn (fun i9 => hF.j hnm (by rw [knm]; rfl))
            have g3181 : q_sc f3159 mo cs c1 c2 := q_sc_tr hsc (hF.z hmo (by rw [kmo]; rfl)) (hF.z hmo (by rw [kmo]; rfl)) (hF.z hmo (by rw [kmo]; rfl)) (fun i9 => hF.z hcs (by rw [kcs]; rfl)) (fun i9 => hF.z hc1 (by rw [kc1]; rfl)) (fun i9 => hF.z hc2 (by rw [kc2]; rfl))
            have g3182 : k_bl f f3159 c1 c2 60 := k_bl_tr hbx (fun i9 => hF.z hc1 (by rw [kc1]; rfl)) (fun i9 => hF.z hc2 (by rw [kc2]; rfl))
            have g3183 : k_b1 f f3159 cs x1634 := k_b1_tr hbs (fun i9 => hF.z hcs (by rw [kcs]; rfl))
            refine q_ald_n cx dX12_command_48 rfl (lv_at hl 1 rfl) ?_
            refine q_cVi (As := []) (rest := []) cx hB (fun _ h => h) hN hmo kmo (by decide) rfl (r_isGood1 l g hN hB.2.1 mo hmo kmo 5 (by decide) (by decide) z3162) q_cX12_130 q_dX12_isGood (by decide) rfl rfl hl.1 rfl (Nat.le_of_ble_eq_true rfl) dX12_command_49 (fun y3185 H locs f3184 ry3185 h3186 hF hB => ?_)
            obtain ⟨rfl, qy3185⟩ := h3186
            subst qy3185
            refine q_ifne (tgt := 56) cx ⟨by decide, by decide⟩ dX12_command_52 (by decide) (fun c3187 => ?_) (fun c3187 => ?_)
            · exact absurd c3187 (by omega)
            · refine q_vret cx hr hlk hB dX12_command_55 ?_
              exact (Or.inr (Or.inr ⟨(q_isl z3162 (by omega)), (q_isu z3162 (by omega)), (tk_cm_e5 t2967 (by decide) (by omega) (by omega) z3162 z3163), g3178⟩))
        · refine q_ald_n cx dX12_command_29 rfl (lv_at hl 1 rfl) ?_
          refine q_iconst cx dX12_command_30 ?_
          refine q_cVv (As := [.int (q_i 3)]) (rest := []) cx hB (fun _ h => h) hN hmo kmo (by decide) rfl (f_mwrongk l g hN hB.2.1 mo hmo kmo 3 (by decide) (by decide) ss (by omega) (by omega) 1 (by decide) (by decide) hf1 z2966 hf2 hf3) q_cX12_137 q_dX12_wrong (by decide) rfl rfl hl.1 rfl (Nat.le_of_ble_eq_true rfl) dX12_command_31 (fun H locs f3188 h3190 hF hB => ?_)
          obtain ⟨z3191, z3192⟩ := h3190
          have z3193 : q_is (q_z f3188 mo 3) tn := Eq.trans (hF.z hmo (by rw [kmo]; rfl)) hf0
          have z3194 : q_is (q_z f3188 mo 5) ss := Eq.trans (hF.z hmo (by rw [kmo]; rfl)) hf1
          have z3195 : q_is (q_z f3188 sr 0) xc := Eq.trans (hF.z hsr (by rw [ksr]; rfl)) hf4
          have z3196 : q_is (q_z f3188 mo 37) xo := Eq.trans (hF.z hmo (by rw [kmo]; rfl)) hf5
          have z3197 : q_is (q_z f3188 mo 36) xw := Eq.trans (hF.z hmo (by rw [kmo]; rfl)) hf6
          have z3198 : q_is (q_z f3188 mo 35) x1634 := Eq.trans (hF.z hmo (by rw [kmo]; rfl)) ex1634
          have z3199 : q_is (q_z f3188 mo 6) 1 := Eq.trans (hF.z hmo (by rw [kmo]; rfl)) z2966
          have z3200 : q_ir (q_r f3188 mo 13) sr := Eq.trans (hF.r hmo (by rw [kmo]; rfl)) hr0
          have z3201 : q_ir (q_r f3188 mo 18) nm := Eq.trans (hF.r hmo (by rw [kmo]; rfl)) hr1
          have z3202 : q_ir (q_r f3188 mo 1) bu := Eq.trans (hF.r hmo (by rw [kmo]; rfl)) hr2
          have z3203 : q_ir (q_r f3188 mo 29) cs := Eq.trans (hF.r hmo (by rw [kmo]; rfl)) hr3
          have z3204 : q_ir (q_r f3188 mo 30) c1 := Eq.trans (hF.r hmo (by rw [kmo]; rfl)) hr4
          have z3205 : q_ir (q_r f3188 mo 31) c2 := Eq.trans (hF.r hmo (by rw [kmo]; rfl)) hr5
          have z3206 : q_ir (q_r f3188 mo 32) c3 := Eq.trans (hF.r hmo (by rw [kmo]; rfl)) hr6
          have g3207 : tk_tr f3188 mo B tn := tk_tr_tr htr (hF.z hmo (by rw [kmo]; rfl)) (hF.z hmo (by rw [kmo]; rfl)) (hF.z hmo (by rw [kmo]; rfl)) (hF.z hmo (by rw [kmo]; rfl)) (hF.j hmo (by rw [kmo]; rfl))
          have g3208 : tk_ub f3188 bu B tn := tk_ub_tr hub (fun i9 => hF.z hbu (by rw [kbu]; rfl))
          have g3209 : tk_nq f3188 nm nl9 := tk_nq_tr hrn (fun i9 => hF.j hnm (by rw [knm]; rfl))
          have g3210 : q_sc f3188 mo cs c1 c2 := q_sc_tr hsc (hF.z hmo (by rw [kmo]; rfl)) (hF.z hmo (by rw [kmo]; rfl)) (hF.z hmo (by rw [kmo]; rfl)) (fun i9 => hF.z hcs (by rw [kcs]; rfl)) (fun i9 => hF.z hc1 (by rw [kc1]; rfl)) (fun i9 => hF.z hc2 (by rw [kc2]; rfl))
          have g3211 : k_bl f f3188 c1 c2 60 := k_bl_tr hbx (fun i9 => hF.z hc1 (by rw [kc1]; rfl)) (fun i9 => hF.z hc2 (by rw [kc2]; rfl))
          have g3212 : k_b1 f f3188 cs x1634 := k_b1_tr hbs (fun i9 => hF.z hcs (by rw [kcs]; rfl))
          refine q_ald_n cx dX12_command_34 rfl (lv_at hl 1 rfl) ?_
          refine q_gX12_491 cx hB hmo kmo z3197 dX12_command_35 (fun lb3213 ub3213 => ?_)
          refine q_bipush cx dX12_command_38 rfl ?_
          refine q_icne (tgt := 48) cx ⟨by omega, by omega⟩ ⟨by decide, by decide⟩ dX12_command_40 (by decide) (fun c3214 => ?_) (fun c3214 => ?_)
          · refine q_ald_n cx dX12_command_48 rfl (lv_at hl 1 rfl) ?_
            refine q_cVi (As := []) (rest := []) cx hB (fun _ h => h) hN hmo kmo (by decide) rfl (r_isGood1 l g hN hB.2.1 mo hmo kmo 3 (by decide) (by decide) z3191) q_cX12_130 q_dX12_isGood (by decide) rfl rfl hl.1 rfl (Nat.le_of_ble_eq_true rfl) dX12_command_49 (fun y3216 H locs f3215 ry3216 h3217 hF hB => ?_)
            obtain ⟨rfl, qy3216⟩ := h3217
            subst qy3216
            refine q_ifne (tgt := 56) cx ⟨by decide, by decide⟩ dX12_command_52 (by decide) (fun c3218 => ?_) (fun c3218 => ?_)
            · exact absurd c3218 (by omega)
            · refine q_vret cx hr hlk hB dX12_command_55 ?_
              exact (Or.inr (Or.inr ⟨(q_isl z3191 (by omega)), (q_isu z3191 (by omega)), (tk_cm_e3 t2967 rfl (by omega) z3191 z3192), g3207⟩))
          · refine q_ald_n cx dX12_command_43 rfl (lv_at hl 1 rfl) ?_
            refine q_iconst cx dX12_command_44 ?_
            refine q_cVv (As := [.int (q_i 5)]) (rest := []) cx hB (fun _ h => h) hN hmo kmo (by decide) rfl (r_wrong1 l g hN hB.2.1 mo hmo kmo 5 (by decide) (by decide) 3 (by decide) (by decide) z3191) q_cX12_137 q_dX12_wrong (by decide) rfl rfl hl.1 rfl (Nat.le_of_ble_eq_true rfl) dX12_command_45 (fun H locs f3219 h3221 hF hB => ?_)
            obtain rfl := h3221
            refine q_ald_n cx dX12_command_48 rfl (lv_at hl 1 rfl) ?_
            refine q_cVi (As := []) (rest := []) cx hB (fun _ h => h) hN hmo kmo (by decide) rfl (r_isGood1 l g hN hB.2.1 mo hmo kmo 3 (by decide) (by decide) z3191) q_cX12_130 q_dX12_isGood (by decide) rfl rfl hl.1 rfl (Nat.le_of_ble_eq_true rfl) dX12_command_49 (fun y3223 H locs f3222 ry3223 h3224 hF hB => ?_)
            obtain ⟨rfl, qy3223⟩ := h3224
            subst qy3223
            refine q_ifne (tgt := 56) cx ⟨by decide, by decide⟩ dX12_command_52 (by decide) (fun c3225 => ?_) (fun c3225 => ?_)
            · exact absurd c3225 (by omega)
            · refine q_vret cx hr hlk hB dX12_command_55 ?_
              exact (Or.inr (Or.inr ⟨(q_isl z3191 (by omega)), (q_isu z3191 (by omega)), (tk_cm_e3 t2967 rfl (by omega) z3191 z3192), g3207⟩))
    · exact absurd c2968 (by omega)
  · obtain ⟨rfl, qy1636, t3226⟩ := h1645
    subst qy1636
    refine lv_istore_n (lv' := [(1, .int (q_i (-1))), (0, .ref mo)]) cx.1 cx.2.1 dX12_command_4 rfl hl (by decide) rfl (fun ls hl => ?_)
    refine q_ild_n cx dX12_command_5 rfl (lv_at hl 0 rfl) ?_
    refine q_iconst cx dX12_command_6 ?_
    refine q_icne (tgt := 15) cx ⟨by decide, by decide⟩ ⟨by decide, by decide⟩ dX12_command_7 (by decide) (fun c3227 => ?_) (fun c3227 => ?_)
    · exact absurd c3227 (by omega)
    · refine q_ald_n cx dX12_command_10 rfl (lv_at hl 1 rfl) ?_
      refine q_iconst cx dX12_command_11 ?_
      refine q_cVv (As := [.int (q_i 1)]) (rest := []) cx hB (fun _ h => h) hN hmo kmo (by decide) rfl (f_mwrong1 l g hN hB.2.1 mo hmo kmo 1 (by decide) (by decide) ss (by omega) (by omega) hf1 hf2 hf3) q_cX12_137 q_dX12_wrong (by decide) rfl rfl hl.1 rfl (Nat.le_of_ble_eq_true rfl) dX12_command_12 (fun H locs f3228 h3230 hF hB => ?_)
      obtain ⟨z3231, z3232⟩ := h3230
      have z3233 : q_is (q_z f3228 mo 3) tn := Eq.trans (hF.z hmo (by rw [kmo]; rfl)) hf0
      have z3234 : q_is (q_z f3228 mo 5) ss := Eq.trans (hF.z hmo (by rw [kmo]; rfl)) hf1
      have z3235 : q_is (q_z f3228 sr 0) xc := Eq.trans (hF.z hsr (by rw [ksr]; rfl)) hf4
      have z3236 : q_is (q_z f3228 mo 37) xo := Eq.trans (hF.z hmo (by rw [kmo]; rfl)) hf5
      have z3237 : q_is (q_z f3228 mo 36) xw := Eq.trans (hF.z hmo (by rw [kmo]; rfl)) hf6
      have z3238 : q_is (q_z f3228 mo 35) x1634 := Eq.trans (hF.z hmo (by rw [kmo]; rfl)) ex1634
      have z3239 : q_ir (q_r f3228 mo 13) sr := Eq.trans (hF.r hmo (by rw [kmo]; rfl)) hr0
      have z3240 : q_ir (q_r f3228 mo 18) nm := Eq.trans (hF.r hmo (by rw [kmo]; rfl)) hr1
      have z3241 : q_ir (q_r f3228 mo 1) bu := Eq.trans (hF.r hmo (by rw [kmo]; rfl)) hr2
      have z3242 : q_ir (q_r f3228 mo 29) cs := Eq.trans (hF.r hmo (by rw [kmo]; rfl)) hr3
      have z3243 : q_ir (q_r f3228 mo 30) c1 := Eq.trans (hF.r hmo (by rw [kmo]; rfl)) hr4
      have z3244 : q_ir (q_r f3228 mo 31) c2 := Eq.trans (hF.r hmo (by rw [kmo]; rfl)) hr5
      have z3245 : q_ir (q_r f3228 mo 32) c3 := Eq.trans (hF.r hmo (by rw [kmo]; rfl)) hr6
      have g3246 : tk_tr f3228 mo B tn := tk_tr_tr htr (hF.z hmo (by rw [kmo]; rfl)) (hF.z hmo (by rw [kmo]; rfl)) (hF.z hmo (by rw [kmo]; rfl)) (hF.z hmo (by rw [kmo]; rfl)) (hF.j hmo (by rw [kmo]; rfl))
      have g3247 : tk_ub f3228 bu B tn := tk_ub_tr hub (fun i9 => hF.z hbu (by rw [kbu]; rfl))
      have g3248 : tk_nq f3228 nm nl9 := tk_nq_tr hrn (fun i9 => hF.j hnm (by rw [knm]; rfl))
      have g3249 : q_sc f3228 mo cs c1 c2 := q_sc_tr hsc (hF.z hmo (by rw [kmo]; rfl)) (hF.z hmo (by rw [kmo]; rfl)) (hF.z hmo (by rw [kmo]; rfl)) (fun i9 => hF.z hcs (by rw [kcs]; rfl)) (fun i9 => hF.z hc1 (by rw [kc1]; rfl)) (fun i9 => hF.z hc2 (by rw [kc2]; rfl))
      have g3250 : k_bl f f3228 c1 c2 60 := k_bl_tr hbx (fun i9 => hF.z hc1 (by rw [kc1]; rfl)) (fun i9 => hF.z hc2 (by rw [kc2]; rfl))
      have g3251 : k_b1 f f3228 cs x1634 := k_b1_tr hbs (fun i9 => hF.z hcs (by rw [kcs]; rfl))
      refine q_ild_n cx dX12_command_15 rfl (lv_at hl 0 rfl) ?_
      refine q_bipush cx dX12_command_16 rfl ?_
      refine q_icne (tgt := 34) cx ⟨by decide, by decide⟩ ⟨by decide, by decide⟩ dX12_command_18 (by decide) (fun c3252 => ?_) (fun c3252 => ?_)
      · refine q_ald_n cx dX12_command_34 rfl (lv_at hl 1 rfl) ?_
        refine q_gX12_491 cx hB hmo kmo z3237 dX12_command_35 (fun lb3253 ub3253 => ?_)
        refine q_bipush cx dX12_command_38 rfl ?_
        refine q_icne (tgt := 48) cx ⟨by omega, by omega⟩ ⟨by decide, by decide⟩ dX12_command_40 (by decide) (fun c3254 => ?_) (fun c3254 => ?_)
        · refine q_ald_n cx dX12_command_48 rfl (lv_at hl 1 rfl) ?_
          refine q_cVi (As := []) (rest := []) cx hB (fun _ h => h) hN hmo kmo (by decide) rfl (r_isGood1 l g hN hB.2.1 mo hmo kmo 1 (by decide) (by decide) z3231) q_cX12_130 q_dX12_isGood (by decide) rfl rfl hl.1 rfl (Nat.le_of_ble_eq_true rfl) dX12_command_49 (fun y3256 H locs f3255 ry3256 h3257 hF hB => ?_)
          obtain ⟨rfl, qy3256⟩ := h3257
          subst qy3256
          refine q_ifne (tgt := 56) cx ⟨by decide, by decide⟩ dX12_command_52 (by decide) (fun c3258 => ?_) (fun c3258 => ?_)
          · exact absurd c3258 (by omega)
          · refine q_vret cx hr hlk hB dX12_command_55 ?_
            exact (Or.inr (Or.inr ⟨(q_isl z3231 (by omega)), (q_isu z3231 (by omega)), (tk_cm_e1 t3226 z3231 z3232), g3246⟩))
        · refine q_ald_n cx dX12_command_43 rfl (lv_at hl 1 rfl) ?_
          refine q_iconst cx dX12_command_44 ?_
          obtain ⟨x3259, ex3259⟩ : ∃ zz, q_is (q_z f3228 mo 6) zz := ⟨_, q_isr _⟩
          obtain ⟨lx3259, ux3259⟩ := q_isb ex3259 (q_fib hB.2.1 hmo kmo (by decide) rfl)
          refine q_cVv (As := [.int (q_i 5)]) (rest := []) cx hB (fun _ h => h) hN hmo kmo (by decide) rfl (r_wrong1 l g hN hB.2.1 mo hmo kmo 5 (by decide) (by decide) 1 (by decide) (by decide) z3231) q_cX12_137 q_dX12_wrong (by decide) rfl rfl hl.1 rfl (Nat.le_of_ble_eq_true rfl) dX12_command_45 (fun H locs f3260 h3262 hF hB => ?_)
          obtain rfl := h3262
          refine q_ald_n cx dX12_command_48 rfl (lv_at hl 1 rfl) ?_
          refine q_cVi (As := []) (rest := []) cx hB (fun _ h => h) hN hmo kmo (by decide) rfl (r_isGood1 l g hN hB.2.1 mo hmo kmo 1 (by decide) (by decide) z3231) q_cX12_130 q_dX12_isGood (by decide) rfl rfl hl.1 rfl (Nat.le_of_ble_eq_true rfl) dX12_command_49 (fun y3264 H locs f3263 ry3264 h3265 hF hB => ?_)
          obtain ⟨rfl, qy3264⟩ := h3265
          subst qy3264
          refine q_ifne (tgt := 56) cx ⟨by decide, by decide⟩ dX12_command_52 (by decide) (fun c3266 => ?_) (fun c3266 => ?_)
          · exact absurd c3266 (by omega)
          · refine q_vret cx hr hlk hB dX12_command_55 ?_
            exact (Or.inr (Or.inr ⟨(q_isl z3231 (by omega)), (q_isu z3231 (by omega)), (tk_cm_e1 t3226 z3231 z3232), g3246⟩))
      · exact absurd c3252 (by omega)
