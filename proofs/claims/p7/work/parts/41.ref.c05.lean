set_option maxHeartbeats 4000000 in
set_option maxRecDepth 100000 in
theorem r_statement0 (l : Launch) (g : q_G) {K : Nat → Nat} {L : List Nat} (hN : L.Nodup) {f : Nat → va_E} (hT : q_Ty g K L f) (mo : Nat) (hmo : mo ∈ L) (kmo : K mo = 12) (sr : Nat) (hsr : sr ∈ L) (ksr : K sr = 151) (nm : Nat) (hnm : nm ∈ L) (knm : K nm = 156) (bu : Nat) (hbu : bu ∈ L) (kbu : K bu = 150) (xp : Int) (lxp : 0 ≤ xp) (uxp : xp ≤ 600) (hf0 : q_is (q_z f mo 8) 0) (hf1 : q_is (q_z f mo 4) xp) (hr0 : q_ir (q_r f mo 13) sr) (hr1 : q_ir (q_r f mo 18) nm) (hr2 : q_ir (q_r f mo 1) bu) (hgr : q_gr f sr) : q_Ct l g K L yX12_statement cX12_statement 1 none 5 116 [.ref mo] f [(12, 4, 9), (12, 12, 12), (12, 23, 23), (151, 0, 2), (151, 5, 8), (151, 10, 166), (156, 0, 9)] (q_Pv (fun (f1 : Nat → va_E) => (q_is (q_z f1 mo 8) 0 ∧ (xp < q_z f1 mo 4) ∧ q_gr f1 sr) ∨ (1 ≤ q_z f1 mo 8 ∧ q_z f1 mo 8 ≤ 5))) := by
  refine q_ofb (by decide +kernel) hN hT (Nat.le_of_ble_eq_true rfl) ?_
  intro p e s m below meth c ls cx hr hlk hB hl
  have hl : lv_has ls 1 [(0, .ref mo)] := hl
  obtain ⟨H, hH⟩ : ∃ H : Heap, H = s.heap := ⟨_, rfl⟩
  obtain ⟨locs, hlocs⟩ : ∃ z : List Loc, z = [] := ⟨_, rfl⟩
  rw [← hH, ← hlocs] at hB
  rw [← hH, ← hlocs]
  refine q_ald_n cx dX12_statement_0 rfl (lv_at hl 0 rfl) ?_
  refine lv_ldc2 (v := q_l 824370) cx.1 cx.2.1 cx.2.2.2.1 (cx.2.2.2.2 _ q_h1757) dX12_statement_1 ?_
  refine q_cVi (As := [.long (q_l 824370)]) (rest := []) cx hB (fun _ h => h) hN hmo kmo (by decide) rfl (r_isWord0 l g hN hB.2.1 mo hmo kmo (q_l 824370) hf0) q_cX12_143 q_dX12_isWord (by decide) rfl rfl hl.1 rfl (Nat.le_of_ble_eq_true rfl) dX12_statement_4 (fun y644 H locs f643 ry644 h645 hF hB => ?_)
  rcases h645 with h646 | h647
  · obtain ⟨rfl, qy644, t648⟩ := h646
    subst qy644
    refine q_ifeq (tgt := 31) cx ⟨by decide, by decide⟩ dX12_statement_7 (by decide) (fun c649 => ?_) (fun c649 => ?_)
    · exact absurd c649 (by omega)
    · refine q_ald_n cx dX12_statement_10 rfl (lv_at hl 0 rfl) ?_
      refine q_iconst cx dX12_statement_11 ?_
      refine q_cVv (As := [.int (q_i 0)]) (rest := []) cx hB (fun _ h => h) hN hmo kmo (by decide) rfl (r_once0 l g hN hB.2.1 mo hmo kmo 0 (by decide) (by decide) bu hbu kbu xp (by omega) (by omega) hf0 hf1 hr2) q_cX12_224 q_dX12_once (by decide) rfl rfl hl.1 rfl (Nat.le_of_ble_eq_true rfl) dX12_statement_12 (fun H locs f650 h652 hF hB => ?_)
      rcases h652 with h653 | h654
      · obtain ⟨z655, t656, t657⟩ := h653
        have z658 : q_ir (q_r f650 mo 13) sr := Eq.trans (hF.r hmo (by rw [kmo]; rfl)) hr0
        have z659 : q_ir (q_r f650 mo 18) nm := Eq.trans (hF.r hmo (by rw [kmo]; rfl)) hr1
        have z660 : q_ir (q_r f650 mo 1) bu := Eq.trans (hF.r hmo (by rw [kmo]; rfl)) hr2
        have g661 : q_gr f650 sr := q_gr_fr hgr (fun i9 _ => hF.z hsr (by rw [ksr]; rfl))
        obtain ⟨x662, ex662⟩ : ∃ zz, q_is (q_z f650 mo 4) zz := ⟨_, q_isr _⟩
        obtain ⟨lx662, ux662⟩ := q_isb ex662 (q_fib hB.2.1 hmo kmo (by decide) rfl)
        obtain ⟨x663, ex663⟩ : ∃ zz, q_is (q_z f650 mo 6) zz := ⟨_, q_isr _⟩
        obtain ⟨lx663, ux663⟩ := q_isb ex663 (q_fib hB.2.1 hmo kmo (by decide) rfl)
        replace t656 := q_isl9 ex662 t656
        replace t657 := k_po_si ex663 ex662 t657
        refine q_ald_n cx dX12_statement_15 rfl (lv_at hl 0 rfl) ?_
        refine q_gX12_20 cx hB hmo kmo z658 dX12_statement_16 (fun hb664 kb664 => ?_)
        refine q_iconst cx dX12_statement_19 ?_
        refine q_ald_n cx dX12_statement_20 rfl (lv_at hl 0 rfl) ?_
        refine q_iconst cx dX12_statement_21 ?_
        refine q_bipush cx dX12_statement_22 rfl ?_
        refine q_cVi (As := [.int (q_i 4), .int (q_i 60)]) (rest := [.int (q_i 2), .ref sr]) cx hB (fun _ h => h) hN hmo kmo (by decide) rfl (r_number0 l g hN hB.2.1 mo hmo kmo 4 (by decide) (by decide) 60 (by decide) (by decide) bu hbu kbu x662 (by omega) (by omega) z655 ex662 z660) q_cX12_193 q_dX12_number (by decide) rfl rfl hl.1 rfl (Nat.le_of_ble_eq_true rfl) dX12_statement_24 (fun y666 H locs f665 ry666 h667 hF hB => ?_)
        rcases h667 with h668 | h669
        · obtain ⟨z670, t671, t672, t673, t674⟩ := h668
          have z675 : q_ir (q_r f665 mo 13) sr := Eq.trans (hF.r hmo (by rw [kmo]; rfl)) z658
          have z676 : q_ir (q_r f665 mo 18) nm := Eq.trans (hF.r hmo (by rw [kmo]; rfl)) z659
          have z677 : q_ir (q_r f665 mo 1) bu := Eq.trans (hF.r hmo (by rw [kmo]; rfl)) z660
          have g678 : q_gr f665 sr := q_gr_fr g661 (fun i9 _ => hF.z hsr (by rw [ksr]; rfl))
          obtain ⟨x679, ex679⟩ : ∃ zz, q_is (q_z f665 mo 4) zz := ⟨_, q_isr _⟩
          obtain ⟨lx679, ux679⟩ := q_isb ex679 (q_fib hB.2.1 hmo kmo (by decide) rfl)
          obtain ⟨x680, ex680⟩ : ∃ zz, q_is (q_z f665 mo 6) zz := ⟨_, q_isr _⟩
          obtain ⟨lx680, ux680⟩ := q_isb ex680 (q_fib hB.2.1 hmo kmo (by decide) rfl)
          replace t671 := q_isl9 ex679 t671
          replace t672 := k_po_si ex680 ex679 t672
          refine q_sast cx hB hsr ksr (by decide) (by decide) ⟨by omega, by omega⟩ rfl dX12_statement_27 (fun H locs f681 ef681 z682 hB => ?_)
          have z683 : q_is (q_z f681 mo 8) 0 := by rw [ef681, q_setz (Or.inr (by decide))]; exact z670
          have z684 : q_is (q_z f681 mo 4) x679 := by rw [ef681, q_setz (Or.inr (by decide))]; exact ex679
          have z685 : q_is (q_z f681 mo 6) x680 := by rw [ef681, q_setz (Or.inr (by decide))]; exact ex680
          have z686 : q_ir (q_r f681 mo 13) sr := by rw [ef681, q_setr (Or.inr (by decide))]; exact z675
          have z687 : q_ir (q_r f681 mo 18) nm := by rw [ef681, q_setr (Or.inr (by decide))]; exact z676
          have z688 : q_ir (q_r f681 mo 1) bu := by rw [ef681, q_setr (Or.inr (by decide))]; exact z677
          have g689 : q_gr f681 sr := q_gr_put g678 ef681 z682 rfl (by omega) (by omega)
          refine lv_goto (tgt := 161) cx.1 cx.2.1 dX12_statement_28 (by decide) ?_
          refine q_ald_n cx dX12_statement_161 rfl (lv_at hl 0 rfl) ?_
          refine q_bipush cx dX12_statement_162 rfl ?_
          refine q_cVv (As := [.int (q_i 59)]) (rest := []) cx hB (fun _ h => h) hN hmo kmo (by decide) rfl (r_mustSign0 l g hN hB.2.1 mo hmo kmo 59 (by decide) (by decide) bu hbu kbu x679 (by omega) (by omega) z683 z684 z688) q_cX12_241 q_dX12_mustSign (by decide) rfl rfl hl.1 rfl (Nat.le_of_ble_eq_true rfl) dX12_statement_164 (fun H locs f690 h692 hF hB => ?_)
          rcases h692 with h693 | h694
          · obtain ⟨z695, t696, t697, t698⟩ := h693
            have z699 : q_is (q_z f690 sr 2) y666 := Eq.trans (hF.z hsr (by rw [ksr]; rfl)) z682
            have z700 : q_ir (q_r f690 mo 13) sr := Eq.trans (hF.r hmo (by rw [kmo]; rfl)) z686
            have z701 : q_ir (q_r f690 mo 18) nm := Eq.trans (hF.r hmo (by rw [kmo]; rfl)) z687
            have z702 : q_ir (q_r f690 mo 1) bu := Eq.trans (hF.r hmo (by rw [kmo]; rfl)) z688
            have g703 : q_gr f690 sr := q_gr_fr g689 (fun i9 _ => hF.z hsr (by rw [ksr]; rfl))
            obtain ⟨x704, ex704⟩ : ∃ zz, q_is (q_z f690 mo 4) zz := ⟨_, q_isr _⟩
            obtain ⟨lx704, ux704⟩ := q_isb ex704 (q_fib hB.2.1 hmo kmo (by decide) rfl)
            obtain ⟨x705, ex705⟩ : ∃ zz, q_is (q_z f690 mo 6) zz := ⟨_, q_isr _⟩
            obtain ⟨lx705, ux705⟩ := q_isb ex705 (q_fib hB.2.1 hmo kmo (by decide) rfl)
            replace t696 := q_isl9 ex704 t696
            replace t697 := k_po_si ex705 ex704 t697
            refine q_vret cx hr hlk hB dX12_statement_167 ?_
            exact (Or.inl ⟨z695, (q_islt ex704 (by have h7 := k_po_lt t672 (k_ne0 z685 t698); omega)), g703⟩)
          · obtain ⟨lz706, uz706⟩ := h694
            have z707 : q_is (q_z f690 sr 2) y666 := Eq.trans (hF.z hsr (by rw [ksr]; rfl)) z682
            have z708 : q_ir (q_r f690 mo 13) sr := Eq.trans (hF.r hmo (by rw [kmo]; rfl)) z686
            have z709 : q_ir (q_r f690 mo 18) nm := Eq.trans (hF.r hmo (by rw [kmo]; rfl)) z687
            have z710 : q_ir (q_r f690 mo 1) bu := Eq.trans (hF.r hmo (by rw [kmo]; rfl)) z688
            have g711 : q_gr f690 sr := q_gr_fr g689 (fun i9 _ => hF.z hsr (by rw [ksr]; rfl))
            obtain ⟨x712, ex712⟩ : ∃ zz, q_is (q_z f690 mo 8) zz := ⟨_, q_isr _⟩
            obtain ⟨lx712, ux712⟩ := q_isb ex712 ⟨lz706, uz706⟩
            obtain ⟨x713, ex713⟩ : ∃ zz, q_is (q_z f690 mo 4) zz := ⟨_, q_isr _⟩
            obtain ⟨lx713, ux713⟩ := q_isb ex713 (q_fib hB.2.1 hmo kmo (by decide) rfl)
            obtain ⟨x714, ex714⟩ : ∃ zz, q_is (q_z f690 mo 6) zz := ⟨_, q_isr _⟩
            obtain ⟨lx714, ux714⟩ := q_isb ex714 (q_fib hB.2.1 hmo kmo (by decide) rfl)
            refine q_vret cx hr hlk hB dX12_statement_167 ?_
            exact (Or.inr ⟨(q_isl ex712 (by omega)), (q_isu ex712 (by omega))⟩)
        · obtain ⟨lz715, uz715⟩ := h669
          have z716 : q_ir (q_r f665 mo 13) sr := Eq.trans (hF.r hmo (by rw [kmo]; rfl)) z658
          have z717 : q_ir (q_r f665 mo 18) nm := Eq.trans (hF.r hmo (by rw [kmo]; rfl)) z659
          have z718 : q_ir (q_r f665 mo 1) bu := Eq.trans (hF.r hmo (by rw [kmo]; rfl)) z660
          have g719 : q_gr f665 sr := q_gr_fr g661 (fun i9 _ => hF.z hsr (by rw [ksr]; rfl))
          obtain ⟨x720, ex720⟩ : ∃ zz, q_is (q_z f665 mo 8) zz := ⟨_, q_isr _⟩
          obtain ⟨lx720, ux720⟩ := q_isb ex720 ⟨lz715, uz715⟩
          obtain ⟨x721, ex721⟩ : ∃ zz, q_is (q_z f665 mo 4) zz := ⟨_, q_isr _⟩
          obtain ⟨lx721, ux721⟩ := q_isb ex721 (q_fib hB.2.1 hmo kmo (by decide) rfl)
          obtain ⟨x722, ex722⟩ : ∃ zz, q_is (q_z f665 mo 6) zz := ⟨_, q_isr _⟩
          obtain ⟨lx722, ux722⟩ := q_isb ex722 (q_fib hB.2.1 hmo kmo (by decide) rfl)
          refine q_sast cx hB hsr ksr (by decide) (by decide) ⟨by omega, by omega⟩ rfl dX12_statement_27 (fun H locs f723 ef723 z724 hB => ?_)
          have z725 : q_is (q_z f723 mo 8) x720 := by rw [ef723, q_setz (Or.inr (by decide))]; exact ex720
          have z726 : q_is (q_z f723 mo 4) x721 := by rw [ef723, q_setz (Or.inr (by decide))]; exact ex721
          have z727 : q_is (q_z f723 mo 6) x722 := by rw [ef723, q_setz (Or.inr (by decide))]; exact ex722
          have z728 : q_ir (q_r f723 mo 13) sr := by rw [ef723, q_setr (Or.inr (by decide))]; exact z716
          have z729 : q_ir (q_r f723 mo 18) nm := by rw [ef723, q_setr (Or.inr (by decide))]; exact z717
          have z730 : q_ir (q_r f723 mo 1) bu := by rw [ef723, q_setr (Or.inr (by decide))]; exact z718
          refine lv_goto (tgt := 161) cx.1 cx.2.1 dX12_statement_28 (by decide) ?_
          refine q_ald_n cx dX12_statement_161 rfl (lv_at hl 0 rfl) ?_
          refine q_bipush cx dX12_statement_162 rfl ?_
          refine q_cVv (As := [.int (q_i 59)]) (rest := []) cx hB (fun _ h => h) hN hmo kmo (by decide) rfl (r_mustSign1 l g hN hB.2.1 mo hmo kmo 59 (by decide) (by decide) x720 (by omega) (by omega) z725) q_cX12_241 q_dX12_mustSign (by decide) rfl rfl hl.1 rfl (Nat.le_of_ble_eq_true rfl) dX12_statement_164 (fun H locs f731 h733 hF hB => ?_)
          obtain rfl := h733
          refine q_vret cx hr hlk hB dX12_statement_167 ?_
          exact (Or.inr ⟨(q_isl z725 (by omega)), (q_isu z725 (by omega))⟩)
      · obtain ⟨lz734, uz734⟩ := h654
        have z735 : q_ir (q_r f650 mo 13) sr := Eq.trans (hF.r hmo (by rw [kmo]; rfl)) hr0
        have z736 : q_ir (q_r f650 mo 18) nm := Eq.trans (hF.r hmo (by rw [kmo]; rfl)) hr1
        have z737 : q_ir (q_r f650 mo 1) bu := Eq.trans (hF.r hmo (by rw [kmo]; rfl)) hr2
        have g738 : q_gr f650 sr := q_gr_fr hgr (fun i9 _ => hF.z hsr (by rw [ksr]; rfl))
        obtain ⟨x739, ex739⟩ : ∃ zz, q_is (q_z f650 mo 8) zz := ⟨_, q_isr _⟩
        obtain ⟨lx739, ux739⟩ := q_isb ex739 ⟨lz734, uz734⟩
        obtain ⟨x740, ex740⟩ : ∃ zz, q_is (q_z f650 mo 4) zz := ⟨_, q_isr _⟩
        obtain ⟨lx740, ux740⟩ := q_isb ex740 (q_fib hB.2.1 hmo kmo (by decide) rfl)
        obtain ⟨x741, ex741⟩ : ∃ zz, q_is (q_z f650 mo 6) zz := ⟨_, q_isr _⟩
        obtain ⟨lx741, ux741⟩ := q_isb ex741 (q_fib hB.2.1 hmo kmo (by decide) rfl)
        refine q_ald_n cx dX12_statement_15 rfl (lv_at hl 0 rfl) ?_
        refine q_gX12_20 cx hB hmo kmo z735 dX12_statement_16 (fun hb742 kb742 => ?_)
        refine q_iconst cx dX12_statement_19 ?_
        refine q_ald_n cx dX12_statement_20 rfl (lv_at hl 0 rfl) ?_
        refine q_iconst cx dX12_statement_21 ?_
        refine q_bipush cx dX12_statement_22 rfl ?_
        refine q_cVi (As := [.int (q_i 4), .int (q_i 60)]) (rest := [.int (q_i 2), .ref sr]) cx hB (fun _ h => h) hN hmo kmo (by decide) rfl (r_number1 l g hN hB.2.1 mo hmo kmo 4 (by decide) (by decide) 60 (by decide) (by decide) x739 (by omega) (by omega) ex739) q_cX12_193 q_dX12_number (by decide) rfl rfl hl.1 rfl (Nat.le_of_ble_eq_true rfl) dX12_statement_24 (fun y744 H locs f743 ry744 h745 hF hB => ?_)
        obtain rfl := h745
        refine q_sast cx hB hsr ksr (by decide) (by decide) ⟨by omega, by omega⟩ rfl dX12_statement_27 (fun H locs f746 ef746 z747 hB => ?_)
        have z748 : q_is (q_z f746 mo 8) x739 := by rw [ef746, q_setz (Or.inr (by decide))]; exact ex739
        have z749 : q_is (q_z f746 mo 4) x740 := by rw [ef746, q_setz (Or.inr (by decide))]; exact ex740
        have z750 : q_is (q_z f746 mo 6) x741 := by rw [ef746, q_setz (Or.inr (by decide))]; exact ex741
        have z751 : q_ir (q_r f746 mo 13) sr := by rw [ef746, q_setr (Or.inr (by decide))]; exact z735
        have z752 : q_ir (q_r f746 mo 18) nm := by rw [ef746, q_setr (Or.inr (by decide))]; exact z736
        have z753 : q_ir (q_r f746 mo 1) bu := by rw [ef746, q_setr (Or.inr (by decide))]; exact z737
        refine lv_goto (tgt := 161) cx.1 cx.2.1 dX12_statement_28 (by decide) ?_
        refine q_ald_n cx dX12_statement_161 rfl (lv_at hl 0 rfl) ?_
        refine q_bipush cx dX12_statement_162 rfl ?_
        refine q_cVv (As := [.int (q_i 59)]) (rest := []) cx hB (fun _ h => h) hN hmo kmo (by decide) rfl (r_mustSign1 l g hN hB.2.1 mo hmo kmo 59 (by decide) (by decide) x739 (by omega) (by omega) z748) q_cX12_241 q_dX12_mustSign (by decide) rfl rfl hl.1 rfl (Nat.le_of_ble_eq_true rfl) dX12_statement_164 (fun H locs f754 h756 hF hB => ?_)
        obtain rfl := h756
        refine q_vret cx hr hlk hB dX12_statement_167 ?_
        exact (Or.inr ⟨(q_isl z748 (by omega)), (q_isu z748 (by omega))⟩)
  · obtain ⟨rfl, qy644⟩ := h647
    subst qy644
    refine q_ifeq (tgt := 31) cx ⟨by decide, by decide⟩ dX12_statement_7 (by decide) (fun c757 => ?_) (fun c757 => ?_)
    · refine q_ald_n cx dX12_statement_31 rfl (lv_at hl 0 rfl) ?_
      refine lv_ldc2 (v := q_l 3657363) cx.1 cx.2.1 cx.2.2.2.1 (cx.2.2.2.2 _ q_h1781) dX12_statement_32 ?_
      refine q_cVi (As := [.long (q_l 3657363)]) (rest := []) cx hB (fun _ h => h) hN hmo kmo (by decide) rfl (r_isWord0 l g hN hB.2.1 mo hmo kmo (q_l 3657363) hf0) q_cX12_143 q_dX12_isWord (by decide) rfl rfl hl.1 rfl (Nat.le_of_ble_eq_true rfl) dX12_statement_35 (fun y759 H locs f758 ry759 h760 hF hB => ?_)
      rcases h760 with h761 | h762
      · obtain ⟨rfl, qy759, t763⟩ := h761
        subst qy759
        refine q_ifeq (tgt := 90) cx ⟨by decide, by decide⟩ dX12_statement_38 (by decide) (fun c764 => ?_) (fun c764 => ?_)
        · exact absurd c764 (by omega)
        · refine q_ald_n cx dX12_statement_41 rfl (lv_at hl 0 rfl) ?_
          refine q_iconst cx dX12_statement_42 ?_
          refine q_cVv (As := [.int (q_i 1)]) (rest := []) cx hB (fun _ h => h) hN hmo kmo (by decide) rfl (r_once0 l g hN hB.2.1 mo hmo kmo 1 (by decide) (by decide) bu hbu kbu xp (by omega) (by omega) hf0 hf1 hr2) q_cX12_224 q_dX12_once (by decide) rfl rfl hl.1 rfl (Nat.le_of_ble_eq_true rfl) dX12_statement_43 (fun H locs f765 h767 hF hB => ?_)
          rcases h767 with h768 | h769
          · obtain ⟨z770, t771, t772⟩ := h768
            have z773 : q_ir (q_r f765 mo 13) sr := Eq.trans (hF.r hmo (by rw [kmo]; rfl)) hr0
            have z774 : q_ir (q_r f765 mo 18) nm := Eq.trans (hF.r hmo (by rw [kmo]; rfl)) hr1
            have z775 : q_ir (q_r f765 mo 1) bu := Eq.trans (hF.r hmo (by rw [kmo]; rfl)) hr2
            have g776 : q_gr f765 sr := q_gr_fr hgr (fun i9 _ => hF.z hsr (by rw [ksr]; rfl))
            obtain ⟨x777, ex777⟩ : ∃ zz, q_is (q_z f765 mo 4) zz := ⟨_, q_isr _⟩
            obtain ⟨lx777, ux777⟩ := q_isb ex777 (q_fib hB.2.1 hmo kmo (by decide) rfl)
            obtain ⟨x778, ex778⟩ : ∃ zz, q_is (q_z f765 mo 6) zz := ⟨_, q_isr _⟩
            obtain ⟨lx778, ux778⟩ := q_isb ex778 (q_fib hB.2.1 hmo kmo (by decide) rfl)
            replace t771 := q_isl9 ex777 t771
            replace t772 := k_po_si ex778 ex777 t772
            refine q_ald_n cx dX12_statement_46 rfl (lv_at hl 0 rfl) ?_
            refine q_gX12_20 cx hB hmo kmo z773 dX12_statement_47 (fun hb779 kb779 => ?_)
            refine q_iconst cx dX12_statement_50 ?_
            refine q_ald_n cx dX12_statement_51 rfl (lv_at hl 0 rfl) ?_
            refine q_iconst cx dX12_statement_52 ?_
            refine q_bipush cx dX12_statement_53 rfl ?_
            refine q_cVi (As := [.int (q_i 0), .int (q_i 99)]) (rest := [.int (q_i 5), .ref sr]) cx hB (fun _ h => h) hN hmo kmo (by decide) rfl (r_number0 l g hN hB.2.1 mo hmo kmo 0 (by decide) (by decide) 99 (by decide) (by decide) bu hbu kbu x777 (by omega) (by omega) z770 ex777 z775) q_cX12_193 q_dX12_number (by decide) rfl rfl hl.1 rfl (Nat.le_of_ble_eq_true rfl) dX12_statement_55 (fun y781 H locs f780 ry781 h782 hF hB => ?_)
            rcases h782 with h783 | h784
            · obtain ⟨z785, t786, t787, t788, t789⟩ := h783
              have z790 : q_ir (q_r f780 mo 13) sr := Eq.trans (hF.r hmo (by rw [kmo]; rfl)) z773
              have z791 : q_ir (q_r f780 mo 18) nm := Eq.trans (hF.r hmo (by rw [kmo]; rfl)) z774
              have z792 : q_ir (q_r f780 mo 1) bu := Eq.trans (hF.r hmo (by rw [kmo]; rfl)) z775
              have g793 : q_gr f780 sr := q_gr_fr g776 (fun i9 _ => hF.z hsr (by rw [ksr]; rfl))
              obtain ⟨x794, ex794⟩ : ∃ zz, q_is (q_z f780 mo 4) zz := ⟨_, q_isr _⟩
              obtain ⟨lx794, ux794⟩ := q_isb ex794 (q_fib hB.2.1 hmo kmo (by decide) rfl)
              obtain ⟨x795, ex795⟩ : ∃ zz, q_is (q_z f780 mo 6) zz := ⟨_, q_isr _⟩
              obtain ⟨lx795, ux795⟩ := q_isb ex795 (q_fib hB.2.1 hmo kmo (by decide) rfl)
              replace t786 := q_isl9 ex794 t786
              replace t787 := k_po_si ex795 ex794 t787
              refine q_sast cx hB hsr ksr (by decide) (by decide) ⟨by omega, by omega⟩ rfl dX12_statement_58 (fun H locs f796 ef796 z797 hB => ?_)
              have z798 : q_is (q_z f796 mo 8) 0 := by rw [ef796, q_setz (Or.inr (by decide))]; exact z785
              have z799 : q_is (q_z f796 mo 4) x794 := by rw [ef796, q_setz (Or.inr (by decide))]; exact ex794
              have z800 : q_is (q_z f796 mo 6) x795 := by rw [ef796, q_setz (Or.inr (by decide))]; exact ex795
              have z801 : q_ir (q_r f796 mo 13) sr := by rw [ef796, q_setr (Or.inr (by decide))]; exact z790
              have z802 : q_ir (q_r f796 mo 18) nm := by rw [ef796, q_setr (Or.inr (by decide))]; exact z791
              have z803 : q_ir (q_r f796 mo 1) bu := by rw [ef796, q_setr (Or.inr (by decide))]; exact z792
              have g804 : q_gr f796 sr := q_gr_put g793 ef796 z797 rfl (by omega) (by omega)
              refine q_ald_n cx dX12_statement_59 rfl (lv_at hl 0 rfl) ?_
              refine q_gX12_20 cx hB hmo kmo z801 dX12_statement_60 (fun hb805 kb805 => ?_)
              refine q_bipush cx dX12_statement_63 rfl ?_
              refine q_ald_n cx dX12_statement_65 rfl (lv_at hl 0 rfl) ?_
              refine q_iconst cx dX12_statement_66 ?_
              refine q_bipush cx dX12_statement_67 rfl ?_
              refine q_cVi (As := [.int (q_i 0), .int (q_i 99)]) (rest := [.int (q_i 6), .ref sr]) cx hB (fun _ h => h) hN hmo kmo (by decide) rfl (r_number0 l g hN hB.2.1 mo hmo kmo 0 (by decide) (by decide) 99 (by decide) (by decide) bu hbu kbu x794 (by omega) (by omega) z798 z799 z803) q_cX12_193 q_dX12_number (by decide) rfl rfl hl.1 rfl (Nat.le_of_ble_eq_true rfl) dX12_statement_69 (fun y807 H locs f806 ry807 h808 hF hB => ?_)
              rcases h808 with h809 | h810
              · obtain ⟨z811, t812, t813, t814, t815⟩ := h809
                have z816 : q_is (q_z f806 sr 5) y781 := Eq.trans (hF.z hsr (by rw [ksr]; rfl)) z797
                have z817 : q_ir (q_r f806 mo 13) sr := Eq.trans (hF.r hmo (by rw [kmo]; rfl)) z801
                have z818 : q_ir (q_r f806 mo 18) nm := Eq.trans (hF.r hmo (by rw [kmo]; rfl)) z802
                have z819 : q_ir (q_r f806 mo 1) bu := Eq.trans (hF.r hmo (by rw [kmo]; rfl)) z803
                have g820 : q_gr f806 sr := q_gr_fr g804 (fun i9 _ => hF.z hsr (by rw [ksr]; rfl))
                obtain ⟨x821, ex821⟩ : ∃ zz, q_is (q_z f806 mo 4) zz := ⟨_, q_isr _⟩
                obtain ⟨lx821, ux821⟩ := q_isb ex821 (q_fib hB.2.1 hmo kmo (by decide) rfl)
                obtain ⟨x822, ex822⟩ : ∃ zz, q_is (q_z f806 mo 6) zz := ⟨_, q_isr _⟩
                obtain ⟨lx822, ux822⟩ := q_isb ex822 (q_fib hB.2.1 hmo kmo (by decide) rfl)
                replace t812 := q_isl9 ex821 t812
                replace t813 := k_po_si ex822 ex821 t813
                refine q_sast cx hB hsr ksr (by decide) (by decide) ⟨by omega, by omega⟩ rfl dX12_statement_72 (fun H locs f823 ef823 z824 hB => ?_)
                have z825 : q_is (q_z f823 sr 5) y781 := by rw [ef823, q_setz (Or.inr (by decide))]; exact z816
                have z826 : q_is (q_z f823 mo 8) 0 := by rw [ef823, q_setz (Or.inr (by decide))]; exact z811
                have z827 : q_is (q_z f823 mo 4) x821 := by rw [ef823, q_setz (Or.inr (by decide))]; exact ex821
                have z828 : q_is (q_z f823 mo 6) x822 := by rw [ef823, q_setz (Or.inl (fun q => by rw [q, ksr] at kmo; exact absurd kmo (by decide)))]; exact ex822
                have z829 : q_ir (q_r f823 mo 13) sr := by rw [ef823, q_setr (Or.inr (by decide))]; exact z817
                have z830 : q_ir (q_r f823 mo 18) nm := by rw [ef823, q_setr (Or.inr (by decide))]; exact z818
                have z831 : q_ir (q_r f823 mo 1) bu := by rw [ef823, q_setr (Or.inr (by decide))]; exact z819
                have g832 : q_gr f823 sr := q_gr_put g820 ef823 z824 rfl (by omega) (by omega)
                refine q_ald_n cx dX12_statement_73 rfl (lv_at hl 0 rfl) ?_
                refine q_gX12_20 cx hB hmo kmo z829 dX12_statement_74 (fun hb833 kb833 => ?_)
                refine q_bipush cx dX12_statement_77 rfl ?_
                refine q_ald_n cx dX12_statement_79 rfl (lv_at hl 0 rfl) ?_
                refine q_iconst cx dX12_statement_80 ?_
                refine q_bipush cx dX12_statement_81 rfl ?_
                refine q_cVi (As := [.int (q_i 0), .int (q_i 99)]) (rest := [.int (q_i 7), .ref sr]) cx hB (fun _ h => h) hN hmo kmo (by decide) rfl (r_number0 l g hN hB.2.1 mo hmo kmo 0 (by decide) (by decide) 99 (by decide) (by decide) bu hbu kbu x821 (by omega) (by omega) z826 z827 z831) q_cX12_193 q_dX12_number (by decide) rfl rfl hl.1 rfl (Nat.le_of_ble_eq_true rfl) dX12_statement_83 (fun y835 H locs f834 ry835 h836 hF hB => ?_)
                rcases h836 with h837 | h838
                · obtain ⟨z839, t840, t841, t842, t843⟩ := h837
                  have z844 : q_is (q_z f834 sr 5) y781 := Eq.trans (hF.z hsr (by rw [ksr]; rfl)) z825
                  have z845 : q_is (q_z f834 sr 6) y807 := Eq.trans (hF.z hsr (by rw [ksr]; rfl)) z824
                  have z846 : q_ir (q_r f834 mo 13) sr := Eq.trans (hF.r hmo (by rw [kmo]; rfl)) z829
                  have z847 : q_ir (q_r f834 mo 18) nm := Eq.trans (hF.r hmo (by rw [kmo]; rfl)) z830
                  have z848 : q_ir (q_r f834 mo 1) bu := Eq.trans (hF.r hmo (by rw [kmo]; rfl)) z831
                  have g849 : q_gr f834 sr := q_gr_fr g832 (fun i9 _ => hF.z hsr (by rw [ksr]; rfl))
                  obtain ⟨x850, ex850⟩ : ∃ zz, q_is (q_z f834 mo 4) zz := ⟨_, q_isr _⟩
                  obtain ⟨lx850, ux850⟩ := q_isb ex850 (q_fib hB.2.1 hmo kmo (by decide) rfl)
                  obtain ⟨x851, ex851⟩ : ∃ zz, q_is (q_z f834 mo 6) zz := ⟨_, q_isr _⟩
                  obtain ⟨lx851, ux851⟩ := q_isb ex851 (q_fib hB.2.1 hmo kmo (by decide) rfl)
                  replace t840 := q_isl9 ex850 t840
                  replace t841 := k_po_si ex851 ex850 t841
                  refine q_sast cx hB hsr ksr (by decide) (by decide) ⟨by omega, by omega⟩ rfl dX12_statement_86 (fun H locs f852 ef852 z853 hB => ?_)
                  have z854 : q_is (q_z f852 sr 5) y781 := by rw [ef852, q_setz (Or.inr (by decide))]; exact z844
                  have z855 : q_is (q_z f852 sr 6) y807 := by rw [ef852, q_setz (Or.inr (by decide))]; exact z845
                  have z856 : q_is (q_z f852 mo 8) 0 := by rw [ef852, q_setz (Or.inr (by decide))]; exact z839
                  have z857 : q_is (q_z f852 mo 4) x850 := by rw [ef852, q_setz (Or.inr (by decide))]; exact ex850
                  have z858 : q_is (q_z f852 mo 6) x851 := by rw [ef852, q_setz (Or.inr (by decide))]; exact ex851
                  have z859 : q_ir (q_r f852 mo 13) sr := by rw [ef852, q_setr (Or.inr (by decide))]; exact z846
                  have z860 : q_ir (q_r f852 mo 18) nm := by rw [ef852, q_setr (Or.inr (by decide))]; exact z847
                  have z861 : q_ir (q_r f852 mo 1) bu := by rw [ef852, q_setr (Or.inr (by decide))]; exact z848
                  have g862 : q_gr f852 sr := q_gr_put g849 ef852 z853 rfl (by omega) (by omega)
                  refine lv_goto (tgt := 161) cx.1 cx.2.1 dX12_statement_87 (by decide) ?_
                  refine q_ald_n cx dX12_statement_161 rfl (lv_at hl 0 rfl) ?_
                  refine q_bipush cx dX12_statement_162 rfl ?_
                  refine q_cVv (As := [.int (q_i 59)]) (rest := []) cx hB (fun _ h => h) hN hmo kmo (by decide) rfl (r_mustSign0 l g hN hB.2.1 mo hmo kmo 59 (by decide) (by decide) bu hbu kbu x850 (by omega) (by omega) z856 z857 z861) q_cX12_241 q_dX12_mustSign (by decide) rfl rfl hl.1 rfl (Nat.le_of_ble_eq_true rfl) dX12_statement_164 (fun H locs f863 h865 hF hB => ?_)
                  rcases h865 with h866 | h867
                  · obtain ⟨z868, t869, t870, t871⟩ := h866
                    have z872 : q_is (q_z f863 sr 5) y781 := Eq.trans (hF.z hsr (by rw [ksr]; rfl)) z854
                    have z873 : q_is (q_z f863 sr 6) y807 := Eq.trans (hF.z hsr (by rw [ksr]; rfl)) z855
                    have z874 : q_is (q_z f863 sr 7) y835 := Eq.trans (hF.z hsr (by rw [ksr]; rfl)) z853
                    have z875 : q_ir (q_r f863 mo 13) sr := Eq.trans (hF.r hmo (by rw [kmo]; rfl)) z859
                    have z876 : q_ir (q_r f863 mo 18) nm := Eq.trans (hF.r hmo (by rw [kmo]; rfl)) z860
                    have z877 : q_ir (q_r f863 mo 1) bu := Eq.trans (hF.r hmo (by rw [kmo]; rfl)) z861
                    have g878 : q_gr f863 sr := q_gr_fr g862 (fun i9 _ => hF.z hsr (by rw [ksr]; rfl))
                    obtain ⟨x879, ex879⟩ : ∃ zz, q_is (q_z f863 mo 4) zz := ⟨_, q_isr _⟩
                    obtain ⟨lx879, ux879⟩ := q_isb ex879 (q_fib hB.2.1 hmo kmo (by decide) rfl)
                    obtain ⟨x880, ex880⟩ : ∃ zz, q_is (q_z f863 mo 6) zz := ⟨_, q_isr _⟩
                    obtain ⟨lx880, ux880⟩ := q_isb ex880 (q_fib hB.2.1 hmo kmo (by decide) rfl)
                    replace t869 := q_isl9 ex879 t869
                    replace t870 := k_po_si ex880 ex879 t870
                    refine q_vret cx hr hlk hB dX12_statement_167 ?_
                    exact (Or.inl ⟨z868, (q_islt ex879 (by have h7 := k_po_lt t841 (k_ne0 z858 t871); omega)), g878⟩)
                  · obtain ⟨lz881, uz881⟩ := h867
                    have z882 : q_is (q_z f863 sr 5) y781 := Eq.trans (hF.z hsr (by rw [ksr]; rfl)) z854
                    have z883 : q_is (q_z f863 sr 6) y807 := Eq.trans (hF.z hsr (by rw [ksr]; rfl)) z855
                    have z884 : q_is (q_z f863 sr 7) y835 := Eq.trans (hF.z hsr (by rw [ksr]; rfl)) z853
                    have z885 : q_ir (q_r f863 mo 13) sr := Eq.trans (hF.r hmo (by rw [kmo]; rfl)) z859
                    have z886 : q_ir (q_r f863 mo 18) nm := Eq.trans (hF.r hmo (by rw [kmo]; rfl)) z860
                    have z887 : q_ir (q_r f863 mo 1) bu := Eq.trans (hF.r hmo (by rw [kmo]; rfl)) z861
                    have g888 : q_gr f863 sr := q_gr_fr g862 (fun i9 _ => hF.z hsr (by rw [ksr]; rfl))
                    obtain ⟨x889, ex889⟩ : ∃ zz, q_is (q_z f863 mo 8) zz := ⟨_, q_isr _⟩
                    obtain ⟨lx889, ux889⟩ := q_isb ex889 ⟨lz881, uz881⟩
                    obtain ⟨x890, ex890⟩ : ∃ zz, q_is (q_z f863 mo 4) zz := ⟨_, q_isr _⟩
                    obtain ⟨lx890, ux890⟩ := q_isb ex890 (q_fib hB.2.1 hmo kmo (by decide) rfl)
                    obtain ⟨x891, ex891⟩ : ∃ zz, q_is (q_z f863 mo 6) zz := ⟨_, q_isr _⟩
                    obtain ⟨lx891, ux891⟩ := q_isb ex891 (q_fib hB.2.1 hmo kmo (by decide) rfl)
                    refine q_vret cx hr hlk hB dX12_statement_167 ?_
                    exact (Or.inr ⟨(q_isl ex889 (by omega)), (q_isu ex889 (by omega))⟩)
                · obtain ⟨lz892, uz892⟩ := h838
                  have z893 : q_is (q_z f834 sr 5) y781 := Eq.trans (hF.z hsr (by rw [ksr]; rfl)) z825
                  have z894 : q_is (q_z f834 sr 6) y807 := Eq.trans (hF.z hsr (by rw [ksr]; rfl)) z824
                  have z895 : q_ir (q_r f834 mo 13) sr := Eq.trans (hF.r hmo (by rw [kmo]; rfl)) z829
                  have z896 : q_ir (q_r f834 mo 18) nm := Eq.trans (hF.r hmo (by rw [kmo]; rfl)) z830
                  have z897 : q_ir (q_r f834 mo 1) bu := Eq.trans (hF.r hmo (by rw [kmo]; rfl)) z831
                  have g898 : q_gr f834 sr := q_gr_fr g832 (fun i9 _ => hF.z hsr (by rw [ksr]; rfl))
                  obtain ⟨x899, ex899⟩ : ∃ zz, q_is (q_z f834 mo 8) zz := ⟨_, q_isr _⟩
                  obtain ⟨lx899, ux899⟩ := q_isb ex899 ⟨lz892, uz892⟩
                  obtain ⟨x900, ex900⟩ : ∃ zz, q_is (q_z f834 mo 4) zz := ⟨_, q_isr _⟩
                  obtain ⟨lx900, ux900⟩ := q_isb ex900 (q_fib hB.2.1 hmo kmo (by decide) rfl)
                  obtain ⟨x901, ex901⟩ : ∃ zz, q_is (q_z f834 mo 6) zz := ⟨_, q_isr _⟩
                  obtain ⟨lx901, ux901⟩ := q_isb ex901 (q_fib hB.2.1 hmo kmo (by decide) rfl)
                  refine q_sast cx hB hsr ksr (by decide) (by decide) ⟨by omega, by omega⟩ rfl dX12_statement_86 (fun H locs f902 ef902 z903 hB => ?_)
                  have z904 : q_is (q_z f902 sr 5) y781 := by rw [ef902, q_setz (Or.inr (by decide))]; exact z893
                  have z905 : q_is (q_z f902 sr 6) y807 := by rw [ef902, q_setz (Or.inr (by decide))]; exact z894
                  have z906 : q_is (q_z f902 mo 8) x899 := by rw [ef902, q_setz (Or.inr (by decide))]; exact ex899
                  have z907 : q_is (q_z f902 mo 4) x900 := by rw [ef902, q_setz (Or.inr (by decide))]; exact ex900
                  have z908 : q_is (q_z f902 mo 6) x901 := by rw [ef902, q_setz (Or.inr (by decide))]; exact ex901
                  have z909 : q_ir (q_r f902 mo 13) sr := by rw [ef902, q_setr (Or.inr (by decide))]; exact z895
                  have z910 : q_ir (q_r f902 mo 18) nm := by rw [ef902, q_setr (Or.inr (by decide))]; exact z896
                  have z911 : q_ir (q_r f902 mo 1) bu := by rw [ef902, q_setr (Or.inr (by decide))]; exact z897
                  refine lv_goto (tgt := 161) cx.1 cx.2.1 dX12_statement_87 (by decide) ?_
                  refine q_ald_n cx dX12_statement_161 rfl (lv_at hl 0 rfl) ?_
                  refine q_bipush cx dX12_statement_162 rfl ?_
                  refine q_cVv (As := [.int (q_i 59)]) (rest := []) cx hB (fun _ h => h) hN hmo kmo (by decide) rfl (r_mustSign1 l g hN hB.2.1 mo hmo kmo 59 (by decide) (by decide) x899 (by omega) (by omega) z906) q_cX12_241 q_dX12_mustSign (by decide) rfl rfl hl.1 rfl (Nat.le_of_ble_eq_true rfl) dX12_statement_164 (fun H locs f912 h914 hF hB => ?_)
                  obtain rfl := h914
                  refine q_vret cx hr hlk hB dX12_statement_167 ?_
                  exact (Or.inr ⟨(q_isl z906 (by omega)), (q_isu z906 (by omega))⟩)
              · obtain ⟨lz915, uz915⟩ := h810
                have z916 : q_is (q_z f806 sr 5) y781 := Eq.trans (hF.z hsr (by rw [ksr]; rfl)) z797
                have z917 : q_ir (q_r f806 mo 13) sr := Eq.trans (hF.r hmo (by rw [kmo]; rfl)) z801
                have z918 : q_ir (q_r f806 mo 18) nm := Eq.trans (hF.r hmo (by rw [kmo]; rfl)) z802
                have z919 : q_ir (q_r f806 mo 1) bu := Eq.trans (hF.r hmo (by rw [kmo]; rfl)) z803
                have g920 : q_gr f806 sr := q_gr_fr g804 (fun i9 _ => hF.z hsr (by rw [ksr]; rfl))
                obtain ⟨x921, ex921⟩ : ∃ zz, q_is (q_z f806 mo 8) zz := ⟨_, q_isr _⟩
                obtain ⟨lx921, ux921⟩ := q_isb ex921 ⟨lz915, uz915⟩
                obtain ⟨x922, ex922⟩ : ∃ zz, q_is (q_z f806 mo 4) zz := ⟨_, q_isr _⟩
                obtain ⟨lx922, ux922⟩ := q_isb ex922 (q_fib hB.2.1 hmo kmo (by decide) rfl)
                obtain ⟨x923, ex923⟩ : ∃ zz, q_is (q_z f806 mo 6) zz := ⟨_, q_isr _⟩
                obtain ⟨lx923, ux923⟩ := q_isb ex923 (q_fib hB.2.1 hmo kmo (by decide) rfl)
                refine q_sast cx hB hsr ksr (by decide) (by decide) ⟨by omega, by omega⟩ rfl dX12_statement_72 (fun H locs f924 ef924 z925 hB => ?_)
                have z926 : q_is (q_z f924 sr 5) y781 := by rw [ef924, q_setz (Or.inr (by decide))]; exact z916
                have z927 : q_is (q_z f924 mo 8) x921 := by rw [ef924, q_setz (Or.inr (by decide))]; exact ex921
                have z928 : q_is (q_z f924 mo 4) x922 := by rw [ef924, q_setz (Or.inr (by decide))]; exact ex922
                have z929 : q_is (q_z f924 mo 6) x923 := by rw [ef924, q_setz (Or.inl (fun q => by rw [q, ksr] at kmo; exact absurd kmo (by decide)))]; exact ex923
                have z930 : q_ir (q_r f924 mo 13) sr := by rw [ef924, q_setr (Or.inr (by decide))]; exact z917
                have z931 : q_ir (q_r f924 mo 18) nm := by rw [ef924, q_setr (Or.inr (by decide))]; exact z918
                have z932 : q_ir (q_r f924 mo 1) bu := by rw [ef924, q_setr (Or.inr (by decide))]; exact z919
                refine q_ald_n cx dX12_statement_73 rfl (lv_at hl 0 rfl) ?_
                refine q_gX12_20 cx hB hmo kmo z930 dX12_statement_74 (fun hb933 kb933 => ?_)
                refine q_bipush cx dX12_statement_77 rfl ?_
                refine q_ald_n cx dX12_statement_79 rfl (lv_at hl 0 rfl) ?_
                refine q_iconst cx dX12_statement_80 ?_
                refine q_bipush cx dX12_statement_81 rfl ?_
                refine q_cVi (As := [.int (q_i 0), .int (q_i 99)]) (rest := [.int (q_i 7), .ref sr]) cx hB (fun _ h => h) hN hmo kmo (by decide) rfl (r_number1 l g hN hB.2.1 mo hmo kmo 0 (by decide) (by decide) 99 (by decide) (by decide) x921 (by omega) (by omega) z927) q_cX12_193 q_dX12_number (by decide) rfl rfl hl.1 rfl (Nat.le_of_ble_eq_true rfl) dX12_statement_83 (fun y935 H locs f934 ry935 h936 hF hB => ?_)
                obtain rfl := h936
                refine q_sast cx hB hsr ksr (by decide) (by decide) ⟨by omega, by omega⟩ rfl dX12_statement_86 (fun H locs f937 ef937 z938 hB => ?_)
                have z939 : q_is (q_z f937 sr 5) y781 := by rw [ef937, q_setz (Or.inr (by decide))]; exact z926
                have z940 : q_is (q_z f937 mo 8) x921 := by rw [ef937, q_setz (Or.inr (by decide))]; exact z927
                have z941 : q_is (q_z f937 mo 4) x922 := by rw [ef937, q_setz (Or.inr (by decide))]; exact z928
                have z942 : q_is (q_z f937 mo 6) x923 := by rw [ef937, q_setz (Or.inr (by decide))]; exact z929
                have z943 : q_is (q_z f937 sr 6) y807 := by rw [ef937, q_setz (Or.inr (by decide))]; exact z925
                have z944 : q_ir (q_r f937 mo 13) sr := by rw [ef937, q_setr (Or.inr (by decide))]; exact z930
                have z945 : q_ir (q_r f937 mo 18) nm := by rw [ef937, q_setr (Or.inr (by decide))]; exact z931
                have z946 : q_ir (q_r f937 mo 1) bu := by rw [ef937, q_setr (Or.inr (by decide))]; exact z932
                refine lv_goto (tgt := 161) cx.1 cx.2.1 dX12_statement_87 (by decide) ?_
                refine q_ald_n cx dX12_statement_161 rfl (lv_at hl 0 rfl) ?_
                refine q_bipush cx dX12_statement_162 rfl ?_
                refine q_cVv (As := [.int (q_i 59)]) (rest := []) cx hB (fun _ h => h) hN hmo kmo (by decide) rfl (r_mustSign1 l g hN hB.2.1 mo hmo kmo 59 (by decide) (by decide) x921 (by omega) (by omega) z940) q_cX12_241 q_dX12_mustSign (by decide) rfl rfl hl.1 rfl (Nat.le_of_ble_eq_true rfl) dX12_statement_164 (fun H locs f947 h949 hF hB => ?_)
                obtain rfl := h949
                refine q_vret cx hr hlk hB dX12_statement_167 ?_
                exact (Or.inr ⟨(q_isl z940 (by omega)), (q_isu z940 (by omega))⟩)
            · obtain ⟨lz950, uz950⟩ := h784
              have z951 : q_ir (q_r f780 mo 13) sr := Eq.trans (hF.r hmo (by rw [kmo]; rfl)) z773
              have z952 : q_ir (q_r f780 mo 18) nm := Eq.trans (hF.r hmo (by rw [kmo]; rfl)) z774
              have z953 : q_ir (q_r f780 mo 1) bu := Eq.trans (hF.r hmo (by rw [kmo]; rfl)) z775
              have g954 : q_gr f780 sr := q_gr_fr g776 (fun i9 _ => hF.z hsr (by rw [ksr]; rfl))
              obtain ⟨x955, ex955⟩ : ∃ zz, q_is (q_z f780 mo 8) zz := ⟨_, q_isr _⟩
              obtain ⟨lx955, ux955⟩ := q_isb ex955 ⟨lz950, uz950⟩
              obtain ⟨x956, ex956⟩ : ∃ zz, q_is (q_z f780 mo 4) zz := ⟨_, q_isr _⟩
              obtain ⟨lx956, ux956⟩ := q_isb ex956 (q_fib hB.2.1 hmo kmo (by decide) rfl)
              obtain ⟨x957, ex957⟩ : ∃ zz, q_is (q_z f780 mo 6) zz := ⟨_, q_isr _⟩
              obtain ⟨lx957, ux957⟩ := q_isb ex957 (q_fib hB.2.1 hmo kmo (by decide) rfl)
              refine q_sast cx hB hsr ksr (by decide) (by decide) ⟨by omega, by omega⟩ rfl dX12_statement_58 (fun H locs f958 ef958 z959 hB => ?_)
              have z960 : q_is (q_z f958 mo 8) x955 := by rw [ef958, q_setz (Or.inr (by decide))]; exact ex955
              have z961 : q_is (q_z f958 mo 4) x956 := by rw [ef958, q_setz (Or.inr (by decide))]; exact ex956
              have z962 : q_is (q_z f958 mo 6) x957 := by rw [ef958, q_setz (Or.inr (by decide))]; exact ex957
              have z963 : q_ir (q_r f958 mo 13) sr := by rw [ef958, q_setr (Or.inr (by decide))]; exact z951
              have z964 : q_ir (q_r f958 mo 18) nm := by rw [ef958, q_setr (Or.inr (by decide))]; exact z952
              have z965 : q_ir (q_r f958 mo 1) bu := by rw [ef958, q_setr (Or.inr (by decide))]; exact z953
              refine q_ald_n cx dX12_statement_59 rfl (lv_at hl 0 rfl) ?_
              refine q_gX12_20 cx hB hmo kmo z963 dX12_statement_60 (fun hb966 kb966 => ?_)
              refine q_bipush cx dX12_statement_63 rfl ?_
              refine q_ald_n cx dX12_statement_65 rfl (lv_at hl 0 rfl) ?_
              refine q_iconst cx dX12_statement_66 ?_
              refine q_bipush cx dX12_statement_67 rfl ?_
              refine q_cVi (As := [.int (q_i 0), .int (q_i 99)]) (rest := [.int (q_i 6), .ref sr]) cx hB (fun _ h => h) hN hmo kmo (by decide) rfl (r_number1 l g hN hB.2.1 mo hmo kmo 0 (by decide) (by decide) 99 (by decide) (by decide) x955 (by omega) (by omega) z960) q_cX12_193 q_dX12_number (by decide) rfl rfl hl.1 rfl (Nat.le_of_ble_eq_true rfl) dX12_statement_69 (fun y968 H locs f967 ry968 h969 hF hB => ?_)
              obtain rfl := h969
              refine q_sast cx hB hsr ksr (by decide) (by decide) ⟨by omega, by omega⟩ rfl dX12_statement_72 (fun H locs f970 ef970 z971 hB => ?_)
              have z972 : q_is (q_z f970 mo 8) x955 := by rw [ef970, q_setz (Or.inr (by decide))]; exact z960
              have z973 : q_is (q_z f970 mo 4) x956 := by rw [ef970, q_setz (Or.inr (by decide))]; exact z961
              have z974 : q_is (q_z f970 mo 6) x957 := by rw [ef970, q_setz (Or.inl (fun q => by rw [q, ksr] at kmo; exact absurd kmo (by decide)))]; exact z962
              have z975 : q_is (q_z f970 sr 5) y781 := by rw [ef970, q_setz (Or.inr (by decide))]; exact z959
              have z976 : q_ir (q_r f970 mo 13) sr := by rw [ef970, q_setr (Or.inr (by decide))]; exact z963
              have z977 : q_ir (q_r f970 mo 18) nm := by rw [ef970, q_setr (Or.inr (by decide))]; exact z964
              have z978 : q_ir (q_r f970 mo 1) bu := by rw [ef970, q_setr (Or.inr (by decide))]; exact z965
              refine q_ald_n cx dX12_statement_73 rfl (lv_at hl 0 rfl) ?_
              refine q_gX12_20 cx hB hmo kmo z976 dX12_statement_74 (fun hb979 kb979 => ?_)
              refine q_bipush cx dX12_statement_77 rfl ?_
              refine q_ald_n cx dX12_statement_79 rfl (lv_at hl 0 rfl) ?_
              refine q_iconst cx dX12_statement_80 ?_
              refine q_bipush cx dX12_statement_81 rfl ?_
              refine q_cVi (As := [.int (q_i 0), .int (q_i 99)]) (rest := [.int (q_i 7), .ref sr]) cx hB (fun _ h => h) hN hmo kmo (by decide) rfl (r_number1 l g hN hB.2.1 mo hmo kmo 0 (by decide) (by decide) 99 (by decide) (by decide) x955 (by omega) (by omega) z972) q_cX12_193 q_dX12_number (by decide) rfl rfl hl.1 rfl (Nat.le_of_ble_eq_true rfl) dX12_statement_83 (fun y981 H locs f980 ry981 h982 hF hB => ?_)
              obtain rfl := h982
              refine q_sast cx hB hsr ksr (by decide) (by decide) ⟨by omega, by omega⟩ rfl dX12_statement_86 (fun H locs f983 ef983 z984 hB => ?_)
              have z985 : q_is (q_z f983 mo 8) x955 := by rw [ef983, q_setz (Or.inr (by decide))]; exact z972
              have z986 : q_is (q_z f983 mo 4) x956 := by rw [ef983, q_setz (Or.inr (by decide))]; exact z973
              have z987 : q_is (q_z f983 mo 6) x957 := by rw [ef983, q_setz (Or.inr (by decide))]; exact z974
              have z988 : q_is (q_z f983 sr 5) y781 := by rw [ef983, q_setz (Or.inr (by decide))]; exact z975
              have z989 : q_is (q_z f983 sr 6) y968 := by rw [ef983, q_setz (Or.inr (by decide))]; exact z971
              have z990 : q_ir (q_r f983 mo 13) sr := by rw [ef983, q_setr (Or.inr (by decide))]; exact z976
              have z991 : q_ir (q_r f983 mo 18) nm := by rw [ef983, q_setr (Or.inr (by decide))]; exact z977
              have z992 : q_ir (q_r f983 mo 1) bu := by rw [ef983, q_setr (Or.inr (by decide))]; exact z978
              refine lv_goto (tgt := 161) cx.1 cx.2.1 dX12_statement_87 (by decide) ?_
              refine q_ald_n cx dX12_statement_161 rfl (lv_at hl 0 rfl) ?_
              refine q_bipush cx dX12_statement_162 rfl ?_
              refine q_cVv (As := [.int (q_i 59)]) (rest := []) cx hB (fun _ h => h) hN hmo kmo (by decide) rfl (r_mustSign1 l g hN hB.2.1 mo hmo kmo 59 (by decide) (by decide) x955 (by omega) (by omega) z985) q_cX12_241 q_dX12_mustSign (by decide) rfl rfl hl.1 rfl (Nat.le_of_ble_eq_true rfl) dX12_statement_164 (fun H locs f993 h995 hF hB => ?_)
              obtain rfl := h995
              refine q_vret cx hr hlk hB dX12_statement_167 ?_
              exact (Or.inr ⟨(q_isl z985 (by omega)), (q_isu z985 (by omega))⟩)
          · obtain ⟨lz996, uz996⟩ := h769
            have z997 : q_ir (q_r f765 mo 13) sr := Eq.trans (hF.r hmo (by rw [kmo]; rfl)) hr0
            have z998 : q_ir (q_r f765 mo 18) nm := Eq.trans (hF.r hmo (by rw [kmo]; rfl)) hr1
            have z999 : q_ir (q_r f765 mo 1) bu := Eq.trans (hF.r hmo (by rw [kmo]; rfl)) hr2
            have g1000 : q_gr f765 sr := q_gr_fr hgr (fun i9 _ => hF.z hsr (by rw [ksr]; rfl))
            obtain ⟨x1001, ex1001⟩ : ∃ zz, q_is (q_z f765 mo 8) zz := ⟨_, q_isr _⟩
            obtain ⟨lx1001, ux1001⟩ := q_isb ex1001 ⟨lz996, uz996⟩
            obtain ⟨x1002, ex1002⟩ : ∃ zz, q_is (q_z f765 mo 4) zz := ⟨_, q_isr _⟩
            obtain ⟨lx1002, ux1002⟩ := q_isb ex1002 (q_fib hB.2.1 hmo kmo (by decide) rfl)
            obtain ⟨x1003, ex1003⟩ : ∃ zz, q_is (q_z f765 mo 6) zz := ⟨_, q_isr _⟩
            obtain ⟨lx1003, ux1003⟩ := q_isb ex1003 (q_fib hB.2.1 hmo kmo (by decide) rfl)
            refine q_ald_n cx dX12_statement_46 rfl (lv_at hl 0 rfl) ?_
            refine q_gX12_20 cx hB hmo kmo z997 dX12_statement_47 (fun hb1004 kb1004 => ?_)
            refine q_iconst cx dX12_statement_50 ?_
            refine q_ald_n cx dX12_statement_51 rfl (lv_at hl 0 rfl) ?_
            refine q_iconst cx dX12_statement_52 ?_
            refine q_bipush cx dX12_statement_53 rfl ?_
            refine q_cVi (As := [.int (q_i 0), .int (q_i 99)]) (rest := [.int (q_i 5), .ref sr]) cx hB (fun _ h => h) hN hmo kmo (by decide) rfl (r_number1 l g hN hB.2.1 mo hmo kmo 0 (by decide) (by decide) 99 (by decide) (by decide) x1001 (by omega) (by omega) ex1001) q_cX12_193 q_dX12_number (by decide) rfl rfl hl.1 rfl (Nat.le_of_ble_eq_true rfl) dX12_statement_55 (fun y1006 H locs f1005 ry1006 h1007 hF hB => ?_)
            obtain rfl := h1007
            refine q_sast cx hB hsr ksr (by decide) (by decide) ⟨by omega, by omega⟩ rfl dX12_statement_58 (fun H locs f1008 ef1008 z1009 hB => ?_)
            have z1010 : q_is (q_z f1008 mo 8) x1001 := by rw [ef1008, q_setz (Or.inr (by decide))]; exact ex1001
            have z1011 : q_is (q_z f1008 mo 4) x1002 := by rw [ef1008, q_setz (Or.inr (by decide))]; exact ex1002
            have z1012 : q_is (q_z f1008 mo 6) x1003 := by rw [ef1008, q_setz (Or.inr (by decide))]; exact ex1003
            have z1013 : q_ir (q_r f1008 mo 13) sr := by rw [ef1008, q_setr (Or.inr (by decide))]; exact z997
            have z1014 : q_ir (q_r f1008 mo 18) nm := by rw [ef1008, q_setr (Or.inr (by decide))]; exact z998
            have z1015 : q_ir (q_r f1008 mo 1) bu := by rw [ef1008, q_setr (Or.inr (by decide))]; exact z999
            refine q_ald_n cx dX12_statement_59 rfl (lv_at hl 0 rfl) ?_
            refine q_gX12_20 cx hB hmo kmo z1013 dX12_statement_60 (fun hb1016 kb1016 => ?_)
            refine q_bipush cx dX12_statement_63 rfl ?_
            refine q_ald_n cx dX12_statement_65 rfl (lv_at hl 0 rfl) ?_
            refine q_iconst cx dX12_statement_66 ?_
            refine q_bipush cx dX12_statement_67 rfl ?_
            refine q_cVi (As := [.int (q_i 0), .int (q_i 99)]) (rest := [.int (q_i 6), .ref sr]) cx hB (fun _ h => h) hN hmo kmo (by decide) rfl (r_number1 l g hN hB.2.1 mo hmo kmo 0 (by decide) (by decide) 99 (by decide) (by decide) x1001 (by omega) (by omega) z1010) q_cX12_193 q_dX12_number (by decide) rfl rfl hl.1 rfl (Nat.le_of_ble_eq_true rfl) dX12_statement_69 (fun y1018 H locs f1017 ry1018 h1019 hF hB => ?_)
            obtain rfl := h1019
            refine q_sast cx hB hsr ksr (by decide) (by decide) ⟨by omega, by omega⟩ rfl dX12_statement_72 (fun H locs f1020 ef1020 z1021 hB => ?_)
            have z1022 : q_is (q_z f1020 mo 8) x1001 := by rw [ef1020, q_setz (Or.inr (by decide))]; exact z1010
            have z1023 : q_is (q_z f1020 mo 4) x1002 := by rw [ef1020, q_setz (Or.inr (by decide))]; exact z1011
            have z1024 : q_is (q_z f1020 mo 6) x1003 := by rw [ef1020, q_setz (Or.inl (fun q => by rw [q, ksr] at kmo; exact absurd kmo (by decide)))]; exact z1012
            have z1025 : q_is (q_z f1020 sr 5) y1006 := by rw [ef1020, q_setz (Or.inr (by decide))]; exact z1009
            have z1026 : q_ir (q_r f1020 mo 13) sr := by rw [ef1020, q_setr (Or.inr (by decide))]; exact z1013
            have z1027 : q_ir (q_r f1020 mo 18) nm := by rw [ef1020, q_setr (Or.inr (by decide))]; exact z1014
            have z1028 : q_ir (q_r f1020 mo 1) bu := by rw [ef1020, q_setr (Or.inr (by decide))]; exact z1015
            refine q_ald_n cx dX12_statement_73 rfl (lv_at hl 0 rfl) ?_
            refine q_gX12_20 cx hB hmo kmo z1026 dX12_statement_74 (fun hb1029 kb1029 => ?_)
            refine q_bipush cx dX12_statement_77 rfl ?_
            refine q_ald_n cx dX12_statement_79 rfl (lv_at hl 0 rfl) ?_
            refine q_iconst cx dX12_statement_80 ?_
            refine q_bipush cx dX12_statement_81 rfl ?_
            refine q_cVi (As := [.int (q_i 0), .int (q_i 99)]) (rest := [.int (q_i 7), .ref sr]) cx hB (fun _ h => h) hN hmo kmo (by decide) rfl (r_number1 l g hN hB.2.1 mo hmo kmo 0 (by decide) (by decide) 99 (by decide) (by decide) x1001 (by omega) (by omega) z1022) q_cX12_193 q_dX12_number (by decide) rfl rfl hl.1 rfl (Nat.le_of_ble_eq_true rfl) dX12_statement_83 (fun y1031 H locs f1030 ry1031 h1032 hF hB => ?_)
            obtain rfl := h1032
            refine q_sast cx hB hsr ksr (by decide) (by decide) ⟨by omega, by omega⟩ rfl dX12_statement_86 (fun H locs f1033 ef1033 z1034 hB => ?_)
            have z1035 : q_is (q_z f1033 mo 8) x1001 := by rw [ef1033, q_setz (Or.inr (by decide))]; exact z1022
            have z1036 : q_is (q_z f1033 mo 4) x1002 := by rw [ef1033, q_setz (Or.inr (by decide))]; exact z1023
            have z1037 : q_is (q_z f1033 mo 6) x1003 := by rw [ef1033, q_setz (Or.inr (by decide))]; exact z1024
            have z1038 : q_is (q_z f1033 sr 5) y1006 := by rw [ef1033, q_setz (Or.inr (by decide))]; exact z1025
            have z1039 : q_is (q_z f1033 sr 6) y1018 := by rw [ef1033, q_setz (Or.inr (by decide))]; exact z1021
            have z1040 : q_ir (q_r f1033 mo 13) sr := by rw [ef1033, q_setr (Or.inr (by decide))]; exact z1026
            have z1041 : q_ir (q_r f1033 mo 18) nm := by rw [ef1033, q_setr (Or.inr (by decide))]; exact z1027
            have z1042 : q_ir (q_r f1033 mo 1) bu := by rw [ef1033, q_setr (Or.inr (by decide))]; exact z1028
            refine lv_goto (tgt := 161) cx.1 cx.2.1 dX12_statement_87 (by decide) ?_
            refine q_ald_n cx dX12_statement_161 rfl (lv_at hl 0 rfl) ?_
            refine q_bipush cx dX12_statement_162 rfl ?_
            refine q_cVv (As := [.int (q_i 59)]) (rest := []) cx hB (fun _ h => h) hN hmo kmo (by decide) rfl (r_mustSign1 l g hN hB.2.1 mo hmo kmo 59 (by decide) (by decide) x1001 (by omega) (by omega) z1035) q_cX12_241 q_dX12_mustSign (by decide) rfl rfl hl.1 rfl (Nat.le_of_ble_eq_true rfl) dX12_statement_164 (fun H locs f1043 h1045 hF hB => ?_)
            obtain rfl := h1045
            refine q_vret cx hr hlk hB dX12_statement_167 ?_
            exact (Or.inr ⟨(q_isl z1035 (by omega)), (q_isu z1035 (by omega))⟩)
      · obtain ⟨rfl, qy759⟩ := h762
        subst qy759
        refine q_ifeq (tgt := 90) cx ⟨by decide, by decide⟩ dX12_statement_38 (by decide) (fun c1046 => ?_) (fun c1046 => ?_)
        · refine q_ald_n cx dX12_statement_90 rfl (lv_at hl 0 rfl) ?_
          refine lv_ldc2 (v := q_l 435827) cx.1 cx.2.1 cx.2.2.2.1 (cx.2.2.2.2 _ q_h1782) dX12_statement_91 ?_
          refine q_cVi (As := [.long (q_l 435827)]) (rest := []) cx hB (fun _ h => h) hN hmo kmo (by decide) rfl (r_isWord0 l g hN hB.2.1 mo hmo kmo (q_l 435827) hf0) q_cX12_143 q_dX12_isWord (by decide) rfl rfl hl.1 rfl (Nat.le_of_ble_eq_true rfl) dX12_statement_94 (fun y1048 H locs f1047 ry1048 h1049 hF hB => ?_)
          rcases h1049 with h1050 | h1051
          · obtain ⟨rfl, qy1048, t1052⟩ := h1050
            subst qy1048
            refine q_ifeq (tgt := 122) cx ⟨by decide, by decide⟩ dX12_statement_97 (by decide) (fun c1053 => ?_) (fun c1053 => ?_)
            · exact absurd c1053 (by omega)
            · refine q_ald_n cx dX12_statement_100 rfl (lv_at hl 0 rfl) ?_
              refine q_iconst cx dX12_statement_101 ?_
              refine q_cVv (As := [.int (q_i 2)]) (rest := []) cx hB (fun _ h => h) hN hmo kmo (by decide) rfl (r_once0 l g hN hB.2.1 mo hmo kmo 2 (by decide) (by decide) bu hbu kbu xp (by omega) (by omega) hf0 hf1 hr2) q_cX12_224 q_dX12_once (by decide) rfl rfl hl.1 rfl (Nat.le_of_ble_eq_true rfl) dX12_statement_102 (fun H locs f1054 h1056 hF hB => ?_)
              rcases h1056 with h1057 | h1058
              · obtain ⟨z1059, t1060, t1061⟩ := h1057
                have z1062 : q_ir (q_r f1054 mo 13) sr := Eq.trans (hF.r hmo (by rw [kmo]; rfl)) hr0
                have z1063 : q_ir (q_r f1054 mo 18) nm := Eq.trans (hF.r hmo (by rw [kmo]; rfl)) hr1
                have z1064 : q_ir (q_r f1054 mo 1) bu := Eq.trans (hF.r hmo (by rw [kmo]; rfl)) hr2
                have g1065 : q_gr f1054 sr := q_gr_fr hgr (fun i9 _ => hF.z hsr (by rw [ksr]; rfl))
                obtain ⟨x1066, ex1066⟩ : ∃ zz, q_is (q_z f1054 mo 4) zz := ⟨_, q_isr _⟩
                obtain ⟨lx1066, ux1066⟩ := q_isb ex1066 (q_fib hB.2.1 hmo kmo (by decide) rfl)
                obtain ⟨x1067, ex1067⟩ : ∃ zz, q_is (q_z f1054 mo 6) zz := ⟨_, q_isr _⟩
                obtain ⟨lx1067, ux1067⟩ := q_isb ex1067 (q_fib hB.2.1 hmo kmo (by decide) rfl)
                replace t1060 := q_isl9 ex1066 t1060
                replace t1061 := k_po_si ex1067 ex1066 t1061
                refine q_ald_n cx dX12_statement_105 rfl (lv_at hl 0 rfl) ?_
                refine q_gX12_20 cx hB hmo kmo z1062 dX12_statement_106 (fun hb1068 kb1068 => ?_)
                refine q_bipush cx dX12_statement_109 rfl ?_
                refine q_ald_n cx dX12_statement_111 rfl (lv_at hl 0 rfl) ?_
                refine q_iconst cx dX12_statement_112 ?_
                refine q_bipush cx dX12_statement_113 rfl ?_
                refine q_cVi (As := [.int (q_i 1), .int (q_i 9)]) (rest := [.int (q_i 8), .ref sr]) cx hB (fun _ h => h) hN hmo kmo (by decide) rfl (r_number0 l g hN hB.2.1 mo hmo kmo 1 (by decide) (by decide) 9 (by decide) (by decide) bu hbu kbu x1066 (by omega) (by omega) z1059 ex1066 z1064) q_cX12_193 q_dX12_number (by decide) rfl rfl hl.1 rfl (Nat.le_of_ble_eq_true rfl) dX12_statement_115 (fun y1070 H locs f1069 ry1070 h1071 hF hB => ?_)
                rcases h1071 with h1072 | h1073
                · obtain ⟨z1074, t1075, t1076, t1077, t1078⟩ := h1072
                  have z1079 : q_ir (q_r f1069 mo 13) sr := Eq.trans (hF.r hmo (by rw [kmo]; rfl)) z1062
                  have z1080 : q_ir (q_r f1069 mo 18) nm := Eq.trans (hF.r hmo (by rw [kmo]; rfl)) z1063
                  have z1081 : q_ir (q_r f1069 mo 1) bu := Eq.trans (hF.r hmo (by rw [kmo]; rfl)) z1064
                  have g1082 : q_gr f1069 sr := q_gr_fr g1065 (fun i9 _ => hF.z hsr (by rw [ksr]; rfl))
                  obtain ⟨x1083, ex1083⟩ : ∃ zz, q_is (q_z f1069 mo 4) zz := ⟨_, q_isr _⟩
                  obtain ⟨lx1083, ux1083⟩ := q_isb ex1083 (q_fib hB.2.1 hmo kmo (by decide) rfl)
                  obtain ⟨x1084, ex1084⟩ : ∃ zz, q_is (q_z f1069 mo 6) zz := ⟨_, q_isr _⟩
                  obtain ⟨lx1084, ux1084⟩ := q_isb ex1084 (q_fib hB.2.1 hmo kmo (by decide) rfl)
                  replace t1075 := q_isl9 ex1083 t1075
                  replace t1076 := k_po_si ex1084 ex1083 t1076
                  refine q_sast cx hB hsr ksr (by decide) (by decide) ⟨by omega, by omega⟩ rfl dX12_statement_118 (fun H locs f1085 ef1085 z1086 hB => ?_)
                  have z1087 : q_is (q_z f1085 mo 8) 0 := by rw [ef1085, q_setz (Or.inl (fun q => by rw [q, ksr] at kmo; exact absurd kmo (by decide)))]; exact z1074
                  have z1088 : q_is (q_z f1085 mo 4) x1083 := by rw [ef1085, q_setz (Or.inr (by decide))]; exact ex1083
                  have z1089 : q_is (q_z f1085 mo 6) x1084 := by rw [ef1085, q_setz (Or.inr (by decide))]; exact ex1084
                  have z1090 : q_ir (q_r f1085 mo 13) sr := by rw [ef1085, q_setr (Or.inr (by decide))]; exact z1079
                  have z1091 : q_ir (q_r f1085 mo 18) nm := by rw [ef1085, q_setr (Or.inr (by decide))]; exact z1080
                  have z1092 : q_ir (q_r f1085 mo 1) bu := by rw [ef1085, q_setr (Or.inr (by decide))]; exact z1081
                  have g1093 : q_gr f1085 sr := q_gr_put g1082 ef1085 z1086 rfl (by omega) (by omega)
                  refine lv_goto (tgt := 161) cx.1 cx.2.1 dX12_statement_119 (by decide) ?_
                  refine q_ald_n cx dX12_statement_161 rfl (lv_at hl 0 rfl) ?_
                  refine q_bipush cx dX12_statement_162 rfl ?_
                  refine q_cVv (As := [.int (q_i 59)]) (rest := []) cx hB (fun _ h => h) hN hmo kmo (by decide) rfl (r_mustSign0 l g hN hB.2.1 mo hmo kmo 59 (by decide) (by decide) bu hbu kbu x1083 (by omega) (by omega) z1087 z1088 z1092) q_cX12_241 q_dX12_mustSign (by decide) rfl rfl hl.1 rfl (Nat.le_of_ble_eq_true rfl) dX12_statement_164 (fun H locs f1094 h1096 hF hB => ?_)
                  rcases h1096 with h1097 | h1098
                  · obtain ⟨z1099, t1100, t1101, t1102⟩ := h1097
                    have z1103 : q_is (q_z f1094 sr 8) y1070 := Eq.trans (hF.z hsr (by rw [ksr]; rfl)) z1086
                    have z1104 : q_ir (q_r f1094 mo 13) sr := Eq.trans (hF.r hmo (by rw [kmo]; rfl)) z1090
                    have z1105 : q_ir (q_r f1094 mo 18) nm := Eq.trans (hF.r hmo (by rw [kmo]; rfl)) z1091
                    have z1106 : q_ir (q_r f1094 mo 1) bu := Eq.trans (hF.r hmo (by rw [kmo]; rfl)) z1092
                    have g1107 : q_gr f1094 sr := q_gr_fr g1093 (fun i9 _ => hF.z hsr (by rw [ksr]; rfl))
                    obtain ⟨x1108, ex1108⟩ : ∃ zz, q_is (q_z f1094 mo 4) zz := ⟨_, q_isr _⟩
                    obtain ⟨lx1108, ux1108⟩ := q_isb ex1108 (q_fib hB.2.1 hmo kmo (by decide) rfl)
                    obtain ⟨x1109, ex1109⟩ : ∃ zz, q_is (q_z f1094 mo 6) zz := ⟨_, q_isr _⟩
                    obtain ⟨lx1109, ux1109⟩ := q_isb ex1109 (q_fib hB.2.1 hmo kmo (by decide) rfl)
                    replace t1100 := q_isl9 ex1108 t1100
                    replace t1101 := k_po_si ex1109 ex1108 t1101
                    refine q_vret cx hr hlk hB dX12_statement_167 ?_
                    exact (Or.inl ⟨z1099, (q_islt ex1108 (by have h7 := k_po_lt t1076 (k_ne0 z1089 t1102); omega)), g1107⟩)
                  · obtain ⟨lz1110, uz1110⟩ := h1098
                    have z1111 : q_is (q_z f1094 sr 8) y1070 := Eq.trans (hF.z hsr (by rw [ksr]; rfl)) z1086
                    have z1112 : q_ir (q_r f1094 mo 13) sr := Eq.trans (hF.r hmo (by rw [kmo]; rfl)) z1090
                    have z1113 : q_ir (q_r f1094 mo 18) nm := Eq.trans (hF.r hmo (by rw [kmo]; rfl)) z1091
                    have z1114 : q_ir (q_r f1094 mo 1) bu := Eq.trans (hF.r hmo (by rw [kmo]; rfl)) z1092
                    have g1115 : q_gr f1094 sr := q_gr_fr g1093 (fun i9 _ => hF.z hsr (by rw [ksr]; rfl))
                    obtain ⟨x1116, ex1116⟩ : ∃ zz, q_is (q_z f1094 mo 8) zz := ⟨_, q_isr _⟩
                    obtain ⟨lx1116, ux1116⟩ := q_isb ex1116 ⟨lz1110, uz1110⟩
                    obtain ⟨x1117, ex1117⟩ : ∃ zz, q_is (q_z f1094 mo 4) zz := ⟨_, q_isr _⟩
                    obtain ⟨lx1117, ux1117⟩ := q_isb ex1117 (q_fib hB.2.1 hmo kmo (by decide) rfl)
                    obtain ⟨x1118, ex1118⟩ : ∃ zz, q_is (q_z f1094 mo 6) zz := ⟨_, q_isr _⟩
                    obtain ⟨lx1118, ux1118⟩ := q_isb ex1118 (q_fib hB.2.1 hmo kmo (by decide) rfl)
                    refine q_vret cx hr hlk hB dX12_statement_167 ?_
                    exact (Or.inr ⟨(q_isl ex1116 (by omega)), (q_isu ex1116 (by omega))⟩)
                · obtain ⟨lz1119, uz1119⟩ := h1073
                  have z1120 : q_ir (q_r f1069 mo 13) sr := Eq.trans (hF.r hmo (by rw [kmo]; rfl)) z1062
                  have z1121 : q_ir (q_r f1069 mo 18) nm := Eq.trans (hF.r hmo (by rw [kmo]; rfl)) z1063
                  have z1122 : q_ir (q_r f1069 mo 1) bu := Eq.trans (hF.r hmo (by rw [kmo]; rfl)) z1064
                  have g1123 : q_gr f1069 sr := q_gr_fr g1065 (fun i9 _ => hF.z hsr (by rw [ksr]; rfl))
                  obtain ⟨x1124, ex1124⟩ : ∃ zz, q_is (q_z f1069 mo 8) zz := ⟨_, q_isr _⟩
                  obtain ⟨lx1124, ux1124⟩ := q_isb ex1124 ⟨lz1119, uz1119⟩
                  obtain ⟨x1125, ex1125⟩ : ∃ zz, q_is (q_z f1069 mo 4) zz := ⟨_, q_isr _⟩
                  obtain ⟨lx1125, ux1125⟩ := q_isb ex1125 (q_fib hB.2.1 hmo kmo (by decide) rfl)
                  obtain ⟨x1126, ex1126⟩ : ∃ zz, q_is (q_z f1069 mo 6) zz := ⟨_, q_isr _⟩
                  obtain ⟨lx1126, ux1126⟩ := q_isb ex1126 (q_fib hB.2.1 hmo kmo (by decide) rfl)
                  refine q_sast cx hB hsr ksr (by decide) (by decide) ⟨by omega, by omega⟩ rfl dX12_statement_118 (fun H locs f1127 ef1127 z1128 hB => ?_)
                  have z1129 : q_is (q_z f1127 mo 8) x1124 := by rw [ef1127, q_setz (Or.inl (fun q => by rw [q, ksr] at kmo; exact absurd kmo (by decide)))]; exact ex1124
                  have z1130 : q_is (q_z f1127 mo 4) x1125 := by rw [ef1127, q_setz (Or.inr (by decide))]; exact ex1125
                  have z1131 : q_is (q_z f1127 mo 6) x1126 := by rw [ef1127, q_setz (Or.inr (by decide))]; exact ex1126
                  have z1132 : q_ir (q_r f1127 mo 13) sr := by rw [ef1127, q_setr (Or.inr (by decide))]; exact z1120
                  have z1133 : q_ir (q_r f1127 mo 18) nm := by rw [ef1127, q_setr (Or.inr (by decide))]; exact z1121
                  have z1134 : q_ir (q_r f1127 mo 1) bu := by rw [ef1127, q_setr (Or.inr (by decide))]; exact z1122
                  refine lv_goto (tgt := 161) cx.1 cx.2.1 dX12_statement_119 (by decide) ?_
                  refine q_ald_n cx dX12_statement_161 rfl (lv_at hl 0 rfl) ?_
                  refine q_bipush cx dX12_statement_162 rfl ?_
                  refine q_cVv (As := [.int (q_i 59)]) (rest := []) cx hB (fun _ h => h) hN hmo kmo (by decide) rfl (r_mustSign1 l g hN hB.2.1 mo hmo kmo 59 (by decide) (by decide) x1124 (by omega) (by omega) z1129) q_cX12_241 q_dX12_mustSign (by decide) rfl rfl hl.1 rfl (Nat.le_of_ble_eq_true rfl) dX12_statement_164 (fun H locs f1135 h1137 hF hB => ?_)
                  obtain rfl := h1137
                  refine q_vret cx hr hlk hB dX12_statement_167 ?_
                  exact (Or.inr ⟨(q_isl z1129 (by omega)), (q_isu z1129 (by omega))⟩)
              · obtain ⟨lz1138, uz1138⟩ := h1058
                have z1139 : q_ir (q_r f1054 mo 13) sr := Eq.trans (hF.r hmo (by rw [kmo]; rfl)) hr0
                have z1140 : q_ir (q_r f1054 mo 18) nm := Eq.trans (hF.r hmo (by rw [kmo]; rfl)) hr1
                have z1141 : q_ir (q_r f1054 mo 1) bu := Eq.trans (hF.r hmo (by rw [kmo]; rfl)) hr2
                have g1142 : q_gr f1054 sr := q_gr_fr hgr (fun i9 _ => hF.z hsr (by rw [ksr]; rfl))
                obtain ⟨x1143, ex1143⟩ : ∃ zz, q_is (q_z f1054 mo 8) zz := ⟨_, q_isr _⟩
                obtain ⟨lx1143, ux1143⟩ := q_isb ex1143 ⟨lz1138, uz1138⟩
                obtain ⟨x1144, ex1144⟩ : ∃ zz, q_is (q_z f1054 mo 4) zz := ⟨_, q_isr _⟩
                obtain ⟨lx1144, ux1144⟩ := q_isb ex1144 (q_fib hB.2.1 hmo kmo (by decide) rfl)
                obtain ⟨x1145, ex1145⟩ : ∃ zz, q_is (q_z f1054 mo 6) zz := ⟨_, q_isr _⟩
                obtain ⟨lx1145, ux1145⟩ := q_isb ex1145 (q_fib hB.2.1 hmo kmo (by decide) rfl)
                refine q_ald_n cx dX12_statement_105 rfl (lv_at hl 0 rfl) ?_
                refine q_gX12_20 cx hB hmo kmo z1139 dX12_statement_106 (fun hb1146 kb1146 => ?_)
                refine q_bipush cx dX12_statement_109 rfl ?_
                refine q_ald_n cx dX12_statement_111 rfl (lv_at hl 0 rfl) ?_
                refine q_iconst cx dX12_statement_112 ?_
                refine q_bipush cx dX12_statement_113 rfl ?_
                refine q_cVi (As := [.int (q_i 1), .int (q_i 9)]) (rest := [.int (q_i 8), .ref sr]) cx hB (fun _ h => h) hN hmo kmo (by decide) rfl (r_number1 l g hN hB.2.1 mo hmo kmo 1 (by decide) (by decide) 9 (by decide) (by decide) x1143 (by omega) (by omega) ex1143) q_cX12_193 q_dX12_number (by decide) rfl rfl hl.1 rfl (Nat.le_of_ble_eq_true rfl) dX12_statement_115 (fun y1148 H locs f1147 ry1148 h1149 hF hB => ?_)
                obtain rfl := h1149
                refine q_sast cx hB hsr ksr (by decide) (by decide) ⟨by omega, by omega⟩ rfl dX12_statement_118 (fun H locs f1150 ef1150 z1151 hB => ?_)
                have z1152 : q_is (q_z f1150 mo 8) x1143 := by rw [ef1150, q_setz (Or.inl (fun q => by rw [q, ksr] at kmo; exact absurd kmo (by decide)))]; exact ex1143
                have z1153 : q_is (q_z f1150 mo 4) x1144 := by rw [ef1150, q_setz (Or.inr (by decide))]; exact ex1144
                have z1154 : q_is (q_z f1150 mo 6) x1145 := by rw [ef1150, q_setz (Or.inr (by decide))]; exact ex1145
                have z1155 : q_ir (q_r f1150 mo 13) sr := by rw [ef1150, q_setr (Or.inr (by decide))]; exact z1139
                have z1156 : q_ir (q_r f1150 mo 18) nm := by rw [ef1150, q_setr (Or.inr (by decide))]; exact z1140
                have z1157 : q_ir (q_r f1150 mo 1) bu := by rw [ef1150, q_setr (Or.inr (by decide))]; exact z1141
                refine lv_goto (tgt := 161) cx.1 cx.2.1 dX12_statement_119 (by decide) ?_
                refine q_ald_n cx dX12_statement_161 rfl (lv_at hl 0 rfl) ?_
                refine q_bipush cx dX12_statement_162 rfl ?_
                refine q_cVv (As := [.int (q_i 59)]) (rest := []) cx hB (fun _ h => h) hN hmo kmo (by decide) rfl (r_mustSign1 l g hN hB.2.1 mo hmo kmo 59 (by decide) (by decide) x1143 (by omega) (by omega) z1152) q_cX12_241 q_dX12_mustSign (by decide) rfl rfl hl.1 rfl (Nat.le_of_ble_eq_true rfl) dX12_statement_164 (fun H locs f1158 h1160 hF hB => ?_)
                obtain rfl := h1160
                refine q_vret cx hr hlk hB dX12_statement_167 ?_
                exact (Or.inr ⟨(q_isl z1152 (by omega)), (q_isu z1152 (by omega))⟩)
          · obtain ⟨rfl, qy1048⟩ := h1051
            subst qy1048
            refine q_ifeq (tgt := 122) cx ⟨by decide, by decide⟩ dX12_statement_97 (by decide) (fun c1161 => ?_) (fun c1161 => ?_)
            · refine q_ald_n cx dX12_statement_122 rfl (lv_at hl 0 rfl) ?_
              refine lv_ldc2 (v := q_l 474245) cx.1 cx.2.1 cx.2.2.2.1 (cx.2.2.2.2 _ q_h1783) dX12_statement_123 ?_
              refine q_cVi (As := [.long (q_l 474245)]) (rest := []) cx hB (fun _ h => h) hN hmo kmo (by decide) rfl (r_isWord0 l g hN hB.2.1 mo hmo kmo (q_l 474245) hf0) q_cX12_143 q_dX12_isWord (by decide) rfl rfl hl.1 rfl (Nat.le_of_ble_eq_true rfl) dX12_statement_126 (fun y1163 H locs f1162 ry1163 h1164 hF hB => ?_)
              rcases h1164 with h1165 | h1166
              · obtain ⟨rfl, qy1163, t1167⟩ := h1165
                subst qy1163
                refine q_ifeq (tgt := 139) cx ⟨by decide, by decide⟩ dX12_statement_129 (by decide) (fun c1168 => ?_) (fun c1168 => ?_)
                · exact absurd c1168 (by omega)
                · refine q_ald_n cx dX12_statement_132 rfl (lv_at hl 0 rfl) ?_
                  refine q_cVv (As := []) (rest := []) cx hB (fun _ h => h) hN hmo kmo (by decide) rfl (r_readsNode0 l g hN hB.2.1 mo hmo kmo sr hsr ksr nm hnm knm bu hbu kbu xp (by omega) (by omega) hf0 hf1 hr0 hr1 hr2 hgr) q_cX12_233 q_dX12_readsNode (by decide) rfl rfl hl.1 rfl (Nat.le_of_ble_eq_true rfl) dX12_statement_133 (fun H locs f1169 h1171 hF hB => ?_)
                  rcases h1171 with h1172 | h1173
                  · obtain ⟨z1174, t1175, t1176, g1177⟩ := h1172
                    have z1178 : q_ir (q_r f1169 mo 13) sr := Eq.trans (hF.r hmo (by rw [kmo]; rfl)) hr0
                    have z1179 : q_ir (q_r f1169 mo 18) nm := Eq.trans (hF.r hmo (by rw [kmo]; rfl)) hr1
                    have z1180 : q_ir (q_r f1169 mo 1) bu := Eq.trans (hF.r hmo (by rw [kmo]; rfl)) hr2
                    obtain ⟨x1181, ex1181⟩ : ∃ zz, q_is (q_z f1169 mo 4) zz := ⟨_, q_isr _⟩
                    obtain ⟨lx1181, ux1181⟩ := q_isb ex1181 (q_fib hB.2.1 hmo kmo (by decide) rfl)
                    obtain ⟨x1182, ex1182⟩ : ∃ zz, q_is (q_z f1169 mo 6) zz := ⟨_, q_isr _⟩
                    obtain ⟨lx1182, ux1182⟩ := q_isb ex1182 (q_fib hB.2.1 hmo kmo (by decide) rfl)
                    replace t1175 := q_isl9 ex1181 t1175
                    replace t1176 := k_po_si ex1182 ex1181 t1176
                    refine lv_goto (tgt := 161) cx.1 cx.2.1 dX12_statement_136 (by decide) ?_
                    refine q_ald_n cx dX12_statement_161 rfl (lv_at hl 0 rfl) ?_
                    refine q_bipush cx dX12_statement_162 rfl ?_
                    refine q_cVv (As := [.int (q_i 59)]) (rest := []) cx hB (fun _ h => h) hN hmo kmo (by decide) rfl (r_mustSign0 l g hN hB.2.1 mo hmo kmo 59 (by decide) (by decide) bu hbu kbu x1181 (by omega) (by omega) z1174 ex1181 z1180) q_cX12_241 q_dX12_mustSign (by decide) rfl rfl hl.1 rfl (Nat.le_of_ble_eq_true rfl) dX12_statement_164 (fun H locs f1183 h1185 hF hB => ?_)
                    rcases h1185 with h1186 | h1187
                    · obtain ⟨z1188, t1189, t1190, t1191⟩ := h1186
                      have z1192 : q_ir (q_r f1183 mo 13) sr := Eq.trans (hF.r hmo (by rw [kmo]; rfl)) z1178
                      have z1193 : q_ir (q_r f1183 mo 18) nm := Eq.trans (hF.r hmo (by rw [kmo]; rfl)) z1179
                      have z1194 : q_ir (q_r f1183 mo 1) bu := Eq.trans (hF.r hmo (by rw [kmo]; rfl)) z1180
                      have g1195 : q_gr f1183 sr := q_gr_fr g1177 (fun i9 _ => hF.z hsr (by rw [ksr]; rfl))
                      obtain ⟨x1196, ex1196⟩ : ∃ zz, q_is (q_z f1183 mo 4) zz := ⟨_, q_isr _⟩
                      obtain ⟨lx1196, ux1196⟩ := q_isb ex1196 (q_fib hB.2.1 hmo kmo (by decide) rfl)
                      obtain ⟨x1197, ex1197⟩ : ∃ zz, q_is (q_z f1183 mo 6) zz := ⟨_, q_isr _⟩
                      obtain ⟨lx1197, ux1197⟩ := q_isb ex1197 (q_fib hB.2.1 hmo kmo (by decide) rfl)
                      replace t1189 := q_isl9 ex1196 t1189
                      replace t1190 := k_po_si ex1197 ex1196 t1190
                      refine q_vret cx hr hlk hB dX12_statement_167 ?_
                      exact (Or.inl ⟨z1188, (q_islt ex1196 (by have h7 := k_po_lt t1176 (k_ne0 ex1182 t1191); omega)), g1195⟩)
                    · obtain ⟨lz1198, uz1198⟩ := h1187
                      have z1199 : q_ir (q_r f1183 mo 13) sr := Eq.trans (hF.r hmo (by rw [kmo]; rfl)) z1178
                      have z1200 : q_ir (q_r f1183 mo 18) nm := Eq.trans (hF.r hmo (by rw [kmo]; rfl)) z1179
                      have z1201 : q_ir (q_r f1183 mo 1) bu := Eq.trans (hF.r hmo (by rw [kmo]; rfl)) z1180
                      have g1202 : q_gr f1183 sr := q_gr_fr g1177 (fun i9 _ => hF.z hsr (by rw [ksr]; rfl))
                      obtain ⟨x1203, ex1203⟩ : ∃ zz, q_is (q_z f1183 mo 8) zz := ⟨_, q_isr _⟩
                      obtain ⟨lx1203, ux1203⟩ := q_isb ex1203 ⟨lz1198, uz1198⟩
                      obtain ⟨x1204, ex1204⟩ : ∃ zz, q_is (q_z f1183 mo 4) zz := ⟨_, q_isr _⟩
                      obtain ⟨lx1204, ux1204⟩ := q_isb ex1204 (q_fib hB.2.1 hmo kmo (by decide) rfl)
                      obtain ⟨x1205, ex1205⟩ : ∃ zz, q_is (q_z f1183 mo 6) zz := ⟨_, q_isr _⟩
                      obtain ⟨lx1205, ux1205⟩ := q_isb ex1205 (q_fib hB.2.1 hmo kmo (by decide) rfl)
                      refine q_vret cx hr hlk hB dX12_statement_167 ?_
                      exact (Or.inr ⟨(q_isl ex1203 (by omega)), (q_isu ex1203 (by omega))⟩)
                  · obtain ⟨lz1206, uz1206⟩ := h1173
                    have z1207 : q_ir (q_r f1169 mo 13) sr := Eq.trans (hF.r hmo (by rw [kmo]; rfl)) hr0
                    have z1208 : q_ir (q_r f1169 mo 18) nm := Eq.trans (hF.r hmo (by rw [kmo]; rfl)) hr1
                    have z1209 : q_ir (q_r f1169 mo 1) bu := Eq.trans (hF.r hmo (by rw [kmo]; rfl)) hr2
                    obtain ⟨x1210, ex1210⟩ : ∃ zz, q_is (q_z f1169 mo 8) zz := ⟨_, q_isr _⟩
                    obtain ⟨lx1210, ux1210⟩ := q_isb ex1210 ⟨lz1206, uz1206⟩
                    obtain ⟨x1211, ex1211⟩ : ∃ zz, q_is (q_z f1169 mo 4) zz := ⟨_, q_isr _⟩
                    obtain ⟨lx1211, ux1211⟩ := q_isb ex1211 (q_fib hB.2.1 hmo kmo (by decide) rfl)
                    obtain ⟨x1212, ex1212⟩ : ∃ zz, q_is (q_z f1169 mo 6) zz := ⟨_, q_isr _⟩
                    obtain ⟨lx1212, ux1212⟩ := q_isb ex1212 (q_fib hB.2.1 hmo kmo (by decide) rfl)
                    refine lv_goto (tgt := 161) cx.1 cx.2.1 dX12_statement_136 (by decide) ?_
                    refine q_ald_n cx dX12_statement_161 rfl (lv_at hl 0 rfl) ?_
                    refine q_bipush cx dX12_statement_162 rfl ?_
                    refine q_cVv (As := [.int (q_i 59)]) (rest := []) cx hB (fun _ h => h) hN hmo kmo (by decide) rfl (r_mustSign1 l g hN hB.2.1 mo hmo kmo 59 (by decide) (by decide) x1210 (by omega) (by omega) ex1210) q_cX12_241 q_dX12_mustSign (by decide) rfl rfl hl.1 rfl (Nat.le_of_ble_eq_true rfl) dX12_statement_164 (fun H locs f1213 h1215 hF hB => ?_)
                    obtain rfl := h1215
                    refine q_vret cx hr hlk hB dX12_statement_167 ?_
                    exact (Or.inr ⟨(q_isl ex1210 (by omega)), (q_isu ex1210 (by omega))⟩)
              · obtain ⟨rfl, qy1163⟩ := h1166
                subst qy1163
                refine q_ifeq (tgt := 139) cx ⟨by decide, by decide⟩ dX12_statement_129 (by decide) (fun c1216 => ?_) (fun c1216 => ?_)
                · refine q_ald_n cx dX12_statement_139 rfl (lv_at hl 0 rfl) ?_
                  refine lv_ldc2 (v := q_l 402891) cx.1 cx.2.1 cx.2.2.2.1 (cx.2.2.2.2 _ q_h1814) dX12_statement_140 ?_
                  refine q_cVi (As := [.long (q_l 402891)]) (rest := []) cx hB (fun _ h => h) hN hmo kmo (by decide) rfl (r_isWord0 l g hN hB.2.1 mo hmo kmo (q_l 402891) hf0) q_cX12_143 q_dX12_isWord (by decide) rfl rfl hl.1 rfl (Nat.le_of_ble_eq_true rfl) dX12_statement_143 (fun y1218 H locs f1217 ry1218 h1219 hF hB => ?_)
                  rcases h1219 with h1220 | h1221
                  · obtain ⟨rfl, qy1218, t1222⟩ := h1220
                    subst qy1218
                    refine q_ifeq (tgt := 156) cx ⟨by decide, by decide⟩ dX12_statement_146 (by decide) (fun c1223 => ?_) (fun c1223 => ?_)
                    · exact absurd c1223 (by omega)
                    · refine q_ald_n cx dX12_statement_149 rfl (lv_at hl 0 rfl) ?_
                      refine q_cVv (As := []) (rest := []) cx hB (fun _ h => h) hN hmo kmo (by decide) rfl (r_readsLink0 l g hN hB.2.1 mo hmo kmo sr hsr ksr nm hnm knm bu hbu kbu xp (by omega) (by omega) hf0 hf1 hr0 hr1 hr2 hgr) q_cX12_238 q_dX12_readsLink (by decide) rfl rfl hl.1 rfl (Nat.le_of_ble_eq_true rfl) dX12_statement_150 (fun H locs f1224 h1226 hF hB => ?_)
                      rcases h1226 with h1227 | h1228
                      · obtain ⟨z1229, t1230, t1231, g1232⟩ := h1227
                        have z1233 : q_ir (q_r f1224 mo 13) sr := Eq.trans (hF.r hmo (by rw [kmo]; rfl)) hr0
                        have z1234 : q_ir (q_r f1224 mo 18) nm := Eq.trans (hF.r hmo (by rw [kmo]; rfl)) hr1
                        have z1235 : q_ir (q_r f1224 mo 1) bu := Eq.trans (hF.r hmo (by rw [kmo]; rfl)) hr2
                        obtain ⟨x1236, ex1236⟩ : ∃ zz, q_is (q_z f1224 mo 4) zz := ⟨_, q_isr _⟩
                        obtain ⟨lx1236, ux1236⟩ := q_isb ex1236 (q_fib hB.2.1 hmo kmo (by decide) rfl)
                        obtain ⟨x1237, ex1237⟩ : ∃ zz, q_is (q_z f1224 mo 6) zz := ⟨_, q_isr _⟩
                        obtain ⟨lx1237, ux1237⟩ := q_isb ex1237 (q_fib hB.2.1 hmo kmo (by decide) rfl)
                        replace t1230 := q_isl9 ex1236 t1230
                        replace t1231 := k_po_si ex1237 ex1236 t1231
                        refine lv_goto (tgt := 161) cx.1 cx.2.1 dX12_statement_153 (by decide) ?_
                        refine q_ald_n cx dX12_statement_161 rfl (lv_at hl 0 rfl) ?_
                        refine q_bipush cx dX12_statement_162 rfl ?_
                        refine q_cVv (As := [.int (q_i 59)]) (rest := []) cx hB (fun _ h => h) hN hmo kmo (by decide) rfl (r_mustSign0 l g hN hB.2.1 mo hmo kmo 59 (by decide) (by decide) bu hbu kbu x1236 (by omega) (by omega) z1229 ex1236 z1235) q_cX12_241 q_dX12_mustSign (by decide) rfl rfl hl.1 rfl (Nat.le_of_ble_eq_true rfl) dX12_statement_164 (fun H locs f1238 h1240 hF hB => ?_)
                        rcases h1240 with h1241 | h1242
                        · obtain ⟨z1243, t1244, t1245, t1246⟩ := h1241
                          have z1247 : q_ir (q_r f1238 mo 13) sr := Eq.trans (hF.r hmo (by rw [kmo]; rfl)) z1233
                          have z1248 : q_ir (q_r f1238 mo 18) nm := Eq.trans (hF.r hmo (by rw [kmo]; rfl)) z1234
                          have z1249 : q_ir (q_r f1238 mo 1) bu := Eq.trans (hF.r hmo (by rw [kmo]; rfl)) z1235
                          have g1250 : q_gr f1238 sr := q_gr_fr g1232 (fun i9 _ => hF.z hsr (by rw [ksr]; rfl))
                          obtain ⟨x1251, ex1251⟩ : ∃ zz, q_is (q_z f1238 mo 4) zz := ⟨_, q_isr _⟩
                          obtain ⟨lx1251, ux1251⟩ := q_isb ex1251 (q_fib hB.2.1 hmo kmo (by decide) rfl)
                          obtain ⟨x1252, ex1252⟩ : ∃ zz, q_is (q_z f1238 mo 6) zz := ⟨_, q_isr _⟩
                          obtain ⟨lx1252, ux1252⟩ := q_isb ex1252 (q_fib hB.2.1 hmo kmo (by decide) rfl)
                          replace t1244 := q_isl9 ex1251 t1244
                          replace t1245 := k_po_si ex1252 ex1251 t1245
                          refine q_vret cx hr hlk hB dX12_statement_167 ?_
                          exact (Or.inl ⟨z1243, (q_islt ex1251 (by have h7 := k_po_lt t1231 (k_ne0 ex1237 t1246); omega)), g1250⟩)
                        · obtain ⟨lz1253, uz1253⟩ := h1242
                          have z1254 : q_ir (q_r f1238 mo 13) sr := Eq.trans (hF.r hmo (by rw [kmo]; rfl)) z1233
                          have z1255 : q_ir (q_r f1238 mo 18) nm := Eq.trans (hF.r hmo (by rw [kmo]; rfl)) z1234
                          have z1256 : q_ir (q_r f1238 mo 1) bu := Eq.trans (hF.r hmo (by rw [kmo]; rfl)) z1235
                          have g1257 : q_gr f1238 sr := q_gr_fr g1232 (fun i9 _ => hF.z hsr (by rw [ksr]; rfl))
                          obtain ⟨x1258, ex1258⟩ : ∃ zz, q_is (q_z f1238 mo 8) zz := ⟨_, q_isr _⟩
                          obtain ⟨lx1258, ux1258⟩ := q_isb ex1258 ⟨lz1253, uz1253⟩
                          obtain ⟨x1259, ex1259⟩ : ∃ zz, q_is (q_z f1238 mo 4) zz := ⟨_, q_isr _⟩
                          obtain ⟨lx1259, ux1259⟩ := q_isb ex1259 (q_fib hB.2.1 hmo kmo (by decide) rfl)
                          obtain ⟨x1260, ex1260⟩ : ∃ zz, q_is (q_z f1238 mo 6) zz := ⟨_, q_isr _⟩
                          obtain ⟨lx1260, ux1260⟩ := q_isb ex1260 (q_fib hB.2.1 hmo kmo (by decide) rfl)
                          refine q_vret cx hr hlk hB dX12_statement_167 ?_
                          exact (Or.inr ⟨(q_isl ex1258 (by omega)), (q_isu ex1258 (by omega))⟩)
                      · obtain ⟨lz1261, uz1261⟩ := h1228
                        have z1262 : q_ir (q_r f1224 mo 13) sr := Eq.trans (hF.r hmo (by rw [kmo]; rfl)) hr0
                        have z1263 : q_ir (q_r f1224 mo 18) nm := Eq.trans (hF.r hmo (by rw [kmo]; rfl)) hr1
                        have z1264 : q_ir (q_r f1224 mo 1) bu := Eq.trans (hF.r hmo (by rw [kmo]; rfl)) hr2
                        obtain ⟨x1265, ex1265⟩ : ∃ zz, q_is (q_z f1224 mo 8) zz := ⟨_, q_isr _⟩
                        obtain ⟨lx1265, ux1265⟩ := q_isb ex1265 ⟨lz1261, uz1261⟩
                        obtain ⟨x1266, ex1266⟩ : ∃ zz, q_is (q_z f1224 mo 4) zz := ⟨_, q_isr _⟩
                        obtain ⟨lx1266, ux1266⟩ := q_isb ex1266 (q_fib hB.2.1 hmo kmo (by decide) rfl)
                        obtain ⟨x1267, ex1267⟩ : ∃ zz, q_is (q_z f1224 mo 6) zz := ⟨_, q_isr _⟩
                        obtain ⟨lx1267, ux1267⟩ := q_isb ex1267 (q_fib hB.2.1 hmo kmo (by decide) rfl)
                        refine lv_goto (tgt := 161) cx.1 cx.2.1 dX12_statement_153 (by decide) ?_
                        refine q_ald_n cx dX12_statement_161 rfl (lv_at hl 0 rfl) ?_
                        refine q_bipush cx dX12_statement_162 rfl ?_
                        refine q_cVv (As := [.int (q_i 59)]) (rest := []) cx hB (fun _ h => h) hN hmo kmo (by decide) rfl (r_mustSign1 l g hN hB.2.1 mo hmo kmo 59 (by decide) (by decide) x1265 (by omega) (by omega) ex1265) q_cX12_241 q_dX12_mustSign (by decide) rfl rfl hl.1 rfl (Nat.le_of_ble_eq_true rfl) dX12_statement_164 (fun H locs f1268 h1270 hF hB => ?_)
                        obtain rfl := h1270
                        refine q_vret cx hr hlk hB dX12_statement_167 ?_
                        exact (Or.inr ⟨(q_isl ex1265 (by omega)), (q_isu ex1265 (by omega))⟩)
                  · obtain ⟨rfl, qy1218⟩ := h1221
                    subst qy1218
                    refine q_ifeq (tgt := 156) cx ⟨by decide, by decide⟩ dX12_statement_146 (by decide) (fun c1271 => ?_) (fun c1271 => ?_)
                    · refine q_ald_n cx dX12_statement_156 rfl (lv_at hl 0 rfl) ?_
                      refine q_iconst cx dX12_statement_157 ?_
                      refine q_cVv (As := [.int (q_i 1)]) (rest := []) cx hB (fun _ h => h) hN hmo kmo (by decide) rfl (r_wrong0 l g hN hB.2.1 mo hmo kmo 1 (by decide) (by decide) hf0) q_cX12_137 q_dX12_wrong (by decide) rfl rfl hl.1 rfl (Nat.le_of_ble_eq_true rfl) dX12_statement_158 (fun H locs f1272 h1274 hF hB => ?_)
                      obtain ⟨lz1275, uz1275⟩ := h1274
                      have z1276 : q_is (q_z f1272 mo 4) xp := Eq.trans (hF.z hmo (by rw [kmo]; rfl)) hf1
                      have z1277 : q_ir (q_r f1272 mo 13) sr := Eq.trans (hF.r hmo (by rw [kmo]; rfl)) hr0
                      have z1278 : q_ir (q_r f1272 mo 18) nm := Eq.trans (hF.r hmo (by rw [kmo]; rfl)) hr1
                      have z1279 : q_ir (q_r f1272 mo 1) bu := Eq.trans (hF.r hmo (by rw [kmo]; rfl)) hr2
                      have g1280 : q_gr f1272 sr := q_gr_fr hgr (fun i9 _ => hF.z hsr (by rw [ksr]; rfl))
                      obtain ⟨x1281, ex1281⟩ : ∃ zz, q_is (q_z f1272 mo 8) zz := ⟨_, q_isr _⟩
                      obtain ⟨lx1281, ux1281⟩ := q_isb ex1281 ⟨lz1275, uz1275⟩
                      refine q_ald_n cx dX12_statement_161 rfl (lv_at hl 0 rfl) ?_
                      refine q_bipush cx dX12_statement_162 rfl ?_
                      refine q_cVv (As := [.int (q_i 59)]) (rest := []) cx hB (fun _ h => h) hN hmo kmo (by decide) rfl (r_mustSign1 l g hN hB.2.1 mo hmo kmo 59 (by decide) (by decide) x1281 (by omega) (by omega) ex1281) q_cX12_241 q_dX12_mustSign (by decide) rfl rfl hl.1 rfl (Nat.le_of_ble_eq_true rfl) dX12_statement_164 (fun H locs f1282 h1284 hF hB => ?_)
                      obtain rfl := h1284
                      refine q_vret cx hr hlk hB dX12_statement_167 ?_
                      exact (Or.inr ⟨(q_isl ex1281 (by omega)), (q_isu ex1281 (by omega))⟩)
                    · exact absurd c1271 (by omega)
                · exact absurd c1216 (by omega)
            · exact absurd c1161 (by omega)
        · exact absurd c1046 (by omega)
    · exact absurd c757 (by omega)
