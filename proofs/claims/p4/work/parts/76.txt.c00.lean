set_option maxHeartbeats 4000000 in
set_option maxRecDepth 100000 in
theorem f_copyFrom (l : Launch) (g : q_G) {K : Nat → Nat} {L : List Nat} (hN : L.Nodup) {f : Nat → va_E} (hT : q_Ty g K L f) (v : Nat) (hv : v ∈ L) (kv : K v = 10) (p0 : Nat) (hp0 : p0 ∈ L) (kp0 : K p0 = 13) (nn : Int) (lnn : 0 ≤ nn) (unn : nn ≤ 10) (hf0 : q_is (q_z f p0 3) nn) : q_Ct l g K L yX10_copyFrom cX10_copyFrom 3 none 1 21 [.ref v, .ref p0] f [(3, 0, 4), (4, 0, 7), (5, 0, 8), (10, 3, 12)] (q_Pv (fun (f1 : Nat → va_E) => q_is (q_z f1 v 3) nn)) := by
  refine q_ofb (by decide +kernel) hN hT (Nat.le_of_ble_eq_true rfl) ?_
  intro p e s m below meth c ls cx hr hlk hB hl
  have hl : lv_has ls 3 [(0, .ref v), (1, .ref p0)] := hl
  have J140 : ∀ (n : Nat) (f140 : Nat → va_E) (v140_2 : Int) (lv140_2 : 0 ≤ v140_2) (uv140_2 : v140_2 ≤ 61) (hj_v_3 : q_is (q_z f140 v 3) nn) (hmu : (Int.toNat (2147483647 - v140_2)) < n) (H : Heap) (locs : List Loc) (hB : q_B g K L (fun q => q ∈ L) [(3, 0, 4), (4, 0, 7), (5, 0, 8), (10, 3, 12)] f f140 s H locs) (ls : Array Slot) (hl : lv_has ls 3 [(0, .ref v), (1, .ref p0), (2, .int (q_i v140_2))]), W p l e { frames := 1, cells := 0, slots := 0, locals := 21 } s m ([.ref v, .ref p0] : List Value).toArray below meth c H locs 0 0 (MQ below (q_Q g K L [(3, 0, 4), (4, 0, 7), (5, 0, 8), (10, 3, 12)] f (q_Pv (fun (f1 : Nat → va_E) => q_is (q_z f1 v 3) nn))) ([.ref v, .ref p0] : List Value).toArray s 0 0 (fun q => q ∈ L)) (F0 m 140 ls []) := by
    intro n
    induction n with
    | zero =>
      intro f140 v140_2 lv140_2 uv140_2 hj_v_3 hmu
      exact absurd hmu (Nat.not_lt_zero _)
    | succ n ih140 =>
      intro f140 v140_2 lv140_2 uv140_2 hj_v_3 hmu H locs hB ls hl
      refine q_ild_n cx dX10_copyFrom_140 rfl (lv_at hl 2 rfl) ?_
      refine q_ald_n cx dX10_copyFrom_141 rfl (lv_at hl 0 rfl) ?_
      obtain ⟨x750, ex750⟩ : ∃ zz, q_is (q_z f140 v 5) zz := ⟨_, q_isr _⟩
      refine q_gX10_42 cx hB hv kv ex750 dX10_copyFrom_142 (fun lb751 ub751 => ?_)
      refine q_icge (tgt := 167) cx ⟨by omega, by omega⟩ ⟨by omega, by omega⟩ dX10_copyFrom_145 (by decide) (fun c752 => ?_) (fun c752 => ?_)
      · refine q_vret cx hr hlk hB dX10_copyFrom_167 ?_
        exact hj_v_3
      · refine q_ald_n cx dX10_copyFrom_148 rfl (lv_at hl 0 rfl) ?_
        refine q_ild_n cx dX10_copyFrom_149 rfl (lv_at hl 2 rfl) ?_
        refine q_cVr (As := [.int (q_i v140_2)]) (rest := []) cx hB (fun _ h => h) hN hv kv (by decide) rfl (g_X10_messageAt l g hN hB.2.1 v hv kv v140_2 (by omega) (by omega)) q_cX10_81 q_dX10_messageAt (by decide) rfl rfl hl.1 rfl (Nat.le_of_ble_eq_true rfl) dX10_copyFrom_150 (fun y754 H locs f753 h755 hF hB => ?_)
        obtain ⟨rfl, hy754, ky754⟩ := h755
        refine q_ald_n cx dX10_copyFrom_153 rfl (lv_at hl 1 rfl) ?_
        refine q_ild_n cx dX10_copyFrom_154 rfl (lv_at hl 2 rfl) ?_
        refine q_cVr (As := [.int (q_i v140_2)]) (rest := [.ref y754]) cx hB (fun _ h => h) hN hp0 kp0 (by decide) rfl (g_X10_messageAt_1 l g hN hB.2.1 p0 hp0 kp0 v140_2 (by omega) (by omega)) q_cX10_81 q_dX10_messageAt (by decide) rfl rfl hl.1 rfl (Nat.le_of_ble_eq_true rfl) dX10_copyFrom_155 (fun y757 H locs f756 h758 hF hB => ?_)
        obtain ⟨rfl, hy757, ky757⟩ := h758
        refine q_cVv (As := [.ref y757]) (rest := []) cx hB (fun _ h => h) hN hy754 ky754 (by decide) rfl (g_X4_copyFrom_01 l g hN hB.2.1 y754 hy754 ky754 y757 hy757 ky757) q_cX10_85 q_dX4_copyFrom (by decide) rfl rfl hl.1 rfl (Nat.le_of_ble_eq_true rfl) dX10_copyFrom_158 (fun H locs f759 h761 hF hB => ?_)
        have z762 : q_is (q_z f759 v 3) nn := Eq.trans (hF.z hv (by rw [kv]; rfl)) hj_v_3
        have z763 : q_is (q_z f759 v 5) x750 := Eq.trans (hF.z hv (by rw [kv]; rfl)) ex750
        refine q_iinc (lv' := [(2, .int (q_i (v140_2 + 1))), (0, .ref v), (1, .ref p0)]) cx dX10_copyFrom_161 hl (k := 2) rfl (by decide) rfl (fun ls hl => ?_)
        refine lv_goto (tgt := 140) cx.1 cx.2.1 dX10_copyFrom_164 (by decide) ?_
        exact ih140 f759 (v140_2 + 1) (by omega) (by omega) z762 (by omega) H locs hB ls (lv_sub hl [1, 2, 0] rfl)
  have J111 : ∀ (n : Nat) (f111 : Nat → va_E) (v111_2 : Int) (lv111_2 : 0 ≤ v111_2) (uv111_2 : v111_2 ≤ 16) (hj_v_3 : q_is (q_z f111 v 3) nn) (hmu : (Int.toNat (2147483647 - v111_2)) < n) (H : Heap) (locs : List Loc) (hB : q_B g K L (fun q => q ∈ L) [(3, 0, 4), (4, 0, 7), (5, 0, 8), (10, 3, 12)] f f111 s H locs) (ls : Array Slot) (hl : lv_has ls 3 [(0, .ref v), (1, .ref p0), (2, .int (q_i v111_2))]), W p l e { frames := 1, cells := 0, slots := 0, locals := 21 } s m ([.ref v, .ref p0] : List Value).toArray below meth c H locs 0 0 (MQ below (q_Q g K L [(3, 0, 4), (4, 0, 7), (5, 0, 8), (10, 3, 12)] f (q_Pv (fun (f1 : Nat → va_E) => q_is (q_z f1 v 3) nn))) ([.ref v, .ref p0] : List Value).toArray s 0 0 (fun q => q ∈ L)) (F0 m 111 ls []) := by
    intro n
    induction n with
    | zero =>
      intro f111 v111_2 lv111_2 uv111_2 hj_v_3 hmu
      exact absurd hmu (Nat.not_lt_zero _)
    | succ n ih111 =>
      intro f111 v111_2 lv111_2 uv111_2 hj_v_3 hmu H locs hB ls hl
      refine q_ild_n cx dX10_copyFrom_111 rfl (lv_at hl 2 rfl) ?_
      refine q_ald_n cx dX10_copyFrom_112 rfl (lv_at hl 0 rfl) ?_
      obtain ⟨x764, ex764⟩ : ∃ zz, q_is (q_z f111 v 4) zz := ⟨_, q_isr _⟩
      refine q_gX10_39 cx hB hv kv ex764 dX10_copyFrom_113 (fun lb765 ub765 => ?_)
      refine q_icge (tgt := 138) cx ⟨by omega, by omega⟩ ⟨by omega, by omega⟩ dX10_copyFrom_116 (by decide) (fun c766 => ?_) (fun c766 => ?_)
      · refine q_iconst cx dX10_copyFrom_138 ?_
        refine lv_istore_n (lv' := [(2, .int (q_i 0)), (0, .ref v), (1, .ref p0)]) cx.1 cx.2.1 dX10_copyFrom_139 rfl hl (by decide) rfl (fun ls hl => ?_)
        exact J140 ((Int.toNat (2147483647 - 0)) + 1) f111 0 (by decide) (by decide) hj_v_3 (Nat.lt_succ_self _) H locs hB ls (lv_sub hl [1, 2, 0] rfl)
      · refine q_ald_n cx dX10_copyFrom_119 rfl (lv_at hl 0 rfl) ?_
        refine q_ild_n cx dX10_copyFrom_120 rfl (lv_at hl 2 rfl) ?_
        refine q_cVr (As := [.int (q_i v111_2)]) (rest := []) cx hB (fun _ h => h) hN hv kv (by decide) rfl (g_X10_linkAt l g hN hB.2.1 v hv kv v111_2 (by omega) (by omega)) q_cX10_74 q_dX10_linkAt (by decide) rfl rfl hl.1 rfl (Nat.le_of_ble_eq_true rfl) dX10_copyFrom_121 (fun y768 H locs f767 h769 hF hB => ?_)
        obtain ⟨rfl, hy768, ky768⟩ := h769
        refine q_ald_n cx dX10_copyFrom_124 rfl (lv_at hl 1 rfl) ?_
        refine q_ild_n cx dX10_copyFrom_125 rfl (lv_at hl 2 rfl) ?_
        refine q_cVr (As := [.int (q_i v111_2)]) (rest := [.ref y768]) cx hB (fun _ h => h) hN hp0 kp0 (by decide) rfl (g_X10_linkAt_1 l g hN hB.2.1 p0 hp0 kp0 v111_2 (by omega) (by omega)) q_cX10_74 q_dX10_linkAt (by decide) rfl rfl hl.1 rfl (Nat.le_of_ble_eq_true rfl) dX10_copyFrom_126 (fun y771 H locs f770 h772 hF hB => ?_)
        obtain ⟨rfl, hy771, ky771⟩ := h772
        refine q_cVv (As := [.ref y771]) (rest := []) cx hB (fun _ h => h) hN hy768 ky768 (by decide) rfl (g_X3_copyFrom_01 l g hN hB.2.1 y768 hy768 ky768 y771 hy771 ky771) q_cX10_78 q_dX3_copyFrom (by decide) rfl rfl hl.1 rfl (Nat.le_of_ble_eq_true rfl) dX10_copyFrom_129 (fun H locs f773 h775 hF hB => ?_)
        have z776 : q_is (q_z f773 v 3) nn := Eq.trans (hF.z hv (by rw [kv]; rfl)) hj_v_3
        have z777 : q_is (q_z f773 v 4) x764 := Eq.trans (hF.z hv (by rw [kv]; rfl)) ex764
        refine q_iinc (lv' := [(2, .int (q_i (v111_2 + 1))), (0, .ref v), (1, .ref p0)]) cx dX10_copyFrom_132 hl (k := 2) rfl (by decide) rfl (fun ls hl => ?_)
        refine lv_goto (tgt := 111) cx.1 cx.2.1 dX10_copyFrom_135 (by decide) ?_
        exact ih111 f773 (v111_2 + 1) (by omega) (by omega) z776 (by omega) H locs hB ls (lv_sub hl [1, 2, 0] rfl)
  have J82 : ∀ (n : Nat) (f82 : Nat → va_E) (v82_2 : Int) (lv82_2 : 0 ≤ v82_2) (uv82_2 : v82_2 ≤ 10) (hj_v_3 : q_is (q_z f82 v 3) nn) (hmu : (Int.toNat (2147483647 - v82_2)) < n) (H : Heap) (locs : List Loc) (hB : q_B g K L (fun q => q ∈ L) [(3, 0, 4), (4, 0, 7), (5, 0, 8), (10, 3, 12)] f f82 s H locs) (ls : Array Slot) (hl : lv_has ls 3 [(0, .ref v), (1, .ref p0), (2, .int (q_i v82_2))]), W p l e { frames := 1, cells := 0, slots := 0, locals := 21 } s m ([.ref v, .ref p0] : List Value).toArray below meth c H locs 0 0 (MQ below (q_Q g K L [(3, 0, 4), (4, 0, 7), (5, 0, 8), (10, 3, 12)] f (q_Pv (fun (f1 : Nat → va_E) => q_is (q_z f1 v 3) nn))) ([.ref v, .ref p0] : List Value).toArray s 0 0 (fun q => q ∈ L)) (F0 m 82 ls []) := by
    intro n
    induction n with
    | zero =>
      intro f82 v82_2 lv82_2 uv82_2 hj_v_3 hmu
      exact absurd hmu (Nat.not_lt_zero _)
    | succ n ih82 =>
      intro f82 v82_2 lv82_2 uv82_2 hj_v_3 hmu H locs hB ls hl
      refine q_ild_n cx dX10_copyFrom_82 rfl (lv_at hl 2 rfl) ?_
      refine q_ald_n cx dX10_copyFrom_83 rfl (lv_at hl 0 rfl) ?_
      refine q_gX10_35 cx hB hv kv hj_v_3 dX10_copyFrom_84 (fun lb778 ub778 => ?_)
      refine q_icge (tgt := 109) cx ⟨by omega, by omega⟩ ⟨by omega, by omega⟩ dX10_copyFrom_87 (by decide) (fun c779 => ?_) (fun c779 => ?_)
      · refine q_iconst cx dX10_copyFrom_109 ?_
        refine lv_istore_n (lv' := [(2, .int (q_i 0)), (0, .ref v), (1, .ref p0)]) cx.1 cx.2.1 dX10_copyFrom_110 rfl hl (by decide) rfl (fun ls hl => ?_)
        exact J111 ((Int.toNat (2147483647 - 0)) + 1) f82 0 (by decide) (by decide) hj_v_3 (Nat.lt_succ_self _) H locs hB ls (lv_sub hl [1, 2, 0] rfl)
      · refine q_ald_n cx dX10_copyFrom_90 rfl (lv_at hl 0 rfl) ?_
        refine q_ild_n cx dX10_copyFrom_91 rfl (lv_at hl 2 rfl) ?_
        refine q_cVr (As := [.int (q_i v82_2)]) (rest := []) cx hB (fun _ h => h) hN hv kv (by decide) rfl (g_X10_nodeAt l g hN hB.2.1 v hv kv v82_2 (by omega) (by omega)) q_cX10_66 q_dX10_nodeAt (by decide) rfl rfl hl.1 rfl (Nat.le_of_ble_eq_true rfl) dX10_copyFrom_92 (fun y781 H locs f780 h782 hF hB => ?_)
        obtain ⟨rfl, hy781, ky781⟩ := h782
        refine q_ald_n cx dX10_copyFrom_95 rfl (lv_at hl 1 rfl) ?_
        refine q_ild_n cx dX10_copyFrom_96 rfl (lv_at hl 2 rfl) ?_
        refine q_cVr (As := [.int (q_i v82_2)]) (rest := [.ref y781]) cx hB (fun _ h => h) hN hp0 kp0 (by decide) rfl (g_X10_nodeAt_1 l g hN hB.2.1 p0 hp0 kp0 v82_2 (by omega) (by omega)) q_cX10_66 q_dX10_nodeAt (by decide) rfl rfl hl.1 rfl (Nat.le_of_ble_eq_true rfl) dX10_copyFrom_97 (fun y784 H locs f783 h785 hF hB => ?_)
        obtain ⟨rfl, hy784, ky784⟩ := h785
        refine q_cVv (As := [.ref y784]) (rest := []) cx hB (fun _ h => h) hN hy781 ky781 (by decide) rfl (g_X5_copyFrom_01 l g hN hB.2.1 y781 hy781 ky781 y784 hy784 ky784) q_cX10_70 q_dX5_copyFrom (by decide) rfl rfl hl.1 rfl (Nat.le_of_ble_eq_true rfl) dX10_copyFrom_100 (fun H locs f786 h788 hF hB => ?_)
        have z789 : q_is (q_z f786 v 3) nn := Eq.trans (hF.z hv (by rw [kv]; rfl)) hj_v_3
        refine q_iinc (lv' := [(2, .int (q_i (v82_2 + 1))), (0, .ref v), (1, .ref p0)]) cx dX10_copyFrom_103 hl (k := 2) rfl (by decide) rfl (fun ls hl => ?_)
        refine lv_goto (tgt := 82) cx.1 cx.2.1 dX10_copyFrom_106 (by decide) ?_
        exact ih82 f786 (v82_2 + 1) (by omega) (by omega) z789 (by omega) H locs hB ls (lv_sub hl [1, 2, 0] rfl)
  obtain ⟨H, hH⟩ : ∃ H : Heap, H = s.heap := ⟨_, rfl⟩
  obtain ⟨locs, hlocs⟩ : ∃ z : List Loc, z = [] := ⟨_, rfl⟩
  rw [← hH, ← hlocs] at hB
  rw [← hH, ← hlocs]
  refine q_ald_n cx dX10_copyFrom_0 rfl (lv_at hl 0 rfl) ?_
  refine q_ald_n cx dX10_copyFrom_1 rfl (lv_at hl 1 rfl) ?_
  refine q_gX10_35_13 cx hB hp0 kp0 hf0 dX10_copyFrom_2 (fun lb790 ub790 => ?_)
  refine q_pX10_35 cx hB hv kv ⟨by omega, by omega⟩ (by omega) (by omega) rfl dX10_copyFrom_5 (fun H locs f791 ef791 z792 hB => ?_)
  have z793 : q_is (q_z f791 p0 3) nn := by rw [ef791, q_setz (Or.inl (fun q => by rw [q, kv] at kp0; exact absurd kp0 (by decide)))]; exact hf0
  refine q_ald_n cx dX10_copyFrom_8 rfl (lv_at hl 0 rfl) ?_
  refine q_ald_n cx dX10_copyFrom_9 rfl (lv_at hl 1 rfl) ?_
  obtain ⟨x794, ex794⟩ : ∃ zz, q_is (q_z f791 p0 4) zz := ⟨_, q_isr _⟩
  refine q_gX10_39_13 cx hB hp0 kp0 ex794 dX10_copyFrom_10 (fun lb795 ub795 => ?_)
  refine q_pX10_39 cx hB hv kv ⟨by omega, by omega⟩ (by omega) (by omega) rfl dX10_copyFrom_13 (fun H locs f796 ef796 z797 hB => ?_)
  have z798 : q_is (q_z f796 p0 3) nn := by rw [ef796, q_setz (Or.inr (by decide))]; exact z793
  have z799 : q_is (q_z f796 v 3) nn := by rw [ef796, q_setz (Or.inr (by decide))]; exact z792
  have z800 : q_is (q_z f796 p0 4) x794 := by rw [ef796, q_setz (Or.inl (fun q => by rw [q, kv] at kp0; exact absurd kp0 (by decide)))]; exact ex794
  refine q_ald_n cx dX10_copyFrom_16 rfl (lv_at hl 0 rfl) ?_
  refine q_ald_n cx dX10_copyFrom_17 rfl (lv_at hl 1 rfl) ?_
  obtain ⟨x801, ex801⟩ : ∃ zz, q_is (q_z f796 p0 5) zz := ⟨_, q_isr _⟩
  refine q_gX10_42_13 cx hB hp0 kp0 ex801 dX10_copyFrom_18 (fun lb802 ub802 => ?_)
  refine q_pX10_42 cx hB hv kv ⟨by omega, by omega⟩ (by omega) (by omega) rfl dX10_copyFrom_21 (fun H locs f803 ef803 z804 hB => ?_)
  have z805 : q_is (q_z f803 p0 3) nn := by rw [ef803, q_setz (Or.inr (by decide))]; exact z798
  have z806 : q_is (q_z f803 v 3) nn := by rw [ef803, q_setz (Or.inr (by decide))]; exact z799
  have z807 : q_is (q_z f803 p0 4) x794 := by rw [ef803, q_setz (Or.inr (by decide))]; exact z800
  have z808 : q_is (q_z f803 v 4) x794 := by rw [ef803, q_setz (Or.inr (by decide))]; exact z797
  have z809 : q_is (q_z f803 p0 5) x801 := by rw [ef803, q_setz (Or.inl (fun q => by rw [q, kv] at kp0; exact absurd kp0 (by decide)))]; exact ex801
  refine q_ald_n cx dX10_copyFrom_24 rfl (lv_at hl 0 rfl) ?_
  refine q_ald_n cx dX10_copyFrom_25 rfl (lv_at hl 1 rfl) ?_
  obtain ⟨x810, ex810⟩ : ∃ zz, q_is (q_z f803 p0 6) zz := ⟨_, q_isr _⟩
  refine q_gX10_45_13 cx hB hp0 kp0 ex810 dX10_copyFrom_26 (fun lb811 ub811 => ?_)
  refine q_pX10_45 cx hB hv kv ⟨by omega, by omega⟩ (by omega) (by omega) rfl dX10_copyFrom_29 (fun H locs f812 ef812 z813 hB => ?_)
  have z814 : q_is (q_z f812 p0 3) nn := by rw [ef812, q_setz (Or.inr (by decide))]; exact z805
  have z815 : q_is (q_z f812 v 3) nn := by rw [ef812, q_setz (Or.inr (by decide))]; exact z806
  have z816 : q_is (q_z f812 p0 4) x794 := by rw [ef812, q_setz (Or.inr (by decide))]; exact z807
  have z817 : q_is (q_z f812 v 4) x794 := by rw [ef812, q_setz (Or.inr (by decide))]; exact z808
  have z818 : q_is (q_z f812 p0 5) x801 := by rw [ef812, q_setz (Or.inr (by decide))]; exact z809
  have z819 : q_is (q_z f812 v 5) x801 := by rw [ef812, q_setz (Or.inr (by decide))]; exact z804
  have z820 : q_is (q_z f812 p0 6) x810 := by rw [ef812, q_setz (Or.inl (fun q => by rw [q, kv] at kp0; exact absurd kp0 (by decide)))]; exact ex810
  refine q_ald_n cx dX10_copyFrom_32 rfl (lv_at hl 0 rfl) ?_
  refine q_ald_n cx dX10_copyFrom_33 rfl (lv_at hl 1 rfl) ?_
  obtain ⟨x821, ex821⟩ : ∃ zz, q_is (q_z f812 p0 7) zz := ⟨_, q_isr _⟩
  refine q_gX10_48_13 cx hB hp0 kp0 ex821 dX10_copyFrom_34 (fun lb822 ub822 => ?_)
  refine q_pX10_48 cx hB hv kv ⟨by omega, by omega⟩ (by omega) (by omega) rfl dX10_copyFrom_37 (fun H locs f823 ef823 z824 hB => ?_)
  have z825 : q_is (q_z f823 p0 3) nn := by rw [ef823, q_setz (Or.inr (by decide))]; exact z814
  have z826 : q_is (q_z f823 v 3) nn := by rw [ef823, q_setz (Or.inr (by decide))]; exact z815
  have z827 : q_is (q_z f823 p0 4) x794 := by rw [ef823, q_setz (Or.inr (by decide))]; exact z816
  have z828 : q_is (q_z f823 v 4) x794 := by rw [ef823, q_setz (Or.inr (by decide))]; exact z817
  have z829 : q_is (q_z f823 p0 5) x801 := by rw [ef823, q_setz (Or.inr (by decide))]; exact z818
  have z830 : q_is (q_z f823 v 5) x801 := by rw [ef823, q_setz (Or.inr (by decide))]; exact z819
  have z831 : q_is (q_z f823 p0 6) x810 := by rw [ef823, q_setz (Or.inr (by decide))]; exact z820
  have z832 : q_is (q_z f823 v 6) x810 := by rw [ef823, q_setz (Or.inr (by decide))]; exact z813
  have z833 : q_is (q_z f823 p0 7) x821 := by rw [ef823, q_setz (Or.inl (fun q => by rw [q, kv] at kp0; exact absurd kp0 (by decide)))]; exact ex821
  refine q_ald_n cx dX10_copyFrom_40 rfl (lv_at hl 0 rfl) ?_
  refine q_ald_n cx dX10_copyFrom_41 rfl (lv_at hl 1 rfl) ?_
  obtain ⟨x834, ex834⟩ : ∃ zz, q_is (q_z f823 p0 8) zz := ⟨_, q_isr _⟩
  refine q_gX10_51_13 cx hB hp0 kp0 ex834 dX10_copyFrom_42 (fun lb835 ub835 => ?_)
  refine q_pX10_51 cx hB hv kv ⟨by omega, by omega⟩ (by omega) (by omega) rfl dX10_copyFrom_45 (fun H locs f836 ef836 z837 hB => ?_)
  have z838 : q_is (q_z f836 p0 3) nn := by rw [ef836, q_setz (Or.inr (by decide))]; exact z825
  have z839 : q_is (q_z f836 v 3) nn := by rw [ef836, q_setz (Or.inr (by decide))]; exact z826
  have z840 : q_is (q_z f836 p0 4) x794 := by rw [ef836, q_setz (Or.inr (by decide))]; exact z827
  have z841 : q_is (q_z f836 v 4) x794 := by rw [ef836, q_setz (Or.inr (by decide))]; exact z828
  have z842 : q_is (q_z f836 p0 5) x801 := by rw [ef836, q_setz (Or.inr (by decide))]; exact z829
  have z843 : q_is (q_z f836 v 5) x801 := by rw [ef836, q_setz (Or.inr (by decide))]; exact z830
  have z844 : q_is (q_z f836 p0 6) x810 := by rw [ef836, q_setz (Or.inr (by decide))]; exact z831
  have z845 : q_is (q_z f836 v 6) x810 := by rw [ef836, q_setz (Or.inr (by decide))]; exact z832
  have z846 : q_is (q_z f836 p0 7) x821 := by rw [ef836, q_setz (Or.inr (by decide))]; exact z833
  have z847 : q_is (q_z f836 v 7) x821 := by rw [ef836, q_setz (Or.inr (by decide))]; exact z824
  have z848 : q_is (q_z f836 p0 8) x834 := by rw [ef836, q_setz (Or.inl (fun q => by rw [q, kv] at kp0; exact absurd kp0 (by decide)))]; exact ex834
  refine q_ald_n cx dX10_copyFrom_48 rfl (lv_at hl 0 rfl) ?_
  refine q_ald_n cx dX10_copyFrom_49 rfl (lv_at hl 1 rfl) ?_
  obtain ⟨x849, ex849⟩ : ∃ zz, q_is (q_z f836 p0 9) zz := ⟨_, q_isr _⟩
  refine q_gX10_54_13 cx hB hp0 kp0 ex849 dX10_copyFrom_50 (fun lb850 ub850 => ?_)
  refine q_pX10_54 cx hB hv kv ⟨by omega, by omega⟩ (by omega) (by omega) rfl dX10_copyFrom_53 (fun H locs f851 ef851 z852 hB => ?_)
  have z853 : q_is (q_z f851 p0 3) nn := by rw [ef851, q_setz (Or.inr (by decide))]; exact z838
  have z854 : q_is (q_z f851 v 3) nn := by rw [ef851, q_setz (Or.inr (by decide))]; exact z839
  have z855 : q_is (q_z f851 p0 4) x794 := by rw [ef851, q_setz (Or.inr (by decide))]; exact z840
  have z856 : q_is (q_z f851 v 4) x794 := by rw [ef851, q_setz (Or.inr (by decide))]; exact z841
  have z857 : q_is (q_z f851 p0 5) x801 := by rw [ef851, q_setz (Or.inr (by decide))]; exact z842
  have z858 : q_is (q_z f851 v 5) x801 := by rw [ef851, q_setz (Or.inr (by decide))]; exact z843
  have z859 : q_is (q_z f851 p0 6) x810 := by rw [ef851, q_setz (Or.inr (by decide))]; exact z844
  have z860 : q_is (q_z f851 v 6) x810 := by rw [ef851, q_setz (Or.inr (by decide))]; exact z845
  have z861 : q_is (q_z f851 p0 7) x821 := by rw [ef851, q_setz (Or.inr (by decide))]; exact z846
  have z862 : q_is (q_z f851 v 7) x821 := by rw [ef851, q_setz (Or.inr (by decide))]; exact z847
  have z863 : q_is (q_z f851 p0 8) x834 := by rw [ef851, q_setz (Or.inr (by decide))]; exact z848
  have z864 : q_is (q_z f851 v 8) x834 := by rw [ef851, q_setz (Or.inr (by decide))]; exact z837
  have z865 : q_is (q_z f851 p0 9) x849 := by rw [ef851, q_setz (Or.inl (fun q => by rw [q, kv] at kp0; exact absurd kp0 (by decide)))]; exact ex849
  refine q_ald_n cx dX10_copyFrom_56 rfl (lv_at hl 0 rfl) ?_
  refine q_ald_n cx dX10_copyFrom_57 rfl (lv_at hl 1 rfl) ?_
  obtain ⟨x866, ex866⟩ : ∃ zz, q_is (q_z f851 p0 10) zz := ⟨_, q_isr _⟩
  refine q_gX10_57_13 cx hB hp0 kp0 ex866 dX10_copyFrom_58 (fun lb867 ub867 => ?_)
  refine q_pX10_57 cx hB hv kv ⟨by omega, by omega⟩ (by omega) (by omega) rfl dX10_copyFrom_61 (fun H locs f868 ef868 z869 hB => ?_)
  have z870 : q_is (q_z f868 p0 3) nn := by rw [ef868, q_setz (Or.inr (by decide))]; exact z853
  have z871 : q_is (q_z f868 v 3) nn := by rw [ef868, q_setz (Or.inr (by decide))]; exact z854
  have z872 : q_is (q_z f868 p0 4) x794 := by rw [ef868, q_setz (Or.inr (by decide))]; exact z855
  have z873 : q_is (q_z f868 v 4) x794 := by rw [ef868, q_setz (Or.inr (by decide))]; exact z856
  have z874 : q_is (q_z f868 p0 5) x801 := by rw [ef868, q_setz (Or.inr (by decide))]; exact z857
  have z875 : q_is (q_z f868 v 5) x801 := by rw [ef868, q_setz (Or.inr (by decide))]; exact z858
  have z876 : q_is (q_z f868 p0 6) x810 := by rw [ef868, q_setz (Or.inr (by decide))]; exact z859
  have z877 : q_is (q_z f868 v 6) x810 := by rw [ef868, q_setz (Or.inr (by decide))]; exact z860
  have z878 : q_is (q_z f868 p0 7) x821 := by rw [ef868, q_setz (Or.inr (by decide))]; exact z861
  have z879 : q_is (q_z f868 v 7) x821 := by rw [ef868, q_setz (Or.inr (by decide))]; exact z862
  have z880 : q_is (q_z f868 p0 8) x834 := by rw [ef868, q_setz (Or.inr (by decide))]; exact z863
  have z881 : q_is (q_z f868 v 8) x834 := by rw [ef868, q_setz (Or.inr (by decide))]; exact z864
  have z882 : q_is (q_z f868 p0 9) x849 := by rw [ef868, q_setz (Or.inr (by decide))]; exact z865
  have z883 : q_is (q_z f868 v 9) x849 := by rw [ef868, q_setz (Or.inr (by decide))]; exact z852
  have z884 : q_is (q_z f868 p0 10) x866 := by rw [ef868, q_setz (Or.inl (fun q => by rw [q, kv] at kp0; exact absurd kp0 (by decide)))]; exact ex866
  refine q_ald_n cx dX10_copyFrom_64 rfl (lv_at hl 0 rfl) ?_
  refine q_ald_n cx dX10_copyFrom_65 rfl (lv_at hl 1 rfl) ?_
  obtain ⟨x885, ex885⟩ : ∃ zz, q_is (q_z f868 p0 11) zz := ⟨_, q_isr _⟩
  refine q_gX10_60_13 cx hB hp0 kp0 ex885 dX10_copyFrom_66 (fun lb886 ub886 => ?_)
  refine q_pX10_60 cx hB hv kv ⟨by omega, by omega⟩ (by omega) (by omega) rfl dX10_copyFrom_69 (fun H locs f887 ef887 z888 hB => ?_)
  have z889 : q_is (q_z f887 p0 3) nn := by rw [ef887, q_setz (Or.inr (by decide))]; exact z870
  have z890 : q_is (q_z f887 v 3) nn := by rw [ef887, q_setz (Or.inr (by decide))]; exact z871
  have z891 : q_is (q_z f887 p0 4) x794 := by rw [ef887, q_setz (Or.inr (by decide))]; exact z872
  have z892 : q_is (q_z f887 v 4) x794 := by rw [ef887, q_setz (Or.inr (by decide))]; exact z873
  have z893 : q_is (q_z f887 p0 5) x801 := by rw [ef887, q_setz (Or.inr (by decide))]; exact z874
  have z894 : q_is (q_z f887 v 5) x801 := by rw [ef887, q_setz (Or.inr (by decide))]; exact z875
  have z895 : q_is (q_z f887 p0 6) x810 := by rw [ef887, q_setz (Or.inr (by decide))]; exact z876
  have z896 : q_is (q_z f887 v 6) x810 := by rw [ef887, q_setz (Or.inr (by decide))]; exact z877
  have z897 : q_is (q_z f887 p0 7) x821 := by rw [ef887, q_setz (Or.inr (by decide))]; exact z878
  have z898 : q_is (q_z f887 v 7) x821 := by rw [ef887, q_setz (Or.inr (by decide))]; exact z879
  have z899 : q_is (q_z f887 p0 8) x834 := by rw [ef887, q_setz (Or.inr (by decide))]; exact z880
  have z900 : q_is (q_z f887 v 8) x834 := by rw [ef887, q_setz (Or.inr (by decide))]; exact z881
  have z901 : q_is (q_z f887 p0 9) x849 := by rw [ef887, q_setz (Or.inr (by decide))]; exact z882
  have z902 : q_is (q_z f887 v 9) x849 := by rw [ef887, q_setz (Or.inr (by decide))]; exact z883
  have z903 : q_is (q_z f887 p0 10) x866 := by rw [ef887, q_setz (Or.inr (by decide))]; exact z884
  have z904 : q_is (q_z f887 v 10) x866 := by rw [ef887, q_setz (Or.inr (by decide))]; exact z869
  have z905 : q_is (q_z f887 p0 11) x885 := by rw [ef887, q_setz (Or.inl (fun q => by rw [q, kv] at kp0; exact absurd kp0 (by decide)))]; exact ex885
  refine q_ald_n cx dX10_copyFrom_72 rfl (lv_at hl 0 rfl) ?_
  refine q_ald_n cx dX10_copyFrom_73 rfl (lv_at hl 1 rfl) ?_
  obtain ⟨x906, ex906⟩ : ∃ zz, q_is (q_z f887 p0 12) zz := ⟨_, q_isr _⟩
  refine q_gX10_63_13 cx hB hp0 kp0 ex906 dX10_copyFrom_74 (fun lb907 ub907 => ?_)
  refine q_pX10_63 cx hB hv kv ⟨by omega, by omega⟩ (by omega) (by omega) rfl dX10_copyFrom_77 (fun H locs f908 ef908 z909 hB => ?_)
  have z910 : q_is (q_z f908 p0 3) nn := by rw [ef908, q_setz (Or.inr (by decide))]; exact z889
  have z911 : q_is (q_z f908 v 3) nn := by rw [ef908, q_setz (Or.inr (by decide))]; exact z890
  have z912 : q_is (q_z f908 p0 4) x794 := by rw [ef908, q_setz (Or.inr (by decide))]; exact z891
  have z913 : q_is (q_z f908 v 4) x794 := by rw [ef908, q_setz (Or.inr (by decide))]; exact z892
  have z914 : q_is (q_z f908 p0 5) x801 := by rw [ef908, q_setz (Or.inr (by decide))]; exact z893
  have z915 : q_is (q_z f908 v 5) x801 := by rw [ef908, q_setz (Or.inr (by decide))]; exact z894
  have z916 : q_is (q_z f908 p0 6) x810 := by rw [ef908, q_setz (Or.inr (by decide))]; exact z895
  have z917 : q_is (q_z f908 v 6) x810 := by rw [ef908, q_setz (Or.inr (by decide))]; exact z896
  have z918 : q_is (q_z f908 p0 7) x821 := by rw [ef908, q_setz (Or.inr (by decide))]; exact z897
  have z919 : q_is (q_z f908 v 7) x821 := by rw [ef908, q_setz (Or.inr (by decide))]; exact z898
  have z920 : q_is (q_z f908 p0 8) x834 := by rw [ef908, q_setz (Or.inr (by decide))]; exact z899
  have z921 : q_is (q_z f908 v 8) x834 := by rw [ef908, q_setz (Or.inr (by decide))]; exact z900
  have z922 : q_is (q_z f908 p0 9) x849 := by rw [ef908, q_setz (Or.inr (by decide))]; exact z901
  have z923 : q_is (q_z f908 v 9) x849 := by rw [ef908, q_setz (Or.inr (by decide))]; exact z902
  have z924 : q_is (q_z f908 p0 10) x866 := by rw [ef908, q_setz (Or.inr (by decide))]; exact z903
  have z925 : q_is (q_z f908 v 10) x866 := by rw [ef908, q_setz (Or.inr (by decide))]; exact z904
  have z926 : q_is (q_z f908 p0 11) x885 := by rw [ef908, q_setz (Or.inr (by decide))]; exact z905
  have z927 : q_is (q_z f908 v 11) x885 := by rw [ef908, q_setz (Or.inr (by decide))]; exact z888
  have z928 : q_is (q_z f908 p0 12) x906 := by rw [ef908, q_setz (Or.inl (fun q => by rw [q, kv] at kp0; exact absurd kp0 (by decide)))]; exact ex906
  refine q_iconst cx dX10_copyFrom_80 ?_
  refine lv_istore_n (lv' := [(2, .int (q_i 0)), (0, .ref v), (1, .ref p0)]) cx.1 cx.2.1 dX10_copyFrom_81 rfl hl (by decide) rfl (fun ls hl => ?_)
  exact J82 ((Int.toNat (2147483647 - 0)) + 1) f908 0 (by decide) (by decide) z911 (Nat.lt_succ_self _) H locs hB ls (lv_sub hl [1, 2, 0] rfl)
set_option maxHeartbeats 4000000 in
set_option maxRecDepth 100000 in
theorem f_readText (l : Launch) (g : q_G) (ad : Nat → Nat) {K : Nat → Nat} {L : List Nat} (hN : L.Nodup) {f : Nat → va_E} (hT : q_Ty g K L f) (hfl : l.stackTraces = false) (B : Nat → Int) (x : Nat) (hx : x ∈ L) (kx : K x = 11) (so : Nat) (hso : so ∈ L) (kso : K so = 8) (rd : Nat) (hrd : rd ∈ L) (krd : K rd = 9) (scr : Nat) (hscr : scr ∈ L) (kscr : K scr = 7) (fc : Nat) (hfc : fc ∈ L) (kfc : K fc = 1) (hist : Nat) (hhist : hist ∈ L) (khist : K hist = 2) (rep : Nat) (hrep : rep ∈ L) (krep : K rep = 6) (now : Nat) (hnow : now ∈ L) (know : K now = 10) (dr : Nat) (hdr : dr ∈ L) (kdr : K dr = 13) (sv : Nat) (hsv : sv ∈ L) (ksv : K sv = 14) (tr : Nat) (htr : tr ∈ L) (ktr : K tr = 15) (ba : Nat) (hba : ba ∈ L) (kba : K ba = 142) (nds : Nat) (hnds : nds ∈ L) (knds : K nds = 111) (tn : Int) (ltn : 0 ≤ tn) (utn : tn ≤ 600) (hf0 : q_is (q_z f so 1) tn) (hr0 : q_ir (q_r f x 0) so) (hr1 : q_ir (q_r f x 1) rd) (hr2 : q_ir (q_r f x 2) scr) (hr3 : q_ir (q_r f x 3) fc) (hr4 : q_ir (q_r f x 4) hist) (hr5 : q_ir (q_r f x 5) rep) (hr6 : q_ir (q_r f x 6) now) (hr7 : q_ir (q_r f x 7) dr) (hr8 : q_ir (q_r f x 8) sv) (hr9 : q_ir (q_r f fc 0) tr) (hr10 : q_ir (q_r f so 0) ba) (hr11 : q_ir (q_r f dr 0) nds) (htb : tk_tb f ba B tn) (hij : tk_ij K L f nds) : q_Xt l g ad K L yX11_readText cX11_readText 2 (some .int) 9 199 1 6 [.ref x] f [(2, 2, 2), (3, 0, 4), (4, 0, 7), (5, 0, 8), (8, 1, 9), (9, 0, 2), (10, 3, 12), (13, 3, 12), (17, 0, 8), (21, 0, 4)] (q_Pi (fun (z : Int) (f1 : Nat → va_E) => 0 ≤ z ∧ z ≤ 10 ∧ q_is (q_z f1 so 1) 0 ∧ q_is (q_z f1 so 2) 0 ∧ q_is (q_z f1 so 3) (-1) ∧ (∃ A1 : tk_A, tk_T B tn (tk_S B tn 0) tk_A0 = tk_ok A1 ∧ z = ((tk_nd A1).length : Int)))) (fun (E : String) (f1 : Nat → va_E) => E = "java/lang/IllegalArgumentException" ∧ tk_T B tn (tk_S B tn 0) tk_A0 = tk_er (q_z f1 so 2) (q_z f1 so 3) ∧ q_is (q_z f1 so 1) 0) := by
  refine q_xofb (by decide +kernel) hN hT (Nat.le_of_ble_eq_true rfl) ?_
  intro p e s m below meth c ls cx hr hlk htab hX hB hl
  have hl : lv_has ls 2 [(0, .ref x)] := hl
  obtain ⟨H, hH⟩ : ∃ H : Heap, H = s.heap := ⟨_, rfl⟩
  obtain ⟨locs, hlocs⟩ : ∃ z : List Loc, z = [] := ⟨_, rfl⟩
  rw [← hH, ← hlocs] at hB
  rw [← hH, ← hlocs]
  refine q_ald_n cx dX11_readText_0 rfl (lv_at hl 0 rfl) ?_
  refine q_gX11_19 cx hB hx kx hr1 dX11_readText_1 (fun hb137 kb137 => ?_)
  refine q_ald_n cx dX11_readText_4 rfl (lv_at hl 0 rfl) ?_
  refine q_gX11_10 cx hB hx kx hr0 dX11_readText_5 (fun hb138 kb138 => ?_)
  refine q_ald_n cx dX11_readText_8 rfl (lv_at hl 0 rfl) ?_
  refine q_gX11_58 cx hB hx kx hr7 dX11_readText_9 (fun hb139 kb139 => ?_)
  refine q_cXV (As := [.ref so, .ref dr]) (rest := []) cx hX hB (fun _ h => h) (fun _ h _ => h) hN hrd krd (by decide) rfl (f_readAll l g ad hN hB.2.1 hfl B rd hrd krd so hso kso dr hdr kdr ba hba kba nds hnds knds tn (by omega) (by omega) hf0 hr10 hr11 htb hij) q_cX11_88 q_dX9_readAll (by decide) rfl rfl hl.1 rfl (Nat.le_of_ble_eq_true rfl) dX11_readText_12 (fun E9 ce9 q9 H locs f143 hex hF hB hcell hcv hcl => ?_) (fun v9 H locs f140 h142 hF hB => ?_)
  · exact hex.elim
  · obtain ⟨y141, rfl, ry141, h142⟩ := h142
    refine W.eq (g2 := F0 m 15 ls [.int (q_i y141)]) rfl ?_
    rcases h142 with h144 | h145
    · obtain ⟨qy141, z146, z147, t148⟩ := h144
      have z149 : q_is (q_z f140 so 1) tn := Eq.trans (hF.z hso (by rw [kso]; rfl)) hf0
      have z150 : q_ir (q_r f140 x 0) so := Eq.trans (hF.r hx (by rw [kx]; rfl)) hr0
      have z151 : q_ir (q_r f140 x 1) rd := Eq.trans (hF.r hx (by rw [kx]; rfl)) hr1
      have z152 : q_ir (q_r f140 x 2) scr := Eq.trans (hF.r hx (by rw [kx]; rfl)) hr2
      have z153 : q_ir (q_r f140 x 3) fc := Eq.trans (hF.r hx (by rw [kx]; rfl)) hr3
      have z154 : q_ir (q_r f140 x 4) hist := Eq.trans (hF.r hx (by rw [kx]; rfl)) hr4
      have z155 : q_ir (q_r f140 x 5) rep := Eq.trans (hF.r hx (by rw [kx]; rfl)) hr5
      have z156 : q_ir (q_r f140 x 6) now := Eq.trans (hF.r hx (by rw [kx]; rfl)) hr6
      have z157 : q_ir (q_r f140 x 7) dr := Eq.trans (hF.r hx (by rw [kx]; rfl)) hr7
      have z158 : q_ir (q_r f140 x 8) sv := Eq.trans (hF.r hx (by rw [kx]; rfl)) hr8
      have z159 : q_ir (q_r f140 fc 0) tr := Eq.trans (hF.r hfc (by rw [kfc]; rfl)) hr9
      have z160 : q_ir (q_r f140 so 0) ba := Eq.trans (hF.r hso (by rw [kso]; rfl)) hr10
      have z161 : q_ir (q_r f140 dr 0) nds := Eq.trans (hF.r hdr (by rw [kdr]; rfl)) hr11
      have g162 : tk_tb f140 ba B tn := tk_tb_tr htb (fun i9 => hF.z hba (by rw [kba]; rfl))
      have g163 : tk_ij K L f140 nds := tk_ij_tr hij (fun i9 => hF.r hnds (by rw [knds]; rfl))
      subst qy141
      refine lv_istore_n (lv' := [(1, .int (q_i 1)), (0, .ref x)]) cx.1 cx.2.1 dX11_readText_15 rfl hl (by decide) rfl (fun ls hl => ?_)
      obtain ⟨A9, hA9, hta9⟩ := t148
      obtain ⟨x164, ex164⟩ : ∃ zz, q_is (q_z f140 dr 3) zz := ⟨_, q_isr _⟩
      obtain ⟨lx164, ux164⟩ := q_isb ex164 (q_fib hB.2.1 hdr kdr (by decide) rfl)
      have hnn9 := tk_ta_nn hta9 ex164
      refine q_ald_n cx dX11_readText_16 rfl (lv_at hl 1 rfl) ?_
      refine q_gX11_10 cx hB hx kx z150 dX11_readText_17 (fun hb165 kb165 => ?_)
      refine q_iconst cx dX11_readText_20 ?_
      refine q_pX11_79 cx hB hso kso ⟨by decide, by decide⟩ (by decide) (by decide) rfl dX11_readText_21 (fun H locs f166 ef166 z167 hB => ?_)
      have z168 : q_is (q_z f166 so 2) 0 := by rw [ef166, q_setz (Or.inr (by decide))]; exact z146
      have z169 : q_is (q_z f166 so 3) (-1) := by rw [ef166, q_setz (Or.inr (by decide))]; exact z147
      have z170 : q_is (q_z f166 dr 3) x164 := by rw [ef166, q_setz (Or.inr (by decide))]; exact ex164
      have z171 : q_ir (q_r f166 x 0) so := by rw [ef166, q_setr (Or.inr (by decide))]; exact z150
      have z172 : q_ir (q_r f166 x 1) rd := by rw [ef166, q_setr (Or.inl (fun q => by rw [q, kso] at kx; exact absurd kx (by decide)))]; exact z151
      have z173 : q_ir (q_r f166 x 2) scr := by rw [ef166, q_setr (Or.inr (by decide))]; exact z152
      have z174 : q_ir (q_r f166 x 3) fc := by rw [ef166, q_setr (Or.inr (by decide))]; exact z153
      have z175 : q_ir (q_r f166 x 4) hist := by rw [ef166, q_setr (Or.inr (by decide))]; exact z154
      have z176 : q_ir (q_r f166 x 5) rep := by rw [ef166, q_setr (Or.inr (by decide))]; exact z155
      have z177 : q_ir (q_r f166 x 6) now := by rw [ef166, q_setr (Or.inr (by decide))]; exact z156
      have z178 : q_ir (q_r f166 x 7) dr := by rw [ef166, q_setr (Or.inr (by decide))]; exact z157
      have z179 : q_ir (q_r f166 x 8) sv := by rw [ef166, q_setr (Or.inr (by decide))]; exact z158
      have z180 : q_ir (q_r f166 fc 0) tr := by rw [ef166, q_setr (Or.inr (by decide))]; exact z159
      have z181 : q_ir (q_r f166 so 0) ba := by rw [ef166, q_setr (Or.inr (by decide))]; exact z160
      have z182 : q_ir (q_r f166 dr 0) nds := by rw [ef166, q_setr (Or.inr (by decide))]; exact z161
      have g183 : tk_tb f166 ba B tn := tk_tb_tr g162 (fun i9 => by rw [ef166, q_setz (Or.inl (fun q => by rw [q, kso] at kba; exact absurd kba (by decide)))])
      have g184 : tk_ij K L f166 nds := tk_ij_tr g163 (fun i9 => by rw [ef166, q_setr (Or.inl (fun q => by rw [q, kso] at knds; exact absurd knds (by decide)))])
      refine q_ild_n cx dX11_readText_24 rfl (lv_at hl 0 rfl) ?_
      refine q_ifne (tgt := 38) cx ⟨by decide, by decide⟩ dX11_readText_25 (by decide) (fun c185 => ?_) (fun c185 => ?_)
      · refine q_ald_n cx dX11_readText_38 rfl (lv_at hl 1 rfl) ?_
        refine q_gX11_54 cx hB hx kx z177 dX11_readText_39 (fun hb186 kb186 => ?_)
        refine q_ald_n cx dX11_readText_42 rfl (lv_at hl 1 rfl) ?_
        refine q_gX11_58 cx hB hx kx z178 dX11_readText_43 (fun hb187 kb187 => ?_)
        refine q_cVv (As := [.ref dr]) (rest := []) cx hB (fun _ h => h) hN hnow know (by decide) rfl (f_copyFrom l g hN hB.2.1 now hnow know dr hdr kdr x164 (by omega) (by omega) z170) q_cX11_94 q_dX10_copyFrom (by decide) rfl rfl hl.1 rfl (Nat.le_of_ble_eq_true rfl) dX11_readText_46 (fun H locs f188 h190 hF hB => ?_)
        have z191 := h190
        have z192 : q_is (q_z f188 so 2) 0 := Eq.trans (hF.z hso (by rw [kso]; rfl)) z168
        have z193 : q_is (q_z f188 so 3) (-1) := Eq.trans (hF.z hso (by rw [kso]; rfl)) z169
        have z194 : q_is (q_z f188 dr 3) x164 := Eq.trans (hF.z hdr (by rw [kdr]; rfl)) z170
        have z195 : q_is (q_z f188 so 1) 0 := Eq.trans (hF.z hso (by rw [kso]; rfl)) z167
        have z196 : q_ir (q_r f188 x 0) so := Eq.trans (hF.r hx (by rw [kx]; rfl)) z171
        have z197 : q_ir (q_r f188 x 1) rd := Eq.trans (hF.r hx (by rw [kx]; rfl)) z172
        have z198 : q_ir (q_r f188 x 2) scr := Eq.trans (hF.r hx (by rw [kx]; rfl)) z173
        have z199 : q_ir (q_r f188 x 3) fc := Eq.trans (hF.r hx (by rw [kx]; rfl)) z174
        have z200 : q_ir (q_r f188 x 4) hist := Eq.trans (hF.r hx (by rw [kx]; rfl)) z175
        have z201 : q_ir (q_r f188 x 5) rep := Eq.trans (hF.r hx (by rw [kx]; rfl)) z176
        have z202 : q_ir (q_r f188 x 6) now := Eq.trans (hF.r hx (by rw [kx]; rfl)) z177
        have z203 : q_ir (q_r f188 x 7) dr := Eq.trans (hF.r hx (by rw [kx]; rfl)) z178
        have z204 : q_ir (q_r f188 x 8) sv := Eq.trans (hF.r hx (by rw [kx]; rfl)) z179
        have z205 : q_ir (q_r f188 fc 0) tr := Eq.trans (hF.r hfc (by rw [kfc]; rfl)) z180
        have z206 : q_ir (q_r f188 so 0) ba := Eq.trans (hF.r hso (by rw [kso]; rfl)) z181
        have z207 : q_ir (q_r f188 dr 0) nds := Eq.trans (hF.r hdr (by rw [kdr]; rfl)) z182
        have g208 : tk_tb f188 ba B tn := tk_tb_tr g183 (fun i9 => hF.z hba (by rw [kba]; rfl))
        have g209 : tk_ij K L f188 nds := tk_ij_tr g184 (fun i9 => hF.r hnds (by rw [knds]; rfl))
        refine q_ald_n cx dX11_readText_49 rfl (lv_at hl 1 rfl) ?_
        refine q_gX11_40 cx hB hx kx z200 dX11_readText_50 (fun hb210 kb210 => ?_)
        refine q_cVv (As := []) (rest := []) cx hB (fun _ h => h) hN hhist khist (by decide) rfl (g_X2_forget l g hN hB.2.1 hist hhist khist) q_cX11_98 q_dX2_forget (by decide) rfl rfl hl.1 rfl (Nat.le_of_ble_eq_true rfl) dX11_readText_53 (fun H locs f211 h213 hF hB => ?_)
        have z214 : q_is (q_z f211 so 2) 0 := Eq.trans (hF.z hso (by rw [kso]; rfl)) z192
        have z215 : q_is (q_z f211 so 3) (-1) := Eq.trans (hF.z hso (by rw [kso]; rfl)) z193
        have z216 : q_is (q_z f211 dr 3) x164 := Eq.trans (hF.z hdr (by rw [kdr]; rfl)) z194
        have z217 : q_is (q_z f211 so 1) 0 := Eq.trans (hF.z hso (by rw [kso]; rfl)) z195
        have z218 : q_is (q_z f211 now 3) x164 := Eq.trans (hF.z hnow (by rw [know]; rfl)) z191
        have z219 : q_ir (q_r f211 x 0) so := Eq.trans (hF.r hx (by rw [kx]; rfl)) z196
        have z220 : q_ir (q_r f211 x 1) rd := Eq.trans (hF.r hx (by rw [kx]; rfl)) z197
        have z221 : q_ir (q_r f211 x 2) scr := Eq.trans (hF.r hx (by rw [kx]; rfl)) z198
        have z222 : q_ir (q_r f211 x 3) fc := Eq.trans (hF.r hx (by rw [kx]; rfl)) z199
        have z223 : q_ir (q_r f211 x 4) hist := Eq.trans (hF.r hx (by rw [kx]; rfl)) z200
        have z224 : q_ir (q_r f211 x 5) rep := Eq.trans (hF.r hx (by rw [kx]; rfl)) z201
        have z225 : q_ir (q_r f211 x 6) now := Eq.trans (hF.r hx (by rw [kx]; rfl)) z202
        have z226 : q_ir (q_r f211 x 7) dr := Eq.trans (hF.r hx (by rw [kx]; rfl)) z203
        have z227 : q_ir (q_r f211 x 8) sv := Eq.trans (hF.r hx (by rw [kx]; rfl)) z204
        have z228 : q_ir (q_r f211 fc 0) tr := Eq.trans (hF.r hfc (by rw [kfc]; rfl)) z205
        have z229 : q_ir (q_r f211 so 0) ba := Eq.trans (hF.r hso (by rw [kso]; rfl)) z206
        have z230 : q_ir (q_r f211 dr 0) nds := Eq.trans (hF.r hdr (by rw [kdr]; rfl)) z207
        have g231 : tk_tb f211 ba B tn := tk_tb_tr g208 (fun i9 => hF.z hba (by rw [kba]; rfl))
        have g232 : tk_ij K L f211 nds := tk_ij_tr g209 (fun i9 => hF.r hnds (by rw [knds]; rfl))
        refine q_ald_n cx dX11_readText_56 rfl (lv_at hl 1 rfl) ?_
        refine q_gX11_54 cx hB hx kx z225 dX11_readText_57 (fun hb233 kb233 => ?_)
        refine q_gX11_101 cx hB hnow know z218 dX11_readText_60 (fun lb234 ub234 => ?_)
        refine W.widen (k := 1) (n := 6) (by decide) (by decide) ?_
        refine vx_ret ?_
        refine q_iret cx hr hlk hB dX11_readText_63 ⟨by omega, by omega⟩ ?_
        exact ⟨(by omega), (by omega), z217, z214, z215, ⟨A9, hA9, by omega⟩⟩
      · exact absurd c185 (by omega)
    · obtain ⟨qy141, t235⟩ := h145
      have z236 : q_is (q_z f140 so 1) tn := Eq.trans (hF.z hso (by rw [kso]; rfl)) hf0
      have z237 : q_ir (q_r f140 x 0) so := Eq.trans (hF.r hx (by rw [kx]; rfl)) hr0
      have z238 : q_ir (q_r f140 x 1) rd := Eq.trans (hF.r hx (by rw [kx]; rfl)) hr1
      have z239 : q_ir (q_r f140 x 2) scr := Eq.trans (hF.r hx (by rw [kx]; rfl)) hr2
      have z240 : q_ir (q_r f140 x 3) fc := Eq.trans (hF.r hx (by rw [kx]; rfl)) hr3
      have z241 : q_ir (q_r f140 x 4) hist := Eq.trans (hF.r hx (by rw [kx]; rfl)) hr4
      have z242 : q_ir (q_r f140 x 5) rep := Eq.trans (hF.r hx (by rw [kx]; rfl)) hr5
      have z243 : q_ir (q_r f140 x 6) now := Eq.trans (hF.r hx (by rw [kx]; rfl)) hr6
      have z244 : q_ir (q_r f140 x 7) dr := Eq.trans (hF.r hx (by rw [kx]; rfl)) hr7
      have z245 : q_ir (q_r f140 x 8) sv := Eq.trans (hF.r hx (by rw [kx]; rfl)) hr8
      have z246 : q_ir (q_r f140 fc 0) tr := Eq.trans (hF.r hfc (by rw [kfc]; rfl)) hr9
      have z247 : q_ir (q_r f140 so 0) ba := Eq.trans (hF.r hso (by rw [kso]; rfl)) hr10
      have z248 : q_ir (q_r f140 dr 0) nds := Eq.trans (hF.r hdr (by rw [kdr]; rfl)) hr11
      have g249 : tk_tb f140 ba B tn := tk_tb_tr htb (fun i9 => hF.z hba (by rw [kba]; rfl))
      have g250 : tk_ij K L f140 nds := tk_ij_tr hij (fun i9 => hF.r hnds (by rw [knds]; rfl))
      subst qy141
      refine lv_istore_n (lv' := [(1, .int (q_i 0)), (0, .ref x)]) cx.1 cx.2.1 dX11_readText_15 rfl hl (by decide) rfl (fun ls hl => ?_)
      obtain ⟨x251, ex251⟩ : ∃ zz, q_is (q_z f140 so 2) zz := ⟨_, q_isr _⟩
      obtain ⟨lx251, ux251⟩ := q_isb ex251 (q_fib hB.2.1 hso kso (by decide) rfl)
      obtain ⟨x252, ex252⟩ : ∃ zz, q_is (q_z f140 so 3) zz := ⟨_, q_isr _⟩
      obtain ⟨lx252, ux252⟩ := q_isb ex252 (q_fib hB.2.1 hso kso (by decide) rfl)
      refine q_ald_n cx dX11_readText_16 rfl (lv_at hl 1 rfl) ?_
      refine q_gX11_10 cx hB hx kx z237 dX11_readText_17 (fun hb253 kb253 => ?_)
      refine q_iconst cx dX11_readText_20 ?_
      refine q_pX11_79 cx hB hso kso ⟨by decide, by decide⟩ (by decide) (by decide) rfl dX11_readText_21 (fun H locs f254 ef254 z255 hB => ?_)
      have z256 : q_is (q_z f254 so 2) x251 := by rw [ef254, q_setz (Or.inr (by decide))]; exact ex251
      have z257 : q_is (q_z f254 so 3) x252 := by rw [ef254, q_setz (Or.inr (by decide))]; exact ex252
      have z258 : q_ir (q_r f254 x 0) so := by rw [ef254, q_setr (Or.inr (by decide))]; exact z237
      have z259 : q_ir (q_r f254 x 1) rd := by rw [ef254, q_setr (Or.inl (fun q => by rw [q, kso] at kx; exact absurd kx (by decide)))]; exact z238
      have z260 : q_ir (q_r f254 x 2) scr := by rw [ef254, q_setr (Or.inr (by decide))]; exact z239
      have z261 : q_ir (q_r f254 x 3) fc := by rw [ef254, q_setr (Or.inr (by decide))]; exact z240
      have z262 : q_ir (q_r f254 x 4) hist := by rw [ef254, q_setr (Or.inr (by decide))]; exact z241
      have z263 : q_ir (q_r f254 x 5) rep := by rw [ef254, q_setr (Or.inr (by decide))]; exact z242
      have z264 : q_ir (q_r f254 x 6) now := by rw [ef254, q_setr (Or.inr (by decide))]; exact z243
      have z265 : q_ir (q_r f254 x 7) dr := by rw [ef254, q_setr (Or.inr (by decide))]; exact z244
      have z266 : q_ir (q_r f254 x 8) sv := by rw [ef254, q_setr (Or.inr (by decide))]; exact z245
      have z267 : q_ir (q_r f254 fc 0) tr := by rw [ef254, q_setr (Or.inr (by decide))]; exact z246
      have z268 : q_ir (q_r f254 so 0) ba := by rw [ef254, q_setr (Or.inr (by decide))]; exact z247
      have z269 : q_ir (q_r f254 dr 0) nds := by rw [ef254, q_setr (Or.inr (by decide))]; exact z248
      have g270 : tk_tb f254 ba B tn := tk_tb_tr g249 (fun i9 => by rw [ef254, q_setz (Or.inl (fun q => by rw [q, kso] at kba; exact absurd kba (by decide)))])
      have g271 : tk_ij K L f254 nds := tk_ij_tr g250 (fun i9 => by rw [ef254, q_setr (Or.inl (fun q => by rw [q, kso] at knds; exact absurd knds (by decide)))])
      refine q_ild_n cx dX11_readText_24 rfl (lv_at hl 0 rfl) ?_
      refine q_ifne (tgt := 38) cx ⟨by decide, by decide⟩ dX11_readText_25 (by decide) (fun c272 => ?_) (fun c272 => ?_)
      · exact absurd c272 (by omega)
      · exact q_throw (text := "the text has an error") hfl cx hlk htab hX hB hl.1 (by decide +kernel) q_h880 q_h152 (by decide +kernel) q_xl87a q_xl87b q_xl87c dX11_readText_28 dX11_readText_31 (Or.inl ⟨dX11_readText_32, dX11_readText_34, dX11_readText_37⟩) (by decide) (by decide) ⟨rfl, (tk_erp (tk_erx t235 ex251 ex252) z256 z257), z255⟩
set_option maxHeartbeats 4000000 in
set_option maxRecDepth 100000 in
theorem f_wreadText (l : Launch) (g : q_G) (ad : Nat → Nat) {K : Nat → Nat} {L : List Nat} (hN : L.Nodup) {f : Nat → va_E} (hT : q_Ty g K L f) (hfl : l.stackTraces = false) (B : Nat → Int) (x : Nat) (hx : x ∈ L) (kx : K x = 11) (out : Nat) (hout : out ∈ L) (kout : K out = 168) (so : Nat) (hso : so ∈ L) (kso : K so = 8) (rd : Nat) (hrd : rd ∈ L) (krd : K rd = 9) (scr : Nat) (hscr : scr ∈ L) (kscr : K scr = 7) (fc : Nat) (hfc : fc ∈ L) (kfc : K fc = 1) (hist : Nat) (hhist : hist ∈ L) (khist : K hist = 2) (rep : Nat) (hrep : rep ∈ L) (krep : K rep = 6) (now : Nat) (hnow : now ∈ L) (know : K now = 10) (dr : Nat) (hdr : dr ∈ L) (kdr : K dr = 13) (sv : Nat) (hsv : sv ∈ L) (ksv : K sv = 14) (tr : Nat) (htr : tr ∈ L) (ktr : K tr = 15) (ba : Nat) (hba : ba ∈ L) (kba : K ba = 142) (nds : Nat) (hnds : nds ∈ L) (knds : K nds = 111) (tn : Int) (ltn : 0 ≤ tn) (utn : tn ≤ 600) (hf0 : q_is (q_z f so 1) tn) (hr0 : q_ir (q_r f x 0) so) (hr1 : q_ir (q_r f x 1) rd) (hr2 : q_ir (q_r f x 2) scr) (hr3 : q_ir (q_r f x 3) fc) (hr4 : q_ir (q_r f x 4) hist) (hr5 : q_ir (q_r f x 5) rep) (hr6 : q_ir (q_r f x 6) now) (hr7 : q_ir (q_r f x 7) dr) (hr8 : q_ir (q_r f x 8) sv) (hr9 : q_ir (q_r f fc 0) tr) (hr10 : q_ir (q_r f so 0) ba) (hr11 : q_ir (q_r f dr 0) nds) (htb : tk_tb f ba B tn) (hij : tk_ij K L f nds) : q_Wt l g ad K L yL_readText cL_readText 3 (some .int) [(0, 8, 11, 19)] 10 220 1 6 [.ref x, .ref out] f [(2, 2, 2), (3, 0, 4), (4, 0, 7), (5, 0, 8), (8, 1, 9), (9, 0, 2), (10, 3, 12), (13, 3, 12), (17, 0, 8), (21, 0, 4), (168, 0, 0)] (q_Pi (fun (z : Int) (f1 : Nat → va_E) => (z = 0 ∧ q_is (q_z f1 so 1) 0 ∧ q_is (q_z f1 so 2) 0 ∧ q_is (q_z f1 so 3) (-1) ∧ (∃ A1 : tk_A, tk_T B tn (tk_S B tn 0) tk_A0 = tk_ok A1 ∧ ((tk_nd A1).length ≤ 10 ∧ q_j f1 out 0 = q_l ((tk_nd A1).length : Int)))) ∨ (z = 1 ∧ q_is (q_z f1 so 1) 0 ∧ (tk_T B tn (tk_S B tn 0) tk_A0 = tk_er (q_z f1 so 2) (q_z f1 so 3))))) := by
  refine q_wofb (by decide +kernel) hN hT (Nat.le_of_ble_eq_true rfl) ?_
  intro p e s m below meth c ls cx hr hlk htab hX hB hl
  have hl : lv_has ls 3 [(0, .ref x), (1, .ref out)] := hl
  obtain ⟨H, hH⟩ : ∃ H : Heap, H = s.heap := ⟨_, rfl⟩
  obtain ⟨locs, hlocs⟩ : ∃ z : List Loc, z = [] := ⟨_, rfl⟩
  rw [← hH, ← hlocs] at hB
  rw [← hH, ← hlocs]
  refine q_ald_n cx dL_readText_0 rfl (lv_at hl 1 rfl) ?_
  refine q_iconst cx dL_readText_1 ?_
  refine q_ald_n cx dL_readText_2 rfl (lv_at hl 0 rfl) ?_
  refine q_cXV (As := []) (rest := [.int (q_i 0), .ref out]) cx hX hB (fun _ h => h) (fun _ h _ => h) hN hx kx (by decide) rfl (f_readText l g ad hN hB.2.1 hfl B x hx kx so hso kso rd hrd krd scr hscr kscr fc hfc kfc hist hhist khist rep hrep krep now hnow know dr hdr kdr sv hsv ksv tr htr ktr ba hba kba nds hnds knds tn (by omega) (by omega) hf0 hr0 hr1 hr2 hr3 hr4 hr5 hr6 hr7 hr8 hr9 hr10 hr11 htb hij) q_cL_21 q_dX11_readText (by decide) rfl rfl hl.1 rfl (Nat.le_of_ble_eq_true rfl) dL_readText_3 (fun E9 ce9 q9 H locs f61 hex hF hB hcell hcv hcl => ?_) (fun v9 H locs f58 h60 hF hB => ?_)
  · rcases hex with ⟨rfl, t62, z63⟩
    · have z64 : q_ir (q_r f61 x 0) so := Eq.trans (hF.r hx (by rw [kx]; rfl)) hr0
      have z65 : q_ir (q_r f61 x 1) rd := Eq.trans (hF.r hx (by rw [kx]; rfl)) hr1
      have z66 : q_ir (q_r f61 x 2) scr := Eq.trans (hF.r hx (by rw [kx]; rfl)) hr2
      have z67 : q_ir (q_r f61 x 3) fc := Eq.trans (hF.r hx (by rw [kx]; rfl)) hr3
      have z68 : q_ir (q_r f61 x 4) hist := Eq.trans (hF.r hx (by rw [kx]; rfl)) hr4
      have z69 : q_ir (q_r f61 x 5) rep := Eq.trans (hF.r hx (by rw [kx]; rfl)) hr5
      have z70 : q_ir (q_r f61 x 6) now := Eq.trans (hF.r hx (by rw [kx]; rfl)) hr6
      have z71 : q_ir (q_r f61 x 7) dr := Eq.trans (hF.r hx (by rw [kx]; rfl)) hr7
      have z72 : q_ir (q_r f61 x 8) sv := Eq.trans (hF.r hx (by rw [kx]; rfl)) hr8
      have z73 : q_ir (q_r f61 fc 0) tr := Eq.trans (hF.r hfc (by rw [kfc]; rfl)) hr9
      have z74 : q_ir (q_r f61 so 0) ba := Eq.trans (hF.r hso (by rw [kso]; rfl)) hr10
      have z75 : q_ir (q_r f61 dr 0) nds := Eq.trans (hF.r hdr (by rw [kdr]; rfl)) hr11
      have g76 : tk_tb f61 ba B tn := tk_tb_tr htb (fun i9 => hF.z hba (by rw [kba]; rfl))
      have g77 : tk_ij K L f61 nds := tk_ij_tr hij (fun i9 => hF.r hnds (by rw [knds]; rfl))
      refine vx_catch (E := "java/lang/IllegalArgumentException") (name := "java/lang/IllegalArgumentException") cx.2.2.2.1 [] ⟨0, 8, 11, 19⟩ [] (htab.trans rfl) (q_pnil) (by decide) (by decide) (cx.2.2.2.2 _ q_h875) (va_Nw.use rfl (hX.2.2.2.1 (.castable "java/lang/IllegalArgumentException" "java/lang/IllegalArgumentException") (by decide +kernel))) hcell hcv hcl ?_
      refine lv_astore_n (lv' := [(2, .ref q9), (0, .ref x), (1, .ref out)]) cx.1 cx.2.1 dL_readText_11 rfl hl (by decide) rfl (fun ls hl => ?_)
      refine q_iconst cx dL_readText_12 ?_
      refine W.widen (k := 1) (n := 6) (by decide) (by decide) ?_
      refine q_iret cx hr hlk hB dL_readText_13 ⟨by decide, by decide⟩ ?_
      exact (Or.inr ⟨rfl, z63, t62⟩)
  · obtain ⟨y59, rfl, ry59, h60⟩ := h60
    refine W.eq (g2 := F0 m 6 ls [.int (q_i y59), .int (q_i 0), .ref out]) rfl ?_
    obtain ⟨ly59, uy59, z78, z79, z80, t81⟩ := h60
    have z82 : q_ir (q_r f58 x 0) so := Eq.trans (hF.r hx (by rw [kx]; rfl)) hr0
    have z83 : q_ir (q_r f58 x 1) rd := Eq.trans (hF.r hx (by rw [kx]; rfl)) hr1
    have z84 : q_ir (q_r f58 x 2) scr := Eq.trans (hF.r hx (by rw [kx]; rfl)) hr2
    have z85 : q_ir (q_r f58 x 3) fc := Eq.trans (hF.r hx (by rw [kx]; rfl)) hr3
    have z86 : q_ir (q_r f58 x 4) hist := Eq.trans (hF.r hx (by rw [kx]; rfl)) hr4
    have z87 : q_ir (q_r f58 x 5) rep := Eq.trans (hF.r hx (by rw [kx]; rfl)) hr5
    have z88 : q_ir (q_r f58 x 6) now := Eq.trans (hF.r hx (by rw [kx]; rfl)) hr6
    have z89 : q_ir (q_r f58 x 7) dr := Eq.trans (hF.r hx (by rw [kx]; rfl)) hr7
    have z90 : q_ir (q_r f58 x 8) sv := Eq.trans (hF.r hx (by rw [kx]; rfl)) hr8
    have z91 : q_ir (q_r f58 fc 0) tr := Eq.trans (hF.r hfc (by rw [kfc]; rfl)) hr9
    have z92 : q_ir (q_r f58 so 0) ba := Eq.trans (hF.r hso (by rw [kso]; rfl)) hr10
    have z93 : q_ir (q_r f58 dr 0) nds := Eq.trans (hF.r hdr (by rw [kdr]; rfl)) hr11
    have g94 : tk_tb f58 ba B tn := tk_tb_tr htb (fun i9 => hF.z hba (by rw [kba]; rfl))
    have g95 : tk_ij K L f58 nds := tk_ij_tr hij (fun i9 => hF.r hnds (by rw [knds]; rfl))
    refine q_i2l cx ⟨by omega, by omega⟩ dL_readText_6 ?_
    refine q_last (n := 1) cx hB hout kout (by decide) rfl rfl (by decide) (by decide) (by decide) rfl rfl dL_readText_7 (fun H locs f96 ef96 z97 hB => ?_)
    have z98 : q_is (q_z f96 so 1) 0 := by rw [ef96, q_setz (Or.inr (by decide))]; exact z78
    have z99 : q_is (q_z f96 so 2) 0 := by rw [ef96, q_setz (Or.inr (by decide))]; exact z79
    have z100 : q_is (q_z f96 so 3) (-1) := by rw [ef96, q_setz (Or.inr (by decide))]; exact z80
    have z101 : q_ir (q_r f96 x 0) so := by rw [ef96, q_setr (Or.inl (fun q => by rw [q, kout] at kx; exact absurd kx (by decide)))]; exact z82
    have z102 : q_ir (q_r f96 x 1) rd := by rw [ef96, q_setr (Or.inr (by decide))]; exact z83
    have z103 : q_ir (q_r f96 x 2) scr := by rw [ef96, q_setr (Or.inr (by decide))]; exact z84
    have z104 : q_ir (q_r f96 x 3) fc := by rw [ef96, q_setr (Or.inr (by decide))]; exact z85
    have z105 : q_ir (q_r f96 x 4) hist := by rw [ef96, q_setr (Or.inr (by decide))]; exact z86
    have z106 : q_ir (q_r f96 x 5) rep := by rw [ef96, q_setr (Or.inr (by decide))]; exact z87
    have z107 : q_ir (q_r f96 x 6) now := by rw [ef96, q_setr (Or.inr (by decide))]; exact z88
    have z108 : q_ir (q_r f96 x 7) dr := by rw [ef96, q_setr (Or.inr (by decide))]; exact z89
    have z109 : q_ir (q_r f96 x 8) sv := by rw [ef96, q_setr (Or.inr (by decide))]; exact z90
    have z110 : q_ir (q_r f96 fc 0) tr := by rw [ef96, q_setr (Or.inl (fun q => by rw [q, kout] at kfc; exact absurd kfc (by decide)))]; exact z91
    have z111 : q_ir (q_r f96 so 0) ba := by rw [ef96, q_setr (Or.inl (fun q => by rw [q, kout] at kso; exact absurd kso (by decide)))]; exact z92
    have z112 : q_ir (q_r f96 dr 0) nds := by rw [ef96, q_setr (Or.inl (fun q => by rw [q, kout] at kdr; exact absurd kdr (by decide)))]; exact z93
    have g113 : tk_tb f96 ba B tn := tk_tb_tr g94 (fun i9 => by rw [ef96, q_setz (Or.inl (fun q => by rw [q, kout] at kba; exact absurd kba (by decide)))])
    have g114 : tk_ij K L f96 nds := tk_ij_tr g95 (fun i9 => by rw [ef96, q_setr (Or.inl (fun q => by rw [q, kout] at knds; exact absurd knds (by decide)))])
    refine lv_goto (tgt := 14) cx.1 cx.2.1 dL_readText_8 (by decide) ?_
    refine q_iconst cx dL_readText_14 ?_
    refine W.widen (k := 1) (n := 6) (by decide) (by decide) ?_
    refine q_iret cx hr hlk hB dL_readText_15 ⟨by decide, by decide⟩ ?_
    exact (Or.inl ⟨rfl, z98, z99, z100, (tk_wok t81 (by omega) z97)⟩)
set_option maxHeartbeats 4000000 in
set_option maxRecDepth 100000 in
theorem f_wfeed (l : Launch) (g : q_G) (ad : Nat → Nat) {K : Nat → Nat} {L : List Nat} (hN : L.Nodup) {f : Nat → va_E} (hT : q_Ty g K L f) (hfl : l.stackTraces = false) (x : Nat) (hx : x ∈ L) (kx : K x = 11) (a0 : Int) (la0 : (-2147483648) ≤ a0) (ua0 : a0 ≤ 2147483647) (b0 : Int) (lb0 : (-2147483648) ≤ b0) (ub0 : b0 ≤ 2147483647) (c0 : Int) (lc0 : (-2147483648) ≤ c0) (uc0 : c0 ≤ 2147483647) (d0 : Int) (ld0 : (-2147483648) ≤ d0) (ud0 : d0 ≤ 2147483647) (e0 : Int) (le0 : (-2147483648) ≤ e0) (ue0 : e0 ≤ 2147483647) (out : Nat) (hout : out ∈ L) (kout : K out = 168) (so : Nat) (hso : so ∈ L) (kso : K so = 8) (rd : Nat) (hrd : rd ∈ L) (krd : K rd = 9) (scr : Nat) (hscr : scr ∈ L) (kscr : K scr = 7) (fc : Nat) (hfc : fc ∈ L) (kfc : K fc = 1) (hist : Nat) (hhist : hist ∈ L) (khist : K hist = 2) (rep : Nat) (hrep : rep ∈ L) (krep : K rep = 6) (now : Nat) (hnow : now ∈ L) (know : K now = 10) (dr : Nat) (hdr : dr ∈ L) (kdr : K dr = 13) (sv : Nat) (hsv : sv ∈ L) (ksv : K sv = 14) (tr : Nat) (htr : tr ∈ L) (ktr : K tr = 15) (ba : Nat) (hba : ba ∈ L) (kba : K ba = 142) (nds : Nat) (hnds : nds ∈ L) (knds : K nds = 111) (xn : Int) (lxn : 0 ≤ xn) (uxn : xn ≤ 580) (hf0 : q_is (q_z f so 1) xn) (hr0 : q_ir (q_r f x 0) so) (hr1 : q_ir (q_r f x 1) rd) (hr2 : q_ir (q_r f x 2) scr) (hr3 : q_ir (q_r f x 3) fc) (hr4 : q_ir (q_r f x 4) hist) (hr5 : q_ir (q_r f x 5) rep) (hr6 : q_ir (q_r f x 6) now) (hr7 : q_ir (q_r f x 7) dr) (hr8 : q_ir (q_r f x 8) sv) (hr9 : q_ir (q_r f fc 0) tr) (hr10 : q_ir (q_r f so 0) ba) (hr11 : q_ir (q_r f dr 0) nds) : q_Wt l g ad K L yL_feed cL_feed 8 (some .int) [(0, 16, 19, 13)] 2 47 0 0 [.ref x, .int (q_i a0), .int (q_i b0), .int (q_i c0), .int (q_i d0), .int (q_i e0), .ref out] f [(8, 1, 1), (142, 0, 599), (168, 0, 0)] (q_Pi (fun (z : Int) (f1 : Nat → va_E) => z = 0 ∧ q_is (q_z f1 so 1) (xn + 20) ∧ (tk_wr f f1 ba xn (fun k9 => (fun q9 => q9) (tk_g20 a0 b0 c0 d0 e0 k9)) 20))) := by
  refine q_wofb (by decide +kernel) hN hT (Nat.le_of_ble_eq_true rfl) ?_
  intro p e s m below meth c ls cx hr hlk htab hX hB hl
  have hl : lv_has ls 8 [(0, .ref x), (1, .int (q_i a0)), (2, .int (q_i b0)), (3, .int (q_i c0)), (4, .int (q_i d0)), (5, .int (q_i e0)), (6, .ref out)] := hl
  obtain ⟨H, hH⟩ : ∃ H : Heap, H = s.heap := ⟨_, rfl⟩
  obtain ⟨locs, hlocs⟩ : ∃ z : List Loc, z = [] := ⟨_, rfl⟩
  rw [← hH, ← hlocs] at hB
  rw [← hH, ← hlocs]
  refine lv_aload cx.1 cx.2.1 dL_feed_0 (lv_at hl 6 rfl) ?_
  refine q_iconst cx dL_feed_2 ?_
  refine q_ald_n cx dL_feed_3 rfl (lv_at hl 0 rfl) ?_
  refine q_ild_n cx dL_feed_4 rfl (lv_at hl 1 rfl) ?_
  refine q_ild_n cx dL_feed_5 rfl (lv_at hl 2 rfl) ?_
  refine q_ild_n cx dL_feed_6 rfl (lv_at hl 3 rfl) ?_
  refine lv_iload cx.1 cx.2.1 dL_feed_7 (lv_at hl 4 rfl) ?_
  refine lv_iload cx.1 cx.2.1 dL_feed_9 (lv_at hl 5 rfl) ?_
  refine q_cVi (As := [.int (q_i a0), .int (q_i b0), .int (q_i c0), .int (q_i d0), .int (q_i e0)]) (rest := [.int (q_i 0), .ref out]) cx hB (fun _ h => h) hN hx kx (by decide) rfl (f_feed l g hN hB.2.1 x hx kx a0 (by omega) (by omega) b0 (by omega) (by omega) c0 (by omega) (by omega) d0 (by omega) (by omega) e0 (by omega) (by omega) so hso kso rd hrd krd scr hscr kscr fc hfc kfc hist hhist khist rep hrep krep now hnow know dr hdr kdr sv hsv ksv tr htr ktr ba hba kba nds hnds knds xn (by omega) (by omega) hf0 hr0 hr1 hr2 hr3 hr4 hr5 hr6 hr7 hr8 hr9 hr10 hr11) q_cL_7 q_dX11_feed (by decide) rfl rfl hl.1 rfl (Nat.le_of_ble_eq_true rfl) dL_feed_11 (fun y34 H locs f33 ry34 h35 hF hB => ?_)
  obtain ⟨qy34, z36, t37⟩ := h35
  have z38 : q_ir (q_r f33 x 0) so := Eq.trans (hF.r hx (by rw [kx]; rfl)) hr0
  have z39 : q_ir (q_r f33 x 1) rd := Eq.trans (hF.r hx (by rw [kx]; rfl)) hr1
  have z40 : q_ir (q_r f33 x 2) scr := Eq.trans (hF.r hx (by rw [kx]; rfl)) hr2
  have z41 : q_ir (q_r f33 x 3) fc := Eq.trans (hF.r hx (by rw [kx]; rfl)) hr3
  have z42 : q_ir (q_r f33 x 4) hist := Eq.trans (hF.r hx (by rw [kx]; rfl)) hr4
  have z43 : q_ir (q_r f33 x 5) rep := Eq.trans (hF.r hx (by rw [kx]; rfl)) hr5
  have z44 : q_ir (q_r f33 x 6) now := Eq.trans (hF.r hx (by rw [kx]; rfl)) hr6
  have z45 : q_ir (q_r f33 x 7) dr := Eq.trans (hF.r hx (by rw [kx]; rfl)) hr7
  have z46 : q_ir (q_r f33 x 8) sv := Eq.trans (hF.r hx (by rw [kx]; rfl)) hr8
  have z47 : q_ir (q_r f33 fc 0) tr := Eq.trans (hF.r hfc (by rw [kfc]; rfl)) hr9
  have z48 : q_ir (q_r f33 so 0) ba := Eq.trans (hF.r hso (by rw [kso]; rfl)) hr10
  have z49 : q_ir (q_r f33 dr 0) nds := Eq.trans (hF.r hdr (by rw [kdr]; rfl)) hr11
  refine q_i2l cx ⟨by omega, by omega⟩ dL_feed_14 ?_
  refine q_last (n := 1) cx hB hout kout (by decide) rfl rfl (by decide) (by decide) (by decide) rfl rfl dL_feed_15 (fun H locs f50 ef50 z51 hB => ?_)
  have z52 : q_is (q_z f50 so 1) (xn + 20) := by rw [ef50, q_setz (Or.inr (by decide))]; exact z36
  have z53 : q_ir (q_r f50 x 0) so := by rw [ef50, q_setr (Or.inl (fun q => by rw [q, kout] at kx; exact absurd kx (by decide)))]; exact z38
  have z54 : q_ir (q_r f50 x 1) rd := by rw [ef50, q_setr (Or.inr (by decide))]; exact z39
  have z55 : q_ir (q_r f50 x 2) scr := by rw [ef50, q_setr (Or.inr (by decide))]; exact z40
  have z56 : q_ir (q_r f50 x 3) fc := by rw [ef50, q_setr (Or.inr (by decide))]; exact z41
  have z57 : q_ir (q_r f50 x 4) hist := by rw [ef50, q_setr (Or.inr (by decide))]; exact z42
  have z58 : q_ir (q_r f50 x 5) rep := by rw [ef50, q_setr (Or.inr (by decide))]; exact z43
  have z59 : q_ir (q_r f50 x 6) now := by rw [ef50, q_setr (Or.inr (by decide))]; exact z44
  have z60 : q_ir (q_r f50 x 7) dr := by rw [ef50, q_setr (Or.inr (by decide))]; exact z45
  have z61 : q_ir (q_r f50 x 8) sv := by rw [ef50, q_setr (Or.inr (by decide))]; exact z46
  have z62 : q_ir (q_r f50 fc 0) tr := by rw [ef50, q_setr (Or.inl (fun q => by rw [q, kout] at kfc; exact absurd kfc (by decide)))]; exact z47
  have z63 : q_ir (q_r f50 so 0) ba := by rw [ef50, q_setr (Or.inl (fun q => by rw [q, kout] at kso; exact absurd kso (by decide)))]; exact z48
  have z64 : q_ir (q_r f50 dr 0) nds := by rw [ef50, q_setr (Or.inl (fun q => by rw [q, kout] at kdr; exact absurd kdr (by decide)))]; exact z49
  refine lv_goto (tgt := 23) cx.1 cx.2.1 dL_feed_16 (by decide) ?_
  refine q_iconst cx dL_feed_23 ?_
  refine W.widen (k := 0) (n := 0) (by decide) (by decide) ?_
  refine q_iret cx hr hlk hB dL_feed_24 ⟨by decide, by decide⟩ ?_
  exact ⟨rfl, z52, (tk_wr_tr t37 (fun i9 => by rw [ef50, q_setz (Or.inl (fun q => by rw [q, kout] at kba; exact absurd kba (by decide)))]))⟩
