set_option maxHeartbeats 4000000 in
set_option maxRecDepth 100000 in
theorem g_X10_copyFrom_04 (l : Launch) (g : q_G) {K : Nat → Nat} {L : List Nat} (hN : L.Nodup) {f : Nat → va_E} (hT : q_Ty g K L f) (v : Nat) (hv : v ∈ L) (kv : K v = 10) (p0 : Nat) (hp0 : p0 ∈ L) (kp0 : K p0 = 16) : q_Ct l g K L yX10_copyFrom cX10_copyFrom 3 none 1 21 [.ref v, .ref p0] f [(3, 0, 4), (4, 0, 7), (5, 0, 8), (10, 3, 12)] (q_Pv (fun (f1 : Nat → va_E) => True)) := by
  refine q_ofb (by decide +kernel) hN hT (Nat.le_of_ble_eq_true rfl) ?_
  intro p e s m below meth c ls cx hr hlk hB hl
  have hl : lv_has ls 3 [(0, .ref v), (1, .ref p0)] := hl
  have J140 : ∀ (n : Nat) (f140 : Nat → va_E) (v140_2 : Int) (lv140_2 : 0 ≤ v140_2) (uv140_2 : v140_2 ≤ 61) (hmu : (Int.toNat (2147483647 - v140_2)) < n) (H : Heap) (locs : List Loc) (hB : q_B g K L (fun q => q ∈ L) [(3, 0, 4), (4, 0, 7), (5, 0, 8), (10, 3, 12)] f f140 s H locs) (ls : Array Slot) (hl : lv_has ls 3 [(0, .ref v), (1, .ref p0), (2, .int (q_i v140_2))]), W p l e { frames := 1, cells := 0, slots := 0, locals := 21 } s m ([.ref v, .ref p0] : List Value).toArray below meth c H locs 0 0 (MQ below (q_Q g K L [(3, 0, 4), (4, 0, 7), (5, 0, 8), (10, 3, 12)] f (q_Pv (fun (f1 : Nat → va_E) => True))) ([.ref v, .ref p0] : List Value).toArray s 0 0 (fun q => q ∈ L)) (F0 m 140 ls []) := by
    intro n
    induction n with
    | zero =>
      intro f140 v140_2 lv140_2 uv140_2 hmu
      exact absurd hmu (Nat.not_lt_zero _)
    | succ n ih140 =>
      intro f140 v140_2 lv140_2 uv140_2 hmu H locs hB ls hl
      refine q_ild_n cx dX10_copyFrom_140 rfl (lv_at hl 2 rfl) ?_
      refine q_ald_n cx dX10_copyFrom_141 rfl (lv_at hl 0 rfl) ?_
      obtain ⟨x581, ex581⟩ : ∃ zz, q_is (q_z f140 v 5) zz := ⟨_, q_isr _⟩
      refine q_gX10_42 cx hB hv kv ex581 dX10_copyFrom_142 (fun lb582 ub582 => ?_)
      refine q_icge (tgt := 167) cx ⟨by omega, by omega⟩ ⟨by omega, by omega⟩ dX10_copyFrom_145 (by decide) (fun c583 => ?_) (fun c583 => ?_)
      · refine q_vret cx hr hlk hB dX10_copyFrom_167 ?_
        trivial
      · refine q_ald_n cx dX10_copyFrom_148 rfl (lv_at hl 0 rfl) ?_
        refine q_ild_n cx dX10_copyFrom_149 rfl (lv_at hl 2 rfl) ?_
        refine q_cVr (As := [.int (q_i v140_2)]) (rest := []) cx hB (fun _ h => h) hN hv kv (by decide) rfl (g_X10_messageAt l g hN hB.2.1 v hv kv v140_2 (by omega) (by omega)) q_cX10_81 q_dX10_messageAt (by decide) rfl rfl hl.1 rfl (Nat.le_of_ble_eq_true rfl) dX10_copyFrom_150 (fun y585 H locs f584 h586 hF hB => ?_)
        obtain ⟨rfl, hy585, ky585⟩ := h586
        refine q_ald_n cx dX10_copyFrom_153 rfl (lv_at hl 1 rfl) ?_
        refine q_ild_n cx dX10_copyFrom_154 rfl (lv_at hl 2 rfl) ?_
        refine q_cVr (As := [.int (q_i v140_2)]) (rest := [.ref y585]) cx hB (fun _ h => h) hN hp0 kp0 (by decide) rfl (g_X10_messageAt_4 l g hN hB.2.1 p0 hp0 kp0 v140_2 (by omega) (by omega)) q_cX10_81 q_dX10_messageAt (by decide) rfl rfl hl.1 rfl (Nat.le_of_ble_eq_true rfl) dX10_copyFrom_155 (fun y588 H locs f587 h589 hF hB => ?_)
        obtain ⟨rfl, hy588, ky588⟩ := h589
        refine q_cVv (As := [.ref y588]) (rest := []) cx hB (fun _ h => h) hN hy585 ky585 (by decide) rfl (g_X4_copyFrom_04 l g hN hB.2.1 y585 hy585 ky585 y588 hy588 ky588) q_cX10_85 q_dX4_copyFrom (by decide) rfl rfl hl.1 rfl (Nat.le_of_ble_eq_true rfl) dX10_copyFrom_158 (fun H locs f590 h592 hF hB => ?_)
        refine q_iinc (lv' := [(2, .int (q_i (v140_2 + 1))), (0, .ref v), (1, .ref p0)]) cx dX10_copyFrom_161 hl (k := 2) rfl (by decide) rfl (fun ls hl => ?_)
        refine lv_goto (tgt := 140) cx.1 cx.2.1 dX10_copyFrom_164 (by decide) ?_
        exact ih140 f590 (v140_2 + 1) (by omega) (by omega) (by omega) H locs hB ls (lv_sub hl [1, 2, 0] rfl)
  have J111 : ∀ (n : Nat) (f111 : Nat → va_E) (v111_2 : Int) (lv111_2 : 0 ≤ v111_2) (uv111_2 : v111_2 ≤ 16) (hmu : (Int.toNat (2147483647 - v111_2)) < n) (H : Heap) (locs : List Loc) (hB : q_B g K L (fun q => q ∈ L) [(3, 0, 4), (4, 0, 7), (5, 0, 8), (10, 3, 12)] f f111 s H locs) (ls : Array Slot) (hl : lv_has ls 3 [(0, .ref v), (1, .ref p0), (2, .int (q_i v111_2))]), W p l e { frames := 1, cells := 0, slots := 0, locals := 21 } s m ([.ref v, .ref p0] : List Value).toArray below meth c H locs 0 0 (MQ below (q_Q g K L [(3, 0, 4), (4, 0, 7), (5, 0, 8), (10, 3, 12)] f (q_Pv (fun (f1 : Nat → va_E) => True))) ([.ref v, .ref p0] : List Value).toArray s 0 0 (fun q => q ∈ L)) (F0 m 111 ls []) := by
    intro n
    induction n with
    | zero =>
      intro f111 v111_2 lv111_2 uv111_2 hmu
      exact absurd hmu (Nat.not_lt_zero _)
    | succ n ih111 =>
      intro f111 v111_2 lv111_2 uv111_2 hmu H locs hB ls hl
      refine q_ild_n cx dX10_copyFrom_111 rfl (lv_at hl 2 rfl) ?_
      refine q_ald_n cx dX10_copyFrom_112 rfl (lv_at hl 0 rfl) ?_
      obtain ⟨x593, ex593⟩ : ∃ zz, q_is (q_z f111 v 4) zz := ⟨_, q_isr _⟩
      refine q_gX10_39 cx hB hv kv ex593 dX10_copyFrom_113 (fun lb594 ub594 => ?_)
      refine q_icge (tgt := 138) cx ⟨by omega, by omega⟩ ⟨by omega, by omega⟩ dX10_copyFrom_116 (by decide) (fun c595 => ?_) (fun c595 => ?_)
      · refine q_iconst cx dX10_copyFrom_138 ?_
        refine lv_istore_n (lv' := [(2, .int (q_i 0)), (0, .ref v), (1, .ref p0)]) cx.1 cx.2.1 dX10_copyFrom_139 rfl hl (by decide) rfl (fun ls hl => ?_)
        exact J140 ((Int.toNat (2147483647 - 0)) + 1) f111 0 (by decide) (by decide) (Nat.lt_succ_self _) H locs hB ls (lv_sub hl [1, 2, 0] rfl)
      · refine q_ald_n cx dX10_copyFrom_119 rfl (lv_at hl 0 rfl) ?_
        refine q_ild_n cx dX10_copyFrom_120 rfl (lv_at hl 2 rfl) ?_
        refine q_cVr (As := [.int (q_i v111_2)]) (rest := []) cx hB (fun _ h => h) hN hv kv (by decide) rfl (g_X10_linkAt l g hN hB.2.1 v hv kv v111_2 (by omega) (by omega)) q_cX10_74 q_dX10_linkAt (by decide) rfl rfl hl.1 rfl (Nat.le_of_ble_eq_true rfl) dX10_copyFrom_121 (fun y597 H locs f596 h598 hF hB => ?_)
        obtain ⟨rfl, hy597, ky597⟩ := h598
        refine q_ald_n cx dX10_copyFrom_124 rfl (lv_at hl 1 rfl) ?_
        refine q_ild_n cx dX10_copyFrom_125 rfl (lv_at hl 2 rfl) ?_
        refine q_cVr (As := [.int (q_i v111_2)]) (rest := [.ref y597]) cx hB (fun _ h => h) hN hp0 kp0 (by decide) rfl (g_X10_linkAt_4 l g hN hB.2.1 p0 hp0 kp0 v111_2 (by omega) (by omega)) q_cX10_74 q_dX10_linkAt (by decide) rfl rfl hl.1 rfl (Nat.le_of_ble_eq_true rfl) dX10_copyFrom_126 (fun y600 H locs f599 h601 hF hB => ?_)
        obtain ⟨rfl, hy600, ky600⟩ := h601
        refine q_cVv (As := [.ref y600]) (rest := []) cx hB (fun _ h => h) hN hy597 ky597 (by decide) rfl (g_X3_copyFrom_04 l g hN hB.2.1 y597 hy597 ky597 y600 hy600 ky600) q_cX10_78 q_dX3_copyFrom (by decide) rfl rfl hl.1 rfl (Nat.le_of_ble_eq_true rfl) dX10_copyFrom_129 (fun H locs f602 h604 hF hB => ?_)
        refine q_iinc (lv' := [(2, .int (q_i (v111_2 + 1))), (0, .ref v), (1, .ref p0)]) cx dX10_copyFrom_132 hl (k := 2) rfl (by decide) rfl (fun ls hl => ?_)
        refine lv_goto (tgt := 111) cx.1 cx.2.1 dX10_copyFrom_135 (by decide) ?_
        exact ih111 f602 (v111_2 + 1) (by omega) (by omega) (by omega) H locs hB ls (lv_sub hl [1, 2, 0] rfl)
  have J82 : ∀ (n : Nat) (f82 : Nat → va_E) (v82_2 : Int) (lv82_2 : 0 ≤ v82_2) (uv82_2 : v82_2 ≤ 10) (hmu : (Int.toNat (2147483647 - v82_2)) < n) (H : Heap) (locs : List Loc) (hB : q_B g K L (fun q => q ∈ L) [(3, 0, 4), (4, 0, 7), (5, 0, 8), (10, 3, 12)] f f82 s H locs) (ls : Array Slot) (hl : lv_has ls 3 [(0, .ref v), (1, .ref p0), (2, .int (q_i v82_2))]), W p l e { frames := 1, cells := 0, slots := 0, locals := 21 } s m ([.ref v, .ref p0] : List Value).toArray below meth c H locs 0 0 (MQ below (q_Q g K L [(3, 0, 4), (4, 0, 7), (5, 0, 8), (10, 3, 12)] f (q_Pv (fun (f1 : Nat → va_E) => True))) ([.ref v, .ref p0] : List Value).toArray s 0 0 (fun q => q ∈ L)) (F0 m 82 ls []) := by
    intro n
    induction n with
    | zero =>
      intro f82 v82_2 lv82_2 uv82_2 hmu
      exact absurd hmu (Nat.not_lt_zero _)
    | succ n ih82 =>
      intro f82 v82_2 lv82_2 uv82_2 hmu H locs hB ls hl
      refine q_ild_n cx dX10_copyFrom_82 rfl (lv_at hl 2 rfl) ?_
      refine q_ald_n cx dX10_copyFrom_83 rfl (lv_at hl 0 rfl) ?_
      obtain ⟨x605, ex605⟩ : ∃ zz, q_is (q_z f82 v 3) zz := ⟨_, q_isr _⟩
      refine q_gX10_35 cx hB hv kv ex605 dX10_copyFrom_84 (fun lb606 ub606 => ?_)
      refine q_icge (tgt := 109) cx ⟨by omega, by omega⟩ ⟨by omega, by omega⟩ dX10_copyFrom_87 (by decide) (fun c607 => ?_) (fun c607 => ?_)
      · refine q_iconst cx dX10_copyFrom_109 ?_
        refine lv_istore_n (lv' := [(2, .int (q_i 0)), (0, .ref v), (1, .ref p0)]) cx.1 cx.2.1 dX10_copyFrom_110 rfl hl (by decide) rfl (fun ls hl => ?_)
        exact J111 ((Int.toNat (2147483647 - 0)) + 1) f82 0 (by decide) (by decide) (Nat.lt_succ_self _) H locs hB ls (lv_sub hl [1, 2, 0] rfl)
      · refine q_ald_n cx dX10_copyFrom_90 rfl (lv_at hl 0 rfl) ?_
        refine q_ild_n cx dX10_copyFrom_91 rfl (lv_at hl 2 rfl) ?_
        refine q_cVr (As := [.int (q_i v82_2)]) (rest := []) cx hB (fun _ h => h) hN hv kv (by decide) rfl (g_X10_nodeAt l g hN hB.2.1 v hv kv v82_2 (by omega) (by omega)) q_cX10_66 q_dX10_nodeAt (by decide) rfl rfl hl.1 rfl (Nat.le_of_ble_eq_true rfl) dX10_copyFrom_92 (fun y609 H locs f608 h610 hF hB => ?_)
        obtain ⟨rfl, hy609, ky609⟩ := h610
        refine q_ald_n cx dX10_copyFrom_95 rfl (lv_at hl 1 rfl) ?_
        refine q_ild_n cx dX10_copyFrom_96 rfl (lv_at hl 2 rfl) ?_
        refine q_cVr (As := [.int (q_i v82_2)]) (rest := [.ref y609]) cx hB (fun _ h => h) hN hp0 kp0 (by decide) rfl (g_X10_nodeAt_4 l g hN hB.2.1 p0 hp0 kp0 v82_2 (by omega) (by omega)) q_cX10_66 q_dX10_nodeAt (by decide) rfl rfl hl.1 rfl (Nat.le_of_ble_eq_true rfl) dX10_copyFrom_97 (fun y612 H locs f611 h613 hF hB => ?_)
        obtain ⟨rfl, hy612, ky612⟩ := h613
        refine q_cVv (As := [.ref y612]) (rest := []) cx hB (fun _ h => h) hN hy609 ky609 (by decide) rfl (g_X5_copyFrom_04 l g hN hB.2.1 y609 hy609 ky609 y612 hy612 ky612) q_cX10_70 q_dX5_copyFrom (by decide) rfl rfl hl.1 rfl (Nat.le_of_ble_eq_true rfl) dX10_copyFrom_100 (fun H locs f614 h616 hF hB => ?_)
        refine q_iinc (lv' := [(2, .int (q_i (v82_2 + 1))), (0, .ref v), (1, .ref p0)]) cx dX10_copyFrom_103 hl (k := 2) rfl (by decide) rfl (fun ls hl => ?_)
        refine lv_goto (tgt := 82) cx.1 cx.2.1 dX10_copyFrom_106 (by decide) ?_
        exact ih82 f614 (v82_2 + 1) (by omega) (by omega) (by omega) H locs hB ls (lv_sub hl [1, 2, 0] rfl)
  obtain ⟨H, hH⟩ : ∃ H : Heap, H = s.heap := ⟨_, rfl⟩
  obtain ⟨locs, hlocs⟩ : ∃ z : List Loc, z = [] := ⟨_, rfl⟩
  rw [← hH, ← hlocs] at hB
  rw [← hH, ← hlocs]
  refine q_ald_n cx dX10_copyFrom_0 rfl (lv_at hl 0 rfl) ?_
  refine q_ald_n cx dX10_copyFrom_1 rfl (lv_at hl 1 rfl) ?_
  obtain ⟨x617, ex617⟩ : ∃ zz, q_is (q_z f p0 3) zz := ⟨_, q_isr _⟩
  refine q_gX10_35_16 cx hB hp0 kp0 ex617 dX10_copyFrom_2 (fun lb618 ub618 => ?_)
  refine q_pX10_35 cx hB hv kv ⟨by omega, by omega⟩ (by omega) (by omega) rfl dX10_copyFrom_5 (fun H locs f619 ef619 z620 hB => ?_)
  refine q_ald_n cx dX10_copyFrom_8 rfl (lv_at hl 0 rfl) ?_
  refine q_ald_n cx dX10_copyFrom_9 rfl (lv_at hl 1 rfl) ?_
  obtain ⟨x621, ex621⟩ : ∃ zz, q_is (q_z f619 p0 4) zz := ⟨_, q_isr _⟩
  refine q_gX10_39_16 cx hB hp0 kp0 ex621 dX10_copyFrom_10 (fun lb622 ub622 => ?_)
  refine q_pX10_39 cx hB hv kv ⟨by omega, by omega⟩ (by omega) (by omega) rfl dX10_copyFrom_13 (fun H locs f623 ef623 z624 hB => ?_)
  refine q_ald_n cx dX10_copyFrom_16 rfl (lv_at hl 0 rfl) ?_
  refine q_ald_n cx dX10_copyFrom_17 rfl (lv_at hl 1 rfl) ?_
  obtain ⟨x625, ex625⟩ : ∃ zz, q_is (q_z f623 p0 5) zz := ⟨_, q_isr _⟩
  refine q_gX10_42_16 cx hB hp0 kp0 ex625 dX10_copyFrom_18 (fun lb626 ub626 => ?_)
  refine q_pX10_42 cx hB hv kv ⟨by omega, by omega⟩ (by omega) (by omega) rfl dX10_copyFrom_21 (fun H locs f627 ef627 z628 hB => ?_)
  refine q_ald_n cx dX10_copyFrom_24 rfl (lv_at hl 0 rfl) ?_
  refine q_ald_n cx dX10_copyFrom_25 rfl (lv_at hl 1 rfl) ?_
  obtain ⟨x629, ex629⟩ : ∃ zz, q_is (q_z f627 p0 6) zz := ⟨_, q_isr _⟩
  refine q_gX10_45_16 cx hB hp0 kp0 ex629 dX10_copyFrom_26 (fun lb630 ub630 => ?_)
  refine q_pX10_45 cx hB hv kv ⟨by omega, by omega⟩ (by omega) (by omega) rfl dX10_copyFrom_29 (fun H locs f631 ef631 z632 hB => ?_)
  refine q_ald_n cx dX10_copyFrom_32 rfl (lv_at hl 0 rfl) ?_
  refine q_ald_n cx dX10_copyFrom_33 rfl (lv_at hl 1 rfl) ?_
  obtain ⟨x633, ex633⟩ : ∃ zz, q_is (q_z f631 p0 7) zz := ⟨_, q_isr _⟩
  refine q_gX10_48_16 cx hB hp0 kp0 ex633 dX10_copyFrom_34 (fun lb634 ub634 => ?_)
  refine q_pX10_48 cx hB hv kv ⟨by omega, by omega⟩ (by omega) (by omega) rfl dX10_copyFrom_37 (fun H locs f635 ef635 z636 hB => ?_)
  refine q_ald_n cx dX10_copyFrom_40 rfl (lv_at hl 0 rfl) ?_
  refine q_ald_n cx dX10_copyFrom_41 rfl (lv_at hl 1 rfl) ?_
  obtain ⟨x637, ex637⟩ : ∃ zz, q_is (q_z f635 p0 8) zz := ⟨_, q_isr _⟩
  refine q_gX10_51_16 cx hB hp0 kp0 ex637 dX10_copyFrom_42 (fun lb638 ub638 => ?_)
  refine q_pX10_51 cx hB hv kv ⟨by omega, by omega⟩ (by omega) (by omega) rfl dX10_copyFrom_45 (fun H locs f639 ef639 z640 hB => ?_)
  refine q_ald_n cx dX10_copyFrom_48 rfl (lv_at hl 0 rfl) ?_
  refine q_ald_n cx dX10_copyFrom_49 rfl (lv_at hl 1 rfl) ?_
  obtain ⟨x641, ex641⟩ : ∃ zz, q_is (q_z f639 p0 9) zz := ⟨_, q_isr _⟩
  refine q_gX10_54_16 cx hB hp0 kp0 ex641 dX10_copyFrom_50 (fun lb642 ub642 => ?_)
  refine q_pX10_54 cx hB hv kv ⟨by omega, by omega⟩ (by omega) (by omega) rfl dX10_copyFrom_53 (fun H locs f643 ef643 z644 hB => ?_)
  refine q_ald_n cx dX10_copyFrom_56 rfl (lv_at hl 0 rfl) ?_
  refine q_ald_n cx dX10_copyFrom_57 rfl (lv_at hl 1 rfl) ?_
  obtain ⟨x645, ex645⟩ : ∃ zz, q_is (q_z f643 p0 10) zz := ⟨_, q_isr _⟩
  refine q_gX10_57_16 cx hB hp0 kp0 ex645 dX10_copyFrom_58 (fun lb646 ub646 => ?_)
  refine q_pX10_57 cx hB hv kv ⟨by omega, by omega⟩ (by omega) (by omega) rfl dX10_copyFrom_61 (fun H locs f647 ef647 z648 hB => ?_)
  refine q_ald_n cx dX10_copyFrom_64 rfl (lv_at hl 0 rfl) ?_
  refine q_ald_n cx dX10_copyFrom_65 rfl (lv_at hl 1 rfl) ?_
  obtain ⟨x649, ex649⟩ : ∃ zz, q_is (q_z f647 p0 11) zz := ⟨_, q_isr _⟩
  refine q_gX10_60_16 cx hB hp0 kp0 ex649 dX10_copyFrom_66 (fun lb650 ub650 => ?_)
  refine q_pX10_60 cx hB hv kv ⟨by omega, by omega⟩ (by omega) (by omega) rfl dX10_copyFrom_69 (fun H locs f651 ef651 z652 hB => ?_)
  refine q_ald_n cx dX10_copyFrom_72 rfl (lv_at hl 0 rfl) ?_
  refine q_ald_n cx dX10_copyFrom_73 rfl (lv_at hl 1 rfl) ?_
  obtain ⟨x653, ex653⟩ : ∃ zz, q_is (q_z f651 p0 12) zz := ⟨_, q_isr _⟩
  refine q_gX10_63_16 cx hB hp0 kp0 ex653 dX10_copyFrom_74 (fun lb654 ub654 => ?_)
  refine q_pX10_63 cx hB hv kv ⟨by omega, by omega⟩ (by omega) (by omega) rfl dX10_copyFrom_77 (fun H locs f655 ef655 z656 hB => ?_)
  refine q_iconst cx dX10_copyFrom_80 ?_
  refine lv_istore_n (lv' := [(2, .int (q_i 0)), (0, .ref v), (1, .ref p0)]) cx.1 cx.2.1 dX10_copyFrom_81 rfl hl (by decide) rfl (fun ls hl => ?_)
  exact J82 ((Int.toNat (2147483647 - 0)) + 1) f655 0 (by decide) (by decide) (Nat.lt_succ_self _) H locs hB ls (lv_sub hl [1, 2, 0] rfl)
set_option maxHeartbeats 4000000 in
set_option maxRecDepth 100000 in
theorem g_X10_copyFrom_20 (l : Launch) (g : q_G) {K : Nat → Nat} {L : List Nat} (hN : L.Nodup) {f : Nat → va_E} (hT : q_Ty g K L f) (v : Nat) (hv : v ∈ L) (kv : K v = 14) (p0 : Nat) (hp0 : p0 ∈ L) (kp0 : K p0 = 10) : q_Ct l g K L yX10_copyFrom cX10_copyFrom 3 none 1 21 [.ref v, .ref p0] f [(14, 3, 12), (18, 0, 8), (22, 0, 4), (26, 0, 7)] (q_Pv (fun (f1 : Nat → va_E) => True)) := by
  refine q_ofb (by decide +kernel) hN hT (Nat.le_of_ble_eq_true rfl) ?_
  intro p e s m below meth c ls cx hr hlk hB hl
  have hl : lv_has ls 3 [(0, .ref v), (1, .ref p0)] := hl
  have J140 : ∀ (n : Nat) (f140 : Nat → va_E) (v140_2 : Int) (lv140_2 : 0 ≤ v140_2) (uv140_2 : v140_2 ≤ 61) (hmu : (Int.toNat (2147483647 - v140_2)) < n) (H : Heap) (locs : List Loc) (hB : q_B g K L (fun q => q ∈ L) [(14, 3, 12), (18, 0, 8), (22, 0, 4), (26, 0, 7)] f f140 s H locs) (ls : Array Slot) (hl : lv_has ls 3 [(0, .ref v), (1, .ref p0), (2, .int (q_i v140_2))]), W p l e { frames := 1, cells := 0, slots := 0, locals := 21 } s m ([.ref v, .ref p0] : List Value).toArray below meth c H locs 0 0 (MQ below (q_Q g K L [(14, 3, 12), (18, 0, 8), (22, 0, 4), (26, 0, 7)] f (q_Pv (fun (f1 : Nat → va_E) => True))) ([.ref v, .ref p0] : List Value).toArray s 0 0 (fun q => q ∈ L)) (F0 m 140 ls []) := by
    intro n
    induction n with
    | zero =>
      intro f140 v140_2 lv140_2 uv140_2 hmu
      exact absurd hmu (Nat.not_lt_zero _)
    | succ n ih140 =>
      intro f140 v140_2 lv140_2 uv140_2 hmu H locs hB ls hl
      refine q_ild_n cx dX10_copyFrom_140 rfl (lv_at hl 2 rfl) ?_
      refine q_ald_n cx dX10_copyFrom_141 rfl (lv_at hl 0 rfl) ?_
      obtain ⟨x581, ex581⟩ : ∃ zz, q_is (q_z f140 v 5) zz := ⟨_, q_isr _⟩
      refine q_gX10_42_14 cx hB hv kv ex581 dX10_copyFrom_142 (fun lb582 ub582 => ?_)
      refine q_icge (tgt := 167) cx ⟨by omega, by omega⟩ ⟨by omega, by omega⟩ dX10_copyFrom_145 (by decide) (fun c583 => ?_) (fun c583 => ?_)
      · refine q_vret cx hr hlk hB dX10_copyFrom_167 ?_
        trivial
      · refine q_ald_n cx dX10_copyFrom_148 rfl (lv_at hl 0 rfl) ?_
        refine q_ild_n cx dX10_copyFrom_149 rfl (lv_at hl 2 rfl) ?_
        refine q_cVr (As := [.int (q_i v140_2)]) (rest := []) cx hB (fun _ h => h) hN hv kv (by decide) rfl (g_X10_messageAt_2 l g hN hB.2.1 v hv kv v140_2 (by omega) (by omega)) q_cX10_81 q_dX10_messageAt (by decide) rfl rfl hl.1 rfl (Nat.le_of_ble_eq_true rfl) dX10_copyFrom_150 (fun y585 H locs f584 h586 hF hB => ?_)
        obtain ⟨rfl, hy585, ky585⟩ := h586
        refine q_ald_n cx dX10_copyFrom_153 rfl (lv_at hl 1 rfl) ?_
        refine q_ild_n cx dX10_copyFrom_154 rfl (lv_at hl 2 rfl) ?_
        refine q_cVr (As := [.int (q_i v140_2)]) (rest := [.ref y585]) cx hB (fun _ h => h) hN hp0 kp0 (by decide) rfl (g_X10_messageAt l g hN hB.2.1 p0 hp0 kp0 v140_2 (by omega) (by omega)) q_cX10_81 q_dX10_messageAt (by decide) rfl rfl hl.1 rfl (Nat.le_of_ble_eq_true rfl) dX10_copyFrom_155 (fun y588 H locs f587 h589 hF hB => ?_)
        obtain ⟨rfl, hy588, ky588⟩ := h589
        refine q_cVv (As := [.ref y588]) (rest := []) cx hB (fun _ h => h) hN hy585 ky585 (by decide) rfl (g_X4_copyFrom_20 l g hN hB.2.1 y585 hy585 ky585 y588 hy588 ky588) q_cX10_85 q_dX4_copyFrom (by decide) rfl rfl hl.1 rfl (Nat.le_of_ble_eq_true rfl) dX10_copyFrom_158 (fun H locs f590 h592 hF hB => ?_)
        refine q_iinc (lv' := [(2, .int (q_i (v140_2 + 1))), (0, .ref v), (1, .ref p0)]) cx dX10_copyFrom_161 hl (k := 2) rfl (by decide) rfl (fun ls hl => ?_)
        refine lv_goto (tgt := 140) cx.1 cx.2.1 dX10_copyFrom_164 (by decide) ?_
        exact ih140 f590 (v140_2 + 1) (by omega) (by omega) (by omega) H locs hB ls (lv_sub hl [1, 2, 0] rfl)
  have J111 : ∀ (n : Nat) (f111 : Nat → va_E) (v111_2 : Int) (lv111_2 : 0 ≤ v111_2) (uv111_2 : v111_2 ≤ 16) (hmu : (Int.toNat (2147483647 - v111_2)) < n) (H : Heap) (locs : List Loc) (hB : q_B g K L (fun q => q ∈ L) [(14, 3, 12), (18, 0, 8), (22, 0, 4), (26, 0, 7)] f f111 s H locs) (ls : Array Slot) (hl : lv_has ls 3 [(0, .ref v), (1, .ref p0), (2, .int (q_i v111_2))]), W p l e { frames := 1, cells := 0, slots := 0, locals := 21 } s m ([.ref v, .ref p0] : List Value).toArray below meth c H locs 0 0 (MQ below (q_Q g K L [(14, 3, 12), (18, 0, 8), (22, 0, 4), (26, 0, 7)] f (q_Pv (fun (f1 : Nat → va_E) => True))) ([.ref v, .ref p0] : List Value).toArray s 0 0 (fun q => q ∈ L)) (F0 m 111 ls []) := by
    intro n
    induction n with
    | zero =>
      intro f111 v111_2 lv111_2 uv111_2 hmu
      exact absurd hmu (Nat.not_lt_zero _)
    | succ n ih111 =>
      intro f111 v111_2 lv111_2 uv111_2 hmu H locs hB ls hl
      refine q_ild_n cx dX10_copyFrom_111 rfl (lv_at hl 2 rfl) ?_
      refine q_ald_n cx dX10_copyFrom_112 rfl (lv_at hl 0 rfl) ?_
      obtain ⟨x593, ex593⟩ : ∃ zz, q_is (q_z f111 v 4) zz := ⟨_, q_isr _⟩
      refine q_gX10_39_14 cx hB hv kv ex593 dX10_copyFrom_113 (fun lb594 ub594 => ?_)
      refine q_icge (tgt := 138) cx ⟨by omega, by omega⟩ ⟨by omega, by omega⟩ dX10_copyFrom_116 (by decide) (fun c595 => ?_) (fun c595 => ?_)
      · refine q_iconst cx dX10_copyFrom_138 ?_
        refine lv_istore_n (lv' := [(2, .int (q_i 0)), (0, .ref v), (1, .ref p0)]) cx.1 cx.2.1 dX10_copyFrom_139 rfl hl (by decide) rfl (fun ls hl => ?_)
        exact J140 ((Int.toNat (2147483647 - 0)) + 1) f111 0 (by decide) (by decide) (Nat.lt_succ_self _) H locs hB ls (lv_sub hl [1, 2, 0] rfl)
      · refine q_ald_n cx dX10_copyFrom_119 rfl (lv_at hl 0 rfl) ?_
        refine q_ild_n cx dX10_copyFrom_120 rfl (lv_at hl 2 rfl) ?_
        refine q_cVr (As := [.int (q_i v111_2)]) (rest := []) cx hB (fun _ h => h) hN hv kv (by decide) rfl (g_X10_linkAt_2 l g hN hB.2.1 v hv kv v111_2 (by omega) (by omega)) q_cX10_74 q_dX10_linkAt (by decide) rfl rfl hl.1 rfl (Nat.le_of_ble_eq_true rfl) dX10_copyFrom_121 (fun y597 H locs f596 h598 hF hB => ?_)
        obtain ⟨rfl, hy597, ky597⟩ := h598
        refine q_ald_n cx dX10_copyFrom_124 rfl (lv_at hl 1 rfl) ?_
        refine q_ild_n cx dX10_copyFrom_125 rfl (lv_at hl 2 rfl) ?_
        refine q_cVr (As := [.int (q_i v111_2)]) (rest := [.ref y597]) cx hB (fun _ h => h) hN hp0 kp0 (by decide) rfl (g_X10_linkAt l g hN hB.2.1 p0 hp0 kp0 v111_2 (by omega) (by omega)) q_cX10_74 q_dX10_linkAt (by decide) rfl rfl hl.1 rfl (Nat.le_of_ble_eq_true rfl) dX10_copyFrom_126 (fun y600 H locs f599 h601 hF hB => ?_)
        obtain ⟨rfl, hy600, ky600⟩ := h601
        refine q_cVv (As := [.ref y600]) (rest := []) cx hB (fun _ h => h) hN hy597 ky597 (by decide) rfl (g_X3_copyFrom_20 l g hN hB.2.1 y597 hy597 ky597 y600 hy600 ky600) q_cX10_78 q_dX3_copyFrom (by decide) rfl rfl hl.1 rfl (Nat.le_of_ble_eq_true rfl) dX10_copyFrom_129 (fun H locs f602 h604 hF hB => ?_)
        refine q_iinc (lv' := [(2, .int (q_i (v111_2 + 1))), (0, .ref v), (1, .ref p0)]) cx dX10_copyFrom_132 hl (k := 2) rfl (by decide) rfl (fun ls hl => ?_)
        refine lv_goto (tgt := 111) cx.1 cx.2.1 dX10_copyFrom_135 (by decide) ?_
        exact ih111 f602 (v111_2 + 1) (by omega) (by omega) (by omega) H locs hB ls (lv_sub hl [1, 2, 0] rfl)
  have J82 : ∀ (n : Nat) (f82 : Nat → va_E) (v82_2 : Int) (lv82_2 : 0 ≤ v82_2) (uv82_2 : v82_2 ≤ 10) (hmu : (Int.toNat (2147483647 - v82_2)) < n) (H : Heap) (locs : List Loc) (hB : q_B g K L (fun q => q ∈ L) [(14, 3, 12), (18, 0, 8), (22, 0, 4), (26, 0, 7)] f f82 s H locs) (ls : Array Slot) (hl : lv_has ls 3 [(0, .ref v), (1, .ref p0), (2, .int (q_i v82_2))]), W p l e { frames := 1, cells := 0, slots := 0, locals := 21 } s m ([.ref v, .ref p0] : List Value).toArray below meth c H locs 0 0 (MQ below (q_Q g K L [(14, 3, 12), (18, 0, 8), (22, 0, 4), (26, 0, 7)] f (q_Pv (fun (f1 : Nat → va_E) => True))) ([.ref v, .ref p0] : List Value).toArray s 0 0 (fun q => q ∈ L)) (F0 m 82 ls []) := by
    intro n
    induction n with
    | zero =>
      intro f82 v82_2 lv82_2 uv82_2 hmu
      exact absurd hmu (Nat.not_lt_zero _)
    | succ n ih82 =>
      intro f82 v82_2 lv82_2 uv82_2 hmu H locs hB ls hl
      refine q_ild_n cx dX10_copyFrom_82 rfl (lv_at hl 2 rfl) ?_
      refine q_ald_n cx dX10_copyFrom_83 rfl (lv_at hl 0 rfl) ?_
      obtain ⟨x605, ex605⟩ : ∃ zz, q_is (q_z f82 v 3) zz := ⟨_, q_isr _⟩
      refine q_gX10_35_14 cx hB hv kv ex605 dX10_copyFrom_84 (fun lb606 ub606 => ?_)
      refine q_icge (tgt := 109) cx ⟨by omega, by omega⟩ ⟨by omega, by omega⟩ dX10_copyFrom_87 (by decide) (fun c607 => ?_) (fun c607 => ?_)
      · refine q_iconst cx dX10_copyFrom_109 ?_
        refine lv_istore_n (lv' := [(2, .int (q_i 0)), (0, .ref v), (1, .ref p0)]) cx.1 cx.2.1 dX10_copyFrom_110 rfl hl (by decide) rfl (fun ls hl => ?_)
        exact J111 ((Int.toNat (2147483647 - 0)) + 1) f82 0 (by decide) (by decide) (Nat.lt_succ_self _) H locs hB ls (lv_sub hl [1, 2, 0] rfl)
      · refine q_ald_n cx dX10_copyFrom_90 rfl (lv_at hl 0 rfl) ?_
        refine q_ild_n cx dX10_copyFrom_91 rfl (lv_at hl 2 rfl) ?_
        refine q_cVr (As := [.int (q_i v82_2)]) (rest := []) cx hB (fun _ h => h) hN hv kv (by decide) rfl (g_X10_nodeAt_2 l g hN hB.2.1 v hv kv v82_2 (by omega) (by omega)) q_cX10_66 q_dX10_nodeAt (by decide) rfl rfl hl.1 rfl (Nat.le_of_ble_eq_true rfl) dX10_copyFrom_92 (fun y609 H locs f608 h610 hF hB => ?_)
        obtain ⟨rfl, hy609, ky609⟩ := h610
        refine q_ald_n cx dX10_copyFrom_95 rfl (lv_at hl 1 rfl) ?_
        refine q_ild_n cx dX10_copyFrom_96 rfl (lv_at hl 2 rfl) ?_
        refine q_cVr (As := [.int (q_i v82_2)]) (rest := [.ref y609]) cx hB (fun _ h => h) hN hp0 kp0 (by decide) rfl (g_X10_nodeAt l g hN hB.2.1 p0 hp0 kp0 v82_2 (by omega) (by omega)) q_cX10_66 q_dX10_nodeAt (by decide) rfl rfl hl.1 rfl (Nat.le_of_ble_eq_true rfl) dX10_copyFrom_97 (fun y612 H locs f611 h613 hF hB => ?_)
        obtain ⟨rfl, hy612, ky612⟩ := h613
        refine q_cVv (As := [.ref y612]) (rest := []) cx hB (fun _ h => h) hN hy609 ky609 (by decide) rfl (g_X5_copyFrom_20 l g hN hB.2.1 y609 hy609 ky609 y612 hy612 ky612) q_cX10_70 q_dX5_copyFrom (by decide) rfl rfl hl.1 rfl (Nat.le_of_ble_eq_true rfl) dX10_copyFrom_100 (fun H locs f614 h616 hF hB => ?_)
        refine q_iinc (lv' := [(2, .int (q_i (v82_2 + 1))), (0, .ref v), (1, .ref p0)]) cx dX10_copyFrom_103 hl (k := 2) rfl (by decide) rfl (fun ls hl => ?_)
        refine lv_goto (tgt := 82) cx.1 cx.2.1 dX10_copyFrom_106 (by decide) ?_
        exact ih82 f614 (v82_2 + 1) (by omega) (by omega) (by omega) H locs hB ls (lv_sub hl [1, 2, 0] rfl)
  obtain ⟨H, hH⟩ : ∃ H : Heap, H = s.heap := ⟨_, rfl⟩
  obtain ⟨locs, hlocs⟩ : ∃ z : List Loc, z = [] := ⟨_, rfl⟩
  rw [← hH, ← hlocs] at hB
  rw [← hH, ← hlocs]
  refine q_ald_n cx dX10_copyFrom_0 rfl (lv_at hl 0 rfl) ?_
  refine q_ald_n cx dX10_copyFrom_1 rfl (lv_at hl 1 rfl) ?_
  obtain ⟨x617, ex617⟩ : ∃ zz, q_is (q_z f p0 3) zz := ⟨_, q_isr _⟩
  refine q_gX10_35 cx hB hp0 kp0 ex617 dX10_copyFrom_2 (fun lb618 ub618 => ?_)
  refine q_pX10_35_14 cx hB hv kv ⟨by omega, by omega⟩ (by omega) (by omega) rfl dX10_copyFrom_5 (fun H locs f619 ef619 z620 hB => ?_)
  refine q_ald_n cx dX10_copyFrom_8 rfl (lv_at hl 0 rfl) ?_
  refine q_ald_n cx dX10_copyFrom_9 rfl (lv_at hl 1 rfl) ?_
  obtain ⟨x621, ex621⟩ : ∃ zz, q_is (q_z f619 p0 4) zz := ⟨_, q_isr _⟩
  refine q_gX10_39 cx hB hp0 kp0 ex621 dX10_copyFrom_10 (fun lb622 ub622 => ?_)
  refine q_pX10_39_14 cx hB hv kv ⟨by omega, by omega⟩ (by omega) (by omega) rfl dX10_copyFrom_13 (fun H locs f623 ef623 z624 hB => ?_)
  refine q_ald_n cx dX10_copyFrom_16 rfl (lv_at hl 0 rfl) ?_
  refine q_ald_n cx dX10_copyFrom_17 rfl (lv_at hl 1 rfl) ?_
  obtain ⟨x625, ex625⟩ : ∃ zz, q_is (q_z f623 p0 5) zz := ⟨_, q_isr _⟩
  refine q_gX10_42 cx hB hp0 kp0 ex625 dX10_copyFrom_18 (fun lb626 ub626 => ?_)
  refine q_pX10_42_14 cx hB hv kv ⟨by omega, by omega⟩ (by omega) (by omega) rfl dX10_copyFrom_21 (fun H locs f627 ef627 z628 hB => ?_)
  refine q_ald_n cx dX10_copyFrom_24 rfl (lv_at hl 0 rfl) ?_
  refine q_ald_n cx dX10_copyFrom_25 rfl (lv_at hl 1 rfl) ?_
  obtain ⟨x629, ex629⟩ : ∃ zz, q_is (q_z f627 p0 6) zz := ⟨_, q_isr _⟩
  refine q_gX10_45 cx hB hp0 kp0 ex629 dX10_copyFrom_26 (fun lb630 ub630 => ?_)
  refine q_pX10_45_14 cx hB hv kv ⟨by omega, by omega⟩ (by omega) (by omega) rfl dX10_copyFrom_29 (fun H locs f631 ef631 z632 hB => ?_)
  refine q_ald_n cx dX10_copyFrom_32 rfl (lv_at hl 0 rfl) ?_
  refine q_ald_n cx dX10_copyFrom_33 rfl (lv_at hl 1 rfl) ?_
  obtain ⟨x633, ex633⟩ : ∃ zz, q_is (q_z f631 p0 7) zz := ⟨_, q_isr _⟩
  refine q_gX10_48 cx hB hp0 kp0 ex633 dX10_copyFrom_34 (fun lb634 ub634 => ?_)
  refine q_pX10_48_14 cx hB hv kv ⟨by omega, by omega⟩ (by omega) (by omega) rfl dX10_copyFrom_37 (fun H locs f635 ef635 z636 hB => ?_)
  refine q_ald_n cx dX10_copyFrom_40 rfl (lv_at hl 0 rfl) ?_
  refine q_ald_n cx dX10_copyFrom_41 rfl (lv_at hl 1 rfl) ?_
  obtain ⟨x637, ex637⟩ : ∃ zz, q_is (q_z f635 p0 8) zz := ⟨_, q_isr _⟩
  refine q_gX10_51 cx hB hp0 kp0 ex637 dX10_copyFrom_42 (fun lb638 ub638 => ?_)
  refine q_pX10_51_14 cx hB hv kv ⟨by omega, by omega⟩ (by omega) (by omega) rfl dX10_copyFrom_45 (fun H locs f639 ef639 z640 hB => ?_)
  refine q_ald_n cx dX10_copyFrom_48 rfl (lv_at hl 0 rfl) ?_
  refine q_ald_n cx dX10_copyFrom_49 rfl (lv_at hl 1 rfl) ?_
  obtain ⟨x641, ex641⟩ : ∃ zz, q_is (q_z f639 p0 9) zz := ⟨_, q_isr _⟩
  refine q_gX10_54 cx hB hp0 kp0 ex641 dX10_copyFrom_50 (fun lb642 ub642 => ?_)
  refine q_pX10_54_14 cx hB hv kv ⟨by omega, by omega⟩ (by omega) (by omega) rfl dX10_copyFrom_53 (fun H locs f643 ef643 z644 hB => ?_)
  refine q_ald_n cx dX10_copyFrom_56 rfl (lv_at hl 0 rfl) ?_
  refine q_ald_n cx dX10_copyFrom_57 rfl (lv_at hl 1 rfl) ?_
  obtain ⟨x645, ex645⟩ : ∃ zz, q_is (q_z f643 p0 10) zz := ⟨_, q_isr _⟩
  refine q_gX10_57 cx hB hp0 kp0 ex645 dX10_copyFrom_58 (fun lb646 ub646 => ?_)
  refine q_pX10_57_14 cx hB hv kv ⟨by omega, by omega⟩ (by omega) (by omega) rfl dX10_copyFrom_61 (fun H locs f647 ef647 z648 hB => ?_)
  refine q_ald_n cx dX10_copyFrom_64 rfl (lv_at hl 0 rfl) ?_
  refine q_ald_n cx dX10_copyFrom_65 rfl (lv_at hl 1 rfl) ?_
  obtain ⟨x649, ex649⟩ : ∃ zz, q_is (q_z f647 p0 11) zz := ⟨_, q_isr _⟩
  refine q_gX10_60 cx hB hp0 kp0 ex649 dX10_copyFrom_66 (fun lb650 ub650 => ?_)
  refine q_pX10_60_14 cx hB hv kv ⟨by omega, by omega⟩ (by omega) (by omega) rfl dX10_copyFrom_69 (fun H locs f651 ef651 z652 hB => ?_)
  refine q_ald_n cx dX10_copyFrom_72 rfl (lv_at hl 0 rfl) ?_
  refine q_ald_n cx dX10_copyFrom_73 rfl (lv_at hl 1 rfl) ?_
  obtain ⟨x653, ex653⟩ : ∃ zz, q_is (q_z f651 p0 12) zz := ⟨_, q_isr _⟩
  refine q_gX10_63 cx hB hp0 kp0 ex653 dX10_copyFrom_74 (fun lb654 ub654 => ?_)
  refine q_pX10_63_14 cx hB hv kv ⟨by omega, by omega⟩ (by omega) (by omega) rfl dX10_copyFrom_77 (fun H locs f655 ef655 z656 hB => ?_)
  refine q_iconst cx dX10_copyFrom_80 ?_
  refine lv_istore_n (lv' := [(2, .int (q_i 0)), (0, .ref v), (1, .ref p0)]) cx.1 cx.2.1 dX10_copyFrom_81 rfl hl (by decide) rfl (fun ls hl => ?_)
  exact J82 ((Int.toNat (2147483647 - 0)) + 1) f655 0 (by decide) (by decide) (Nat.lt_succ_self _) H locs hB ls (lv_sub hl [1, 2, 0] rfl)
set_option maxHeartbeats 4000000 in
set_option maxRecDepth 100000 in
theorem g_X10_copyFrom_30 (l : Launch) (g : q_G) {K : Nat → Nat} {L : List Nat} (hN : L.Nodup) {f : Nat → va_E} (hT : q_Ty g K L f) (v : Nat) (hv : v ∈ L) (kv : K v = 15) (p0 : Nat) (hp0 : p0 ∈ L) (kp0 : K p0 = 10) : q_Ct l g K L yX10_copyFrom cX10_copyFrom 3 none 1 21 [.ref v, .ref p0] f [(15, 3, 12), (19, 0, 8), (23, 0, 4), (27, 0, 7)] (q_Pv (fun (f1 : Nat → va_E) => True)) := by
  refine q_ofb (by decide +kernel) hN hT (Nat.le_of_ble_eq_true rfl) ?_
  intro p e s m below meth c ls cx hr hlk hB hl
  have hl : lv_has ls 3 [(0, .ref v), (1, .ref p0)] := hl
  have J140 : ∀ (n : Nat) (f140 : Nat → va_E) (v140_2 : Int) (lv140_2 : 0 ≤ v140_2) (uv140_2 : v140_2 ≤ 61) (hmu : (Int.toNat (2147483647 - v140_2)) < n) (H : Heap) (locs : List Loc) (hB : q_B g K L (fun q => q ∈ L) [(15, 3, 12), (19, 0, 8), (23, 0, 4), (27, 0, 7)] f f140 s H locs) (ls : Array Slot) (hl : lv_has ls 3 [(0, .ref v), (1, .ref p0), (2, .int (q_i v140_2))]), W p l e { frames := 1, cells := 0, slots := 0, locals := 21 } s m ([.ref v, .ref p0] : List Value).toArray below meth c H locs 0 0 (MQ below (q_Q g K L [(15, 3, 12), (19, 0, 8), (23, 0, 4), (27, 0, 7)] f (q_Pv (fun (f1 : Nat → va_E) => True))) ([.ref v, .ref p0] : List Value).toArray s 0 0 (fun q => q ∈ L)) (F0 m 140 ls []) := by
    intro n
    induction n with
    | zero =>
      intro f140 v140_2 lv140_2 uv140_2 hmu
      exact absurd hmu (Nat.not_lt_zero _)
    | succ n ih140 =>
      intro f140 v140_2 lv140_2 uv140_2 hmu H locs hB ls hl
      refine q_ild_n cx dX10_copyFrom_140 rfl (lv_at hl 2 rfl) ?_
      refine q_ald_n cx dX10_copyFrom_141 rfl (lv_at hl 0 rfl) ?_
      obtain ⟨x581, ex581⟩ : ∃ zz, q_is (q_z f140 v 5) zz := ⟨_, q_isr _⟩
      refine q_gX10_42_15 cx hB hv kv ex581 dX10_copyFrom_142 (fun lb582 ub582 => ?_)
      refine q_icge (tgt := 167) cx ⟨by omega, by omega⟩ ⟨by omega, by omega⟩ dX10_copyFrom_145 (by decide) (fun c583 => ?_) (fun c583 => ?_)
      · refine q_vret cx hr hlk hB dX10_copyFrom_167 ?_
        trivial
      · refine q_ald_n cx dX10_copyFrom_148 rfl (lv_at hl 0 rfl) ?_
        refine q_ild_n cx dX10_copyFrom_149 rfl (lv_at hl 2 rfl) ?_
        refine q_cVr (As := [.int (q_i v140_2)]) (rest := []) cx hB (fun _ h => h) hN hv kv (by decide) rfl (g_X10_messageAt_3 l g hN hB.2.1 v hv kv v140_2 (by omega) (by omega)) q_cX10_81 q_dX10_messageAt (by decide) rfl rfl hl.1 rfl (Nat.le_of_ble_eq_true rfl) dX10_copyFrom_150 (fun y585 H locs f584 h586 hF hB => ?_)
        obtain ⟨rfl, hy585, ky585⟩ := h586
        refine q_ald_n cx dX10_copyFrom_153 rfl (lv_at hl 1 rfl) ?_
        refine q_ild_n cx dX10_copyFrom_154 rfl (lv_at hl 2 rfl) ?_
        refine q_cVr (As := [.int (q_i v140_2)]) (rest := [.ref y585]) cx hB (fun _ h => h) hN hp0 kp0 (by decide) rfl (g_X10_messageAt l g hN hB.2.1 p0 hp0 kp0 v140_2 (by omega) (by omega)) q_cX10_81 q_dX10_messageAt (by decide) rfl rfl hl.1 rfl (Nat.le_of_ble_eq_true rfl) dX10_copyFrom_155 (fun y588 H locs f587 h589 hF hB => ?_)
        obtain ⟨rfl, hy588, ky588⟩ := h589
        refine q_cVv (As := [.ref y588]) (rest := []) cx hB (fun _ h => h) hN hy585 ky585 (by decide) rfl (g_X4_copyFrom_30 l g hN hB.2.1 y585 hy585 ky585 y588 hy588 ky588) q_cX10_85 q_dX4_copyFrom (by decide) rfl rfl hl.1 rfl (Nat.le_of_ble_eq_true rfl) dX10_copyFrom_158 (fun H locs f590 h592 hF hB => ?_)
        refine q_iinc (lv' := [(2, .int (q_i (v140_2 + 1))), (0, .ref v), (1, .ref p0)]) cx dX10_copyFrom_161 hl (k := 2) rfl (by decide) rfl (fun ls hl => ?_)
        refine lv_goto (tgt := 140) cx.1 cx.2.1 dX10_copyFrom_164 (by decide) ?_
        exact ih140 f590 (v140_2 + 1) (by omega) (by omega) (by omega) H locs hB ls (lv_sub hl [1, 2, 0] rfl)
  have J111 : ∀ (n : Nat) (f111 : Nat → va_E) (v111_2 : Int) (lv111_2 : 0 ≤ v111_2) (uv111_2 : v111_2 ≤ 16) (hmu : (Int.toNat (2147483647 - v111_2)) < n) (H : Heap) (locs : List Loc) (hB : q_B g K L (fun q => q ∈ L) [(15, 3, 12), (19, 0, 8), (23, 0, 4), (27, 0, 7)] f f111 s H locs) (ls : Array Slot) (hl : lv_has ls 3 [(0, .ref v), (1, .ref p0), (2, .int (q_i v111_2))]), W p l e { frames := 1, cells := 0, slots := 0, locals := 21 } s m ([.ref v, .ref p0] : List Value).toArray below meth c H locs 0 0 (MQ below (q_Q g K L [(15, 3, 12), (19, 0, 8), (23, 0, 4), (27, 0, 7)] f (q_Pv (fun (f1 : Nat → va_E) => True))) ([.ref v, .ref p0] : List Value).toArray s 0 0 (fun q => q ∈ L)) (F0 m 111 ls []) := by
    intro n
    induction n with
    | zero =>
      intro f111 v111_2 lv111_2 uv111_2 hmu
      exact absurd hmu (Nat.not_lt_zero _)
    | succ n ih111 =>
      intro f111 v111_2 lv111_2 uv111_2 hmu H locs hB ls hl
      refine q_ild_n cx dX10_copyFrom_111 rfl (lv_at hl 2 rfl) ?_
      refine q_ald_n cx dX10_copyFrom_112 rfl (lv_at hl 0 rfl) ?_
      obtain ⟨x593, ex593⟩ : ∃ zz, q_is (q_z f111 v 4) zz := ⟨_, q_isr _⟩
      refine q_gX10_39_15 cx hB hv kv ex593 dX10_copyFrom_113 (fun lb594 ub594 => ?_)
      refine q_icge (tgt := 138) cx ⟨by omega, by omega⟩ ⟨by omega, by omega⟩ dX10_copyFrom_116 (by decide) (fun c595 => ?_) (fun c595 => ?_)
      · refine q_iconst cx dX10_copyFrom_138 ?_
        refine lv_istore_n (lv' := [(2, .int (q_i 0)), (0, .ref v), (1, .ref p0)]) cx.1 cx.2.1 dX10_copyFrom_139 rfl hl (by decide) rfl (fun ls hl => ?_)
        exact J140 ((Int.toNat (2147483647 - 0)) + 1) f111 0 (by decide) (by decide) (Nat.lt_succ_self _) H locs hB ls (lv_sub hl [1, 2, 0] rfl)
      · refine q_ald_n cx dX10_copyFrom_119 rfl (lv_at hl 0 rfl) ?_
        refine q_ild_n cx dX10_copyFrom_120 rfl (lv_at hl 2 rfl) ?_
        refine q_cVr (As := [.int (q_i v111_2)]) (rest := []) cx hB (fun _ h => h) hN hv kv (by decide) rfl (g_X10_linkAt_3 l g hN hB.2.1 v hv kv v111_2 (by omega) (by omega)) q_cX10_74 q_dX10_linkAt (by decide) rfl rfl hl.1 rfl (Nat.le_of_ble_eq_true rfl) dX10_copyFrom_121 (fun y597 H locs f596 h598 hF hB => ?_)
        obtain ⟨rfl, hy597, ky597⟩ := h598
        refine q_ald_n cx dX10_copyFrom_124 rfl (lv_at hl 1 rfl) ?_
        refine q_ild_n cx dX10_copyFrom_125 rfl (lv_at hl 2 rfl) ?_
        refine q_cVr (As := [.int (q_i v111_2)]) (rest := [.ref y597]) cx hB (fun _ h => h) hN hp0 kp0 (by decide) rfl (g_X10_linkAt l g hN hB.2.1 p0 hp0 kp0 v111_2 (by omega) (by omega)) q_cX10_74 q_dX10_linkAt (by decide) rfl rfl hl.1 rfl (Nat.le_of_ble_eq_true rfl) dX10_copyFrom_126 (fun y600 H locs f599 h601 hF hB => ?_)
        obtain ⟨rfl, hy600, ky600⟩ := h601
        refine q_cVv (As := [.ref y600]) (rest := []) cx hB (fun _ h => h) hN hy597 ky597 (by decide) rfl (g_X3_copyFrom_30 l g hN hB.2.1 y597 hy597 ky597 y600 hy600 ky600) q_cX10_78 q_dX3_copyFrom (by decide) rfl rfl hl.1 rfl (Nat.le_of_ble_eq_true rfl) dX10_copyFrom_129 (fun H locs f602 h604 hF hB => ?_)
        refine q_iinc (lv' := [(2, .int (q_i (v111_2 + 1))), (0, .ref v), (1, .ref p0)]) cx dX10_copyFrom_132 hl (k := 2) rfl (by decide) rfl (fun ls hl => ?_)
        refine lv_goto (tgt := 111) cx.1 cx.2.1 dX10_copyFrom_135 (by decide) ?_
        exact ih111 f602 (v111_2 + 1) (by omega) (by omega) (by omega) H locs hB ls (lv_sub hl [1, 2, 0] rfl)
  have J82 : ∀ (n : Nat) (f82 : Nat → va_E) (v82_2 : Int) (lv82_2 : 0 ≤ v82_2) (uv82_2 : v82_2 ≤ 10) (hmu : (Int.toNat (2147483647 - v82_2)) < n) (H : Heap) (locs : List Loc) (hB : q_B g K L (fun q => q ∈ L) [(15, 3, 12), (19, 0, 8), (23, 0, 4), (27, 0, 7)] f f82 s H locs) (ls : Array Slot) (hl : lv_has ls 3 [(0, .ref v), (1, .ref p0), (2, .int (q_i v82_2))]), W p l e { frames := 1, cells := 0, slots := 0, locals := 21 } s m ([.ref v, .ref p0] : List Value).toArray below meth c H locs 0 0 (MQ below (q_Q g K L [(15, 3, 12), (19, 0, 8), (23, 0, 4), (27, 0, 7)] f (q_Pv (fun (f1 : Nat → va_E) => True))) ([.ref v, .ref p0] : List Value).toArray s 0 0 (fun q => q ∈ L)) (F0 m 82 ls []) := by
    intro n
    induction n with
    | zero =>
      intro f82 v82_2 lv82_2 uv82_2 hmu
      exact absurd hmu (Nat.not_lt_zero _)
    | succ n ih82 =>
      intro f82 v82_2 lv82_2 uv82_2 hmu H locs hB ls hl
      refine q_ild_n cx dX10_copyFrom_82 rfl (lv_at hl 2 rfl) ?_
      refine q_ald_n cx dX10_copyFrom_83 rfl (lv_at hl 0 rfl) ?_
      obtain ⟨x605, ex605⟩ : ∃ zz, q_is (q_z f82 v 3) zz := ⟨_, q_isr _⟩
      refine q_gX10_35_15 cx hB hv kv ex605 dX10_copyFrom_84 (fun lb606 ub606 => ?_)
      refine q_icge (tgt := 109) cx ⟨by omega, by omega⟩ ⟨by omega, by omega⟩ dX10_copyFrom_87 (by decide) (fun c607 => ?_) (fun c607 => ?_)
      · refine q_iconst cx dX10_copyFrom_109 ?_
        refine lv_istore_n (lv' := [(2, .int (q_i 0)), (0, .ref v), (1, .ref p0)]) cx.1 cx.2.1 dX10_copyFrom_110 rfl hl (by decide) rfl (fun ls hl => ?_)
        exact J111 ((Int.toNat (2147483647 - 0)) + 1) f82 0 (by decide) (by decide) (Nat.lt_succ_self _) H locs hB ls (lv_sub hl [1, 2, 0] rfl)
      · refine q_ald_n cx dX10_copyFrom_90 rfl (lv_at hl 0 rfl) ?_
        refine q_ild_n cx dX10_copyFrom_91 rfl (lv_at hl 2 rfl) ?_
        refine q_cVr (As := [.int (q_i v82_2)]) (rest := []) cx hB (fun _ h => h) hN hv kv (by decide) rfl (g_X10_nodeAt_3 l g hN hB.2.1 v hv kv v82_2 (by omega) (by omega)) q_cX10_66 q_dX10_nodeAt (by decide) rfl rfl hl.1 rfl (Nat.le_of_ble_eq_true rfl) dX10_copyFrom_92 (fun y609 H locs f608 h610 hF hB => ?_)
        obtain ⟨rfl, hy609, ky609⟩ := h610
        refine q_ald_n cx dX10_copyFrom_95 rfl (lv_at hl 1 rfl) ?_
        refine q_ild_n cx dX10_copyFrom_96 rfl (lv_at hl 2 rfl) ?_
        refine q_cVr (As := [.int (q_i v82_2)]) (rest := [.ref y609]) cx hB (fun _ h => h) hN hp0 kp0 (by decide) rfl (g_X10_nodeAt l g hN hB.2.1 p0 hp0 kp0 v82_2 (by omega) (by omega)) q_cX10_66 q_dX10_nodeAt (by decide) rfl rfl hl.1 rfl (Nat.le_of_ble_eq_true rfl) dX10_copyFrom_97 (fun y612 H locs f611 h613 hF hB => ?_)
        obtain ⟨rfl, hy612, ky612⟩ := h613
        refine q_cVv (As := [.ref y612]) (rest := []) cx hB (fun _ h => h) hN hy609 ky609 (by decide) rfl (g_X5_copyFrom_30 l g hN hB.2.1 y609 hy609 ky609 y612 hy612 ky612) q_cX10_70 q_dX5_copyFrom (by decide) rfl rfl hl.1 rfl (Nat.le_of_ble_eq_true rfl) dX10_copyFrom_100 (fun H locs f614 h616 hF hB => ?_)
        refine q_iinc (lv' := [(2, .int (q_i (v82_2 + 1))), (0, .ref v), (1, .ref p0)]) cx dX10_copyFrom_103 hl (k := 2) rfl (by decide) rfl (fun ls hl => ?_)
        refine lv_goto (tgt := 82) cx.1 cx.2.1 dX10_copyFrom_106 (by decide) ?_
        exact ih82 f614 (v82_2 + 1) (by omega) (by omega) (by omega) H locs hB ls (lv_sub hl [1, 2, 0] rfl)
  obtain ⟨H, hH⟩ : ∃ H : Heap, H = s.heap := ⟨_, rfl⟩
  obtain ⟨locs, hlocs⟩ : ∃ z : List Loc, z = [] := ⟨_, rfl⟩
  rw [← hH, ← hlocs] at hB
  rw [← hH, ← hlocs]
  refine q_ald_n cx dX10_copyFrom_0 rfl (lv_at hl 0 rfl) ?_
  refine q_ald_n cx dX10_copyFrom_1 rfl (lv_at hl 1 rfl) ?_
  obtain ⟨x617, ex617⟩ : ∃ zz, q_is (q_z f p0 3) zz := ⟨_, q_isr _⟩
  refine q_gX10_35 cx hB hp0 kp0 ex617 dX10_copyFrom_2 (fun lb618 ub618 => ?_)
  refine q_pX10_35_15 cx hB hv kv ⟨by omega, by omega⟩ (by omega) (by omega) rfl dX10_copyFrom_5 (fun H locs f619 ef619 z620 hB => ?_)
  refine q_ald_n cx dX10_copyFrom_8 rfl (lv_at hl 0 rfl) ?_
  refine q_ald_n cx dX10_copyFrom_9 rfl (lv_at hl 1 rfl) ?_
  obtain ⟨x621, ex621⟩ : ∃ zz, q_is (q_z f619 p0 4) zz := ⟨_, q_isr _⟩
  refine q_gX10_39 cx hB hp0 kp0 ex621 dX10_copyFrom_10 (fun lb622 ub622 => ?_)
  refine q_pX10_39_15 cx hB hv kv ⟨by omega, by omega⟩ (by omega) (by omega) rfl dX10_copyFrom_13 (fun H locs f623 ef623 z624 hB => ?_)
  refine q_ald_n cx dX10_copyFrom_16 rfl (lv_at hl 0 rfl) ?_
  refine q_ald_n cx dX10_copyFrom_17 rfl (lv_at hl 1 rfl) ?_
  obtain ⟨x625, ex625⟩ : ∃ zz, q_is (q_z f623 p0 5) zz := ⟨_, q_isr _⟩
  refine q_gX10_42 cx hB hp0 kp0 ex625 dX10_copyFrom_18 (fun lb626 ub626 => ?_)
  refine q_pX10_42_15 cx hB hv kv ⟨by omega, by omega⟩ (by omega) (by omega) rfl dX10_copyFrom_21 (fun H locs f627 ef627 z628 hB => ?_)
  refine q_ald_n cx dX10_copyFrom_24 rfl (lv_at hl 0 rfl) ?_
  refine q_ald_n cx dX10_copyFrom_25 rfl (lv_at hl 1 rfl) ?_
  obtain ⟨x629, ex629⟩ : ∃ zz, q_is (q_z f627 p0 6) zz := ⟨_, q_isr _⟩
  refine q_gX10_45 cx hB hp0 kp0 ex629 dX10_copyFrom_26 (fun lb630 ub630 => ?_)
  refine q_pX10_45_15 cx hB hv kv ⟨by omega, by omega⟩ (by omega) (by omega) rfl dX10_copyFrom_29 (fun H locs f631 ef631 z632 hB => ?_)
  refine q_ald_n cx dX10_copyFrom_32 rfl (lv_at hl 0 rfl) ?_
  refine q_ald_n cx dX10_copyFrom_33 rfl (lv_at hl 1 rfl) ?_
  obtain ⟨x633, ex633⟩ : ∃ zz, q_is (q_z f631 p0 7) zz := ⟨_, q_isr _⟩
  refine q_gX10_48 cx hB hp0 kp0 ex633 dX10_copyFrom_34 (fun lb634 ub634 => ?_)
  refine q_pX10_48_15 cx hB hv kv ⟨by omega, by omega⟩ (by omega) (by omega) rfl dX10_copyFrom_37 (fun H locs f635 ef635 z636 hB => ?_)
  refine q_ald_n cx dX10_copyFrom_40 rfl (lv_at hl 0 rfl) ?_
  refine q_ald_n cx dX10_copyFrom_41 rfl (lv_at hl 1 rfl) ?_
  obtain ⟨x637, ex637⟩ : ∃ zz, q_is (q_z f635 p0 8) zz := ⟨_, q_isr _⟩
  refine q_gX10_51 cx hB hp0 kp0 ex637 dX10_copyFrom_42 (fun lb638 ub638 => ?_)
  refine q_pX10_51_15 cx hB hv kv ⟨by omega, by omega⟩ (by omega) (by omega) rfl dX10_copyFrom_45 (fun H locs f639 ef639 z640 hB => ?_)
  refine q_ald_n cx dX10_copyFrom_48 rfl (lv_at hl 0 rfl) ?_
  refine q_ald_n cx dX10_copyFrom_49 rfl (lv_at hl 1 rfl) ?_
  obtain ⟨x641, ex641⟩ : ∃ zz, q_is (q_z f639 p0 9) zz := ⟨_, q_isr _⟩
  refine q_gX10_54 cx hB hp0 kp0 ex641 dX10_copyFrom_50 (fun lb642 ub642 => ?_)
  refine q_pX10_54_15 cx hB hv kv ⟨by omega, by omega⟩ (by omega) (by omega) rfl dX10_copyFrom_53 (fun H locs f643 ef643 z644 hB => ?_)
  refine q_ald_n cx dX10_copyFrom_56 rfl (lv_at hl 0 rfl) ?_
  refine q_ald_n cx dX10_copyFrom_57 rfl (lv_at hl 1 rfl) ?_
  obtain ⟨x645, ex645⟩ : ∃ zz, q_is (q_z f643 p0 10) zz := ⟨_, q_isr _⟩
  refine q_gX10_57 cx hB hp0 kp0 ex645 dX10_copyFrom_58 (fun lb646 ub646 => ?_)
  refine q_pX10_57_15 cx hB hv kv ⟨by omega, by omega⟩ (by omega) (by omega) rfl dX10_copyFrom_61 (fun H locs f647 ef647 z648 hB => ?_)
  refine q_ald_n cx dX10_copyFrom_64 rfl (lv_at hl 0 rfl) ?_
  refine q_ald_n cx dX10_copyFrom_65 rfl (lv_at hl 1 rfl) ?_
  obtain ⟨x649, ex649⟩ : ∃ zz, q_is (q_z f647 p0 11) zz := ⟨_, q_isr _⟩
  refine q_gX10_60 cx hB hp0 kp0 ex649 dX10_copyFrom_66 (fun lb650 ub650 => ?_)
  refine q_pX10_60_15 cx hB hv kv ⟨by omega, by omega⟩ (by omega) (by omega) rfl dX10_copyFrom_69 (fun H locs f651 ef651 z652 hB => ?_)
  refine q_ald_n cx dX10_copyFrom_72 rfl (lv_at hl 0 rfl) ?_
  refine q_ald_n cx dX10_copyFrom_73 rfl (lv_at hl 1 rfl) ?_
  obtain ⟨x653, ex653⟩ : ∃ zz, q_is (q_z f651 p0 12) zz := ⟨_, q_isr _⟩
  refine q_gX10_63 cx hB hp0 kp0 ex653 dX10_copyFrom_74 (fun lb654 ub654 => ?_)
  refine q_pX10_63_15 cx hB hv kv ⟨by omega, by omega⟩ (by omega) (by omega) rfl dX10_copyFrom_77 (fun H locs f655 ef655 z656 hB => ?_)
  refine q_iconst cx dX10_copyFrom_80 ?_
  refine lv_istore_n (lv' := [(2, .int (q_i 0)), (0, .ref v), (1, .ref p0)]) cx.1 cx.2.1 dX10_copyFrom_81 rfl hl (by decide) rfl (fun ls hl => ?_)
  exact J82 ((Int.toNat (2147483647 - 0)) + 1) f655 0 (by decide) (by decide) (Nat.lt_succ_self _) H locs hB ls (lv_sub hl [1, 2, 0] rfl)
set_option maxHeartbeats 4000000 in
set_option maxRecDepth 100000 in
theorem g_X10_copyFrom_40 (l : Launch) (g : q_G) {K : Nat → Nat} {L : List Nat} (hN : L.Nodup) {f : Nat → va_E} (hT : q_Ty g K L f) (v : Nat) (hv : v ∈ L) (kv : K v = 16) (p0 : Nat) (hp0 : p0 ∈ L) (kp0 : K p0 = 10) : q_Ct l g K L yX10_copyFrom cX10_copyFrom 3 none 1 21 [.ref v, .ref p0] f [(16, 3, 12), (20, 0, 8), (24, 0, 4), (28, 0, 7)] (q_Pv (fun (f1 : Nat → va_E) => True)) := by
  refine q_ofb (by decide +kernel) hN hT (Nat.le_of_ble_eq_true rfl) ?_
  intro p e s m below meth c ls cx hr hlk hB hl
  have hl : lv_has ls 3 [(0, .ref v), (1, .ref p0)] := hl
  have J140 : ∀ (n : Nat) (f140 : Nat → va_E) (v140_2 : Int) (lv140_2 : 0 ≤ v140_2) (uv140_2 : v140_2 ≤ 61) (hmu : (Int.toNat (2147483647 - v140_2)) < n) (H : Heap) (locs : List Loc) (hB : q_B g K L (fun q => q ∈ L) [(16, 3, 12), (20, 0, 8), (24, 0, 4), (28, 0, 7)] f f140 s H locs) (ls : Array Slot) (hl : lv_has ls 3 [(0, .ref v), (1, .ref p0), (2, .int (q_i v140_2))]), W p l e { frames := 1, cells := 0, slots := 0, locals := 21 } s m ([.ref v, .ref p0] : List Value).toArray below meth c H locs 0 0 (MQ below (q_Q g K L [(16, 3, 12), (20, 0, 8), (24, 0, 4), (28, 0, 7)] f (q_Pv (fun (f1 : Nat → va_E) => True))) ([.ref v, .ref p0] : List Value).toArray s 0 0 (fun q => q ∈ L)) (F0 m 140 ls []) := by
    intro n
    induction n with
    | zero =>
      intro f140 v140_2 lv140_2 uv140_2 hmu
      exact absurd hmu (Nat.not_lt_zero _)
    | succ n ih140 =>
      intro f140 v140_2 lv140_2 uv140_2 hmu H locs hB ls hl
      refine q_ild_n cx dX10_copyFrom_140 rfl (lv_at hl 2 rfl) ?_
      refine q_ald_n cx dX10_copyFrom_141 rfl (lv_at hl 0 rfl) ?_
      obtain ⟨x581, ex581⟩ : ∃ zz, q_is (q_z f140 v 5) zz := ⟨_, q_isr _⟩
      refine q_gX10_42_16 cx hB hv kv ex581 dX10_copyFrom_142 (fun lb582 ub582 => ?_)
      refine q_icge (tgt := 167) cx ⟨by omega, by omega⟩ ⟨by omega, by omega⟩ dX10_copyFrom_145 (by decide) (fun c583 => ?_) (fun c583 => ?_)
      · refine q_vret cx hr hlk hB dX10_copyFrom_167 ?_
        trivial
      · refine q_ald_n cx dX10_copyFrom_148 rfl (lv_at hl 0 rfl) ?_
        refine q_ild_n cx dX10_copyFrom_149 rfl (lv_at hl 2 rfl) ?_
        refine q_cVr (As := [.int (q_i v140_2)]) (rest := []) cx hB (fun _ h => h) hN hv kv (by decide) rfl (g_X10_messageAt_4 l g hN hB.2.1 v hv kv v140_2 (by omega) (by omega)) q_cX10_81 q_dX10_messageAt (by decide) rfl rfl hl.1 rfl (Nat.le_of_ble_eq_true rfl) dX10_copyFrom_150 (fun y585 H locs f584 h586 hF hB => ?_)
        obtain ⟨rfl, hy585, ky585⟩ := h586
        refine q_ald_n cx dX10_copyFrom_153 rfl (lv_at hl 1 rfl) ?_
        refine q_ild_n cx dX10_copyFrom_154 rfl (lv_at hl 2 rfl) ?_
        refine q_cVr (As := [.int (q_i v140_2)]) (rest := [.ref y585]) cx hB (fun _ h => h) hN hp0 kp0 (by decide) rfl (g_X10_messageAt l g hN hB.2.1 p0 hp0 kp0 v140_2 (by omega) (by omega)) q_cX10_81 q_dX10_messageAt (by decide) rfl rfl hl.1 rfl (Nat.le_of_ble_eq_true rfl) dX10_copyFrom_155 (fun y588 H locs f587 h589 hF hB => ?_)
        obtain ⟨rfl, hy588, ky588⟩ := h589
        refine q_cVv (As := [.ref y588]) (rest := []) cx hB (fun _ h => h) hN hy585 ky585 (by decide) rfl (g_X4_copyFrom_40 l g hN hB.2.1 y585 hy585 ky585 y588 hy588 ky588) q_cX10_85 q_dX4_copyFrom (by decide) rfl rfl hl.1 rfl (Nat.le_of_ble_eq_true rfl) dX10_copyFrom_158 (fun H locs f590 h592 hF hB => ?_)
        refine q_iinc (lv' := [(2, .int (q_i (v140_2 + 1))), (0, .ref v), (1, .ref p0)]) cx dX10_copyFrom_161 hl (k := 2) rfl (by decide) rfl (fun ls hl => ?_)
        refine lv_goto (tgt := 140) cx.1 cx.2.1 dX10_copyFrom_164 (by decide) ?_
        exact ih140 f590 (v140_2 + 1) (by omega) (by omega) (by omega) H locs hB ls (lv_sub hl [1, 2, 0] rfl)
  have J111 : ∀ (n : Nat) (f111 : Nat → va_E) (v111_2 : Int) (lv111_2 : 0 ≤ v111_2) (uv111_2 : v111_2 ≤ 16) (hmu : (Int.toNat (2147483647 - v111_2)) < n) (H : Heap) (locs : List Loc) (hB : q_B g K L (fun q => q ∈ L) [(16, 3, 12), (20, 0, 8), (24, 0, 4), (28, 0, 7)] f f111 s H locs) (ls : Array Slot) (hl : lv_has ls 3 [(0, .ref v), (1, .ref p0), (2, .int (q_i v111_2))]), W p l e { frames := 1, cells := 0, slots := 0, locals := 21 } s m ([.ref v, .ref p0] : List Value).toArray below meth c H locs 0 0 (MQ below (q_Q g K L [(16, 3, 12), (20, 0, 8), (24, 0, 4), (28, 0, 7)] f (q_Pv (fun (f1 : Nat → va_E) => True))) ([.ref v, .ref p0] : List Value).toArray s 0 0 (fun q => q ∈ L)) (F0 m 111 ls []) := by
    intro n
    induction n with
    | zero =>
      intro f111 v111_2 lv111_2 uv111_2 hmu
      exact absurd hmu (Nat.not_lt_zero _)
    | succ n ih111 =>
      intro f111 v111_2 lv111_2 uv111_2 hmu H locs hB ls hl
      refine q_ild_n cx dX10_copyFrom_111 rfl (lv_at hl 2 rfl) ?_
      refine q_ald_n cx dX10_copyFrom_112 rfl (lv_at hl 0 rfl) ?_
      obtain ⟨x593, ex593⟩ : ∃ zz, q_is (q_z f111 v 4) zz := ⟨_, q_isr _⟩
      refine q_gX10_39_16 cx hB hv kv ex593 dX10_copyFrom_113 (fun lb594 ub594 => ?_)
      refine q_icge (tgt := 138) cx ⟨by omega, by omega⟩ ⟨by omega, by omega⟩ dX10_copyFrom_116 (by decide) (fun c595 => ?_) (fun c595 => ?_)
      · refine q_iconst cx dX10_copyFrom_138 ?_
        refine lv_istore_n (lv' := [(2, .int (q_i 0)), (0, .ref v), (1, .ref p0)]) cx.1 cx.2.1 dX10_copyFrom_139 rfl hl (by decide) rfl (fun ls hl => ?_)
        exact J140 ((Int.toNat (2147483647 - 0)) + 1) f111 0 (by decide) (by decide) (Nat.lt_succ_self _) H locs hB ls (lv_sub hl [1, 2, 0] rfl)
      · refine q_ald_n cx dX10_copyFrom_119 rfl (lv_at hl 0 rfl) ?_
        refine q_ild_n cx dX10_copyFrom_120 rfl (lv_at hl 2 rfl) ?_
        refine q_cVr (As := [.int (q_i v111_2)]) (rest := []) cx hB (fun _ h => h) hN hv kv (by decide) rfl (g_X10_linkAt_4 l g hN hB.2.1 v hv kv v111_2 (by omega) (by omega)) q_cX10_74 q_dX10_linkAt (by decide) rfl rfl hl.1 rfl (Nat.le_of_ble_eq_true rfl) dX10_copyFrom_121 (fun y597 H locs f596 h598 hF hB => ?_)
        obtain ⟨rfl, hy597, ky597⟩ := h598
        refine q_ald_n cx dX10_copyFrom_124 rfl (lv_at hl 1 rfl) ?_
        refine q_ild_n cx dX10_copyFrom_125 rfl (lv_at hl 2 rfl) ?_
        refine q_cVr (As := [.int (q_i v111_2)]) (rest := [.ref y597]) cx hB (fun _ h => h) hN hp0 kp0 (by decide) rfl (g_X10_linkAt l g hN hB.2.1 p0 hp0 kp0 v111_2 (by omega) (by omega)) q_cX10_74 q_dX10_linkAt (by decide) rfl rfl hl.1 rfl (Nat.le_of_ble_eq_true rfl) dX10_copyFrom_126 (fun y600 H locs f599 h601 hF hB => ?_)
        obtain ⟨rfl, hy600, ky600⟩ := h601
        refine q_cVv (As := [.ref y600]) (rest := []) cx hB (fun _ h => h) hN hy597 ky597 (by decide) rfl (g_X3_copyFrom_40 l g hN hB.2.1 y597 hy597 ky597 y600 hy600 ky600) q_cX10_78 q_dX3_copyFrom (by decide) rfl rfl hl.1 rfl (Nat.le_of_ble_eq_true rfl) dX10_copyFrom_129 (fun H locs f602 h604 hF hB => ?_)
        refine q_iinc (lv' := [(2, .int (q_i (v111_2 + 1))), (0, .ref v), (1, .ref p0)]) cx dX10_copyFrom_132 hl (k := 2) rfl (by decide) rfl (fun ls hl => ?_)
        refine lv_goto (tgt := 111) cx.1 cx.2.1 dX10_copyFrom_135 (by decide) ?_
        exact ih111 f602 (v111_2 + 1) (by omega) (by omega) (by omega) H locs hB ls (lv_sub hl [1, 2, 0] rfl)
  have J82 : ∀ (n : Nat) (f82 : Nat → va_E) (v82_2 : Int) (lv82_2 : 0 ≤ v82_2) (uv82_2 : v82_2 ≤ 10) (hmu : (Int.toNat (2147483647 - v82_2)) < n) (H : Heap) (locs : List Loc) (hB : q_B g K L (fun q => q ∈ L) [(16, 3, 12), (20, 0, 8), (24, 0, 4), (28, 0, 7)] f f82 s H locs) (ls : Array Slot) (hl : lv_has ls 3 [(0, .ref v), (1, .ref p0), (2, .int (q_i v82_2))]), W p l e { frames := 1, cells := 0, slots := 0, locals := 21 } s m ([.ref v, .ref p0] : List Value).toArray below meth c H locs 0 0 (MQ below (q_Q g K L [(16, 3, 12), (20, 0, 8), (24, 0, 4), (28, 0, 7)] f (q_Pv (fun (f1 : Nat → va_E) => True))) ([.ref v, .ref p0] : List Value).toArray s 0 0 (fun q => q ∈ L)) (F0 m 82 ls []) := by
    intro n
    induction n with
    | zero =>
      intro f82 v82_2 lv82_2 uv82_2 hmu
      exact absurd hmu (Nat.not_lt_zero _)
    | succ n ih82 =>
      intro f82 v82_2 lv82_2 uv82_2 hmu H locs hB ls hl
      refine q_ild_n cx dX10_copyFrom_82 rfl (lv_at hl 2 rfl) ?_
      refine q_ald_n cx dX10_copyFrom_83 rfl (lv_at hl 0 rfl) ?_
      obtain ⟨x605, ex605⟩ : ∃ zz, q_is (q_z f82 v 3) zz := ⟨_, q_isr _⟩
      refine q_gX10_35_16 cx hB hv kv ex605 dX10_copyFrom_84 (fun lb606 ub606 => ?_)
      refine q_icge (tgt := 109) cx ⟨by omega, by omega⟩ ⟨by omega, by omega⟩ dX10_copyFrom_87 (by decide) (fun c607 => ?_) (fun c607 => ?_)
      · refine q_iconst cx dX10_copyFrom_109 ?_
        refine lv_istore_n (lv' := [(2, .int (q_i 0)), (0, .ref v), (1, .ref p0)]) cx.1 cx.2.1 dX10_copyFrom_110 rfl hl (by decide) rfl (fun ls hl => ?_)
        exact J111 ((Int.toNat (2147483647 - 0)) + 1) f82 0 (by decide) (by decide) (Nat.lt_succ_self _) H locs hB ls (lv_sub hl [1, 2, 0] rfl)
      · refine q_ald_n cx dX10_copyFrom_90 rfl (lv_at hl 0 rfl) ?_
        refine q_ild_n cx dX10_copyFrom_91 rfl (lv_at hl 2 rfl) ?_
        refine q_cVr (As := [.int (q_i v82_2)]) (rest := []) cx hB (fun _ h => h) hN hv kv (by decide) rfl (g_X10_nodeAt_4 l g hN hB.2.1 v hv kv v82_2 (by omega) (by omega)) q_cX10_66 q_dX10_nodeAt (by decide) rfl rfl hl.1 rfl (Nat.le_of_ble_eq_true rfl) dX10_copyFrom_92 (fun y609 H locs f608 h610 hF hB => ?_)
        obtain ⟨rfl, hy609, ky609⟩ := h610
        refine q_ald_n cx dX10_copyFrom_95 rfl (lv_at hl 1 rfl) ?_
        refine q_ild_n cx dX10_copyFrom_96 rfl (lv_at hl 2 rfl) ?_
        refine q_cVr (As := [.int (q_i v82_2)]) (rest := [.ref y609]) cx hB (fun _ h => h) hN hp0 kp0 (by decide) rfl (g_X10_nodeAt l g hN hB.2.1 p0 hp0 kp0 v82_2 (by omega) (by omega)) q_cX10_66 q_dX10_nodeAt (by decide) rfl rfl hl.1 rfl (Nat.le_of_ble_eq_true rfl) dX10_copyFrom_97 (fun y612 H locs f611 h613 hF hB => ?_)
        obtain ⟨rfl, hy612, ky612⟩ := h613
        refine q_cVv (As := [.ref y612]) (rest := []) cx hB (fun _ h => h) hN hy609 ky609 (by decide) rfl (g_X5_copyFrom_40 l g hN hB.2.1 y609 hy609 ky609 y612 hy612 ky612) q_cX10_70 q_dX5_copyFrom (by decide) rfl rfl hl.1 rfl (Nat.le_of_ble_eq_true rfl) dX10_copyFrom_100 (fun H locs f614 h616 hF hB => ?_)
        refine q_iinc (lv' := [(2, .int (q_i (v82_2 + 1))), (0, .ref v), (1, .ref p0)]) cx dX10_copyFrom_103 hl (k := 2) rfl (by decide) rfl (fun ls hl => ?_)
        refine lv_goto (tgt := 82) cx.1 cx.2.1 dX10_copyFrom_106 (by decide) ?_
        exact ih82 f614 (v82_2 + 1) (by omega) (by omega) (by omega) H locs hB ls (lv_sub hl [1, 2, 0] rfl)
  obtain ⟨H, hH⟩ : ∃ H : Heap, H = s.heap := ⟨_, rfl⟩
  obtain ⟨locs, hlocs⟩ : ∃ z : List Loc, z = [] := ⟨_, rfl⟩
  rw [← hH, ← hlocs] at hB
  rw [← hH, ← hlocs]
  refine q_ald_n cx dX10_copyFrom_0 rfl (lv_at hl 0 rfl) ?_
  refine q_ald_n cx dX10_copyFrom_1 rfl (lv_at hl 1 rfl) ?_
  obtain ⟨x617, ex617⟩ : ∃ zz, q_is (q_z f p0 3) zz := ⟨_, q_isr _⟩
  refine q_gX10_35 cx hB hp0 kp0 ex617 dX10_copyFrom_2 (fun lb618 ub618 => ?_)
  refine q_pX10_35_16 cx hB hv kv ⟨by omega, by omega⟩ (by omega) (by omega) rfl dX10_copyFrom_5 (fun H locs f619 ef619 z620 hB => ?_)
  refine q_ald_n cx dX10_copyFrom_8 rfl (lv_at hl 0 rfl) ?_
  refine q_ald_n cx dX10_copyFrom_9 rfl (lv_at hl 1 rfl) ?_
  obtain ⟨x621, ex621⟩ : ∃ zz, q_is (q_z f619 p0 4) zz := ⟨_, q_isr _⟩
  refine q_gX10_39 cx hB hp0 kp0 ex621 dX10_copyFrom_10 (fun lb622 ub622 => ?_)
  refine q_pX10_39_16 cx hB hv kv ⟨by omega, by omega⟩ (by omega) (by omega) rfl dX10_copyFrom_13 (fun H locs f623 ef623 z624 hB => ?_)
  refine q_ald_n cx dX10_copyFrom_16 rfl (lv_at hl 0 rfl) ?_
  refine q_ald_n cx dX10_copyFrom_17 rfl (lv_at hl 1 rfl) ?_
  obtain ⟨x625, ex625⟩ : ∃ zz, q_is (q_z f623 p0 5) zz := ⟨_, q_isr _⟩
  refine q_gX10_42 cx hB hp0 kp0 ex625 dX10_copyFrom_18 (fun lb626 ub626 => ?_)
  refine q_pX10_42_16 cx hB hv kv ⟨by omega, by omega⟩ (by omega) (by omega) rfl dX10_copyFrom_21 (fun H locs f627 ef627 z628 hB => ?_)
  refine q_ald_n cx dX10_copyFrom_24 rfl (lv_at hl 0 rfl) ?_
  refine q_ald_n cx dX10_copyFrom_25 rfl (lv_at hl 1 rfl) ?_
  obtain ⟨x629, ex629⟩ : ∃ zz, q_is (q_z f627 p0 6) zz := ⟨_, q_isr _⟩
  refine q_gX10_45 cx hB hp0 kp0 ex629 dX10_copyFrom_26 (fun lb630 ub630 => ?_)
  refine q_pX10_45_16 cx hB hv kv ⟨by omega, by omega⟩ (by omega) (by omega) rfl dX10_copyFrom_29 (fun H locs f631 ef631 z632 hB => ?_)
  refine q_ald_n cx dX10_copyFrom_32 rfl (lv_at hl 0 rfl) ?_
  refine q_ald_n cx dX10_copyFrom_33 rfl (lv_at hl 1 rfl) ?_
  obtain ⟨x633, ex633⟩ : ∃ zz, q_is (q_z f631 p0 7) zz := ⟨_, q_isr _⟩
  refine q_gX10_48 cx hB hp0 kp0 ex633 dX10_copyFrom_34 (fun lb634 ub634 => ?_)
  refine q_pX10_48_16 cx hB hv kv ⟨by omega, by omega⟩ (by omega) (by omega) rfl dX10_copyFrom_37 (fun H locs f635 ef635 z636 hB => ?_)
  refine q_ald_n cx dX10_copyFrom_40 rfl (lv_at hl 0 rfl) ?_
  refine q_ald_n cx dX10_copyFrom_41 rfl (lv_at hl 1 rfl) ?_
  obtain ⟨x637, ex637⟩ : ∃ zz, q_is (q_z f635 p0 8) zz := ⟨_, q_isr _⟩
  refine q_gX10_51 cx hB hp0 kp0 ex637 dX10_copyFrom_42 (fun lb638 ub638 => ?_)
  refine q_pX10_51_16 cx hB hv kv ⟨by omega, by omega⟩ (by omega) (by omega) rfl dX10_copyFrom_45 (fun H locs f639 ef639 z640 hB => ?_)
  refine q_ald_n cx dX10_copyFrom_48 rfl (lv_at hl 0 rfl) ?_
  refine q_ald_n cx dX10_copyFrom_49 rfl (lv_at hl 1 rfl) ?_
  obtain ⟨x641, ex641⟩ : ∃ zz, q_is (q_z f639 p0 9) zz := ⟨_, q_isr _⟩
  refine q_gX10_54 cx hB hp0 kp0 ex641 dX10_copyFrom_50 (fun lb642 ub642 => ?_)
  refine q_pX10_54_16 cx hB hv kv ⟨by omega, by omega⟩ (by omega) (by omega) rfl dX10_copyFrom_53 (fun H locs f643 ef643 z644 hB => ?_)
  refine q_ald_n cx dX10_copyFrom_56 rfl (lv_at hl 0 rfl) ?_
  refine q_ald_n cx dX10_copyFrom_57 rfl (lv_at hl 1 rfl) ?_
  obtain ⟨x645, ex645⟩ : ∃ zz, q_is (q_z f643 p0 10) zz := ⟨_, q_isr _⟩
  refine q_gX10_57 cx hB hp0 kp0 ex645 dX10_copyFrom_58 (fun lb646 ub646 => ?_)
  refine q_pX10_57_16 cx hB hv kv ⟨by omega, by omega⟩ (by omega) (by omega) rfl dX10_copyFrom_61 (fun H locs f647 ef647 z648 hB => ?_)
  refine q_ald_n cx dX10_copyFrom_64 rfl (lv_at hl 0 rfl) ?_
  refine q_ald_n cx dX10_copyFrom_65 rfl (lv_at hl 1 rfl) ?_
  obtain ⟨x649, ex649⟩ : ∃ zz, q_is (q_z f647 p0 11) zz := ⟨_, q_isr _⟩
  refine q_gX10_60 cx hB hp0 kp0 ex649 dX10_copyFrom_66 (fun lb650 ub650 => ?_)
  refine q_pX10_60_16 cx hB hv kv ⟨by omega, by omega⟩ (by omega) (by omega) rfl dX10_copyFrom_69 (fun H locs f651 ef651 z652 hB => ?_)
  refine q_ald_n cx dX10_copyFrom_72 rfl (lv_at hl 0 rfl) ?_
  refine q_ald_n cx dX10_copyFrom_73 rfl (lv_at hl 1 rfl) ?_
  obtain ⟨x653, ex653⟩ : ∃ zz, q_is (q_z f651 p0 12) zz := ⟨_, q_isr _⟩
  refine q_gX10_63 cx hB hp0 kp0 ex653 dX10_copyFrom_74 (fun lb654 ub654 => ?_)
  refine q_pX10_63_16 cx hB hv kv ⟨by omega, by omega⟩ (by omega) (by omega) rfl dX10_copyFrom_77 (fun H locs f655 ef655 z656 hB => ?_)
  refine q_iconst cx dX10_copyFrom_80 ?_
  refine lv_istore_n (lv' := [(2, .int (q_i 0)), (0, .ref v), (1, .ref p0)]) cx.1 cx.2.1 dX10_copyFrom_81 rfl hl (by decide) rfl (fun ls hl => ?_)
  exact J82 ((Int.toNat (2147483647 - 0)) + 1) f655 0 (by decide) (by decide) (Nat.lt_succ_self _) H locs hB ls (lv_sub hl [1, 2, 0] rfl)
set_option maxHeartbeats 4000000 in
set_option maxRecDepth 100000 in
theorem g_X10_dayOfYear (l : Launch) (g : q_G) {K : Nat → Nat} {L : List Nat} (hN : L.Nodup) {f : Nat → va_E} (hT : q_Ty g K L f) (v : Nat) (hv : v ∈ L) (kv : K v = 10) (p0 : Int) (lp0 : (-2147483648) ≤ p0) (up0 : p0 ≤ 2147483647) : q_Ct l g K L yX10_dayOfYear cX10_dayOfYear 2 (some .int) 0 0 [.ref v, .int (q_i p0)] f [] (q_Pi (fun (z : Int) (f1 : Nat → va_E) => f = f1 ∧ (-59) ≤ z ∧ z ≤ 59)) := by
  refine q_ofb (by decide +kernel) hN hT (Nat.le_of_ble_eq_true rfl) ?_
  intro p e s m below meth c ls cx hr hlk hB hl
  have hl : lv_has ls 2 [(0, .ref v), (1, .int (q_i p0))] := hl
  have J17 : ∀ (t17_0 : Int) (lt17_0 : (-59) ≤ t17_0) (ut17_0 : t17_0 ≤ 59) (H : Heap) (locs : List Loc) (hB : q_B g K L (fun q => q ∈ L) [] f f s H locs) (ls : Array Slot) (hl : lv_has ls 2 []), W p l e { frames := 0, cells := 0, slots := 0, locals := 0 } s m ([.ref v, .int (q_i p0)] : List Value).toArray below meth c H locs 0 0 (MQ below (q_Q g K L [] f (q_Pi (fun (z : Int) (f1 : Nat → va_E) => f = f1 ∧ (-59) ≤ z ∧ z ≤ 59))) ([.ref v, .int (q_i p0)] : List Value).toArray s 0 0 (fun q => q ∈ L)) (F0 m 17 ls [.int (q_i t17_0)]) := by
    intro t17_0 lt17_0 ut17_0 H locs hB ls hl
    refine q_iret cx hr hlk hB dX10_dayOfYear_17 ⟨by omega, by omega⟩ ?_
    exact ⟨rfl, (by omega), (by omega)⟩
  obtain ⟨H, hH⟩ : ∃ H : Heap, H = s.heap := ⟨_, rfl⟩
  obtain ⟨locs, hlocs⟩ : ∃ z : List Loc, z = [] := ⟨_, rfl⟩
  rw [← hH, ← hlocs] at hB
  rw [← hH, ← hlocs]
  refine q_ald_n cx dX10_dayOfYear_0 rfl (lv_at hl 0 rfl) ?_
  obtain ⟨x6, ex6⟩ : ∃ zz, q_is (q_z f v 6) zz := ⟨_, q_isr _⟩
  refine q_gX10_45 cx hB hv kv ex6 dX10_dayOfYear_1 (fun lb7 ub7 => ?_)
  refine q_ifle (tgt := 16) cx ⟨by omega, by omega⟩ dX10_dayOfYear_4 (by decide) (fun c8 => ?_) (fun c8 => ?_)
  · exact absurd c8 (by omega)
  · refine q_ild_n cx dX10_dayOfYear_7 rfl (lv_at hl 1 rfl) ?_
    refine q_ald_n cx dX10_dayOfYear_8 rfl (lv_at hl 0 rfl) ?_
    refine q_gX10_45 cx hB hv kv ex6 dX10_dayOfYear_9 (fun lb9 ub9 => ?_)
    refine q_irem cx ⟨by omega, by omega⟩ ⟨by omega, by omega⟩ (by omega) dX10_dayOfYear_12 (fun y10 ey10 ay10 by10 ny10 => ?_)
    refine lv_goto (tgt := 17) cx.1 cx.2.1 dX10_dayOfYear_13 (by decide) ?_
    exact J17 y10 (by omega) (by omega) H locs hB ls (lv_sub hl [] rfl)
set_option maxHeartbeats 4000000 in
set_option maxRecDepth 100000 in
theorem g_X10_dayOfYear_1 (l : Launch) (g : q_G) {K : Nat → Nat} {L : List Nat} (hN : L.Nodup) {f : Nat → va_E} (hT : q_Ty g K L f) (v : Nat) (hv : v ∈ L) (kv : K v = 13) (p0 : Int) (lp0 : (-2147483648) ≤ p0) (up0 : p0 ≤ 2147483647) : q_Ct l g K L yX10_dayOfYear cX10_dayOfYear 2 (some .int) 0 0 [.ref v, .int (q_i p0)] f [] (q_Pi (fun (z : Int) (f1 : Nat → va_E) => f = f1 ∧ (-59) ≤ z ∧ z ≤ 59)) := by
  refine q_ofb (by decide +kernel) hN hT (Nat.le_of_ble_eq_true rfl) ?_
  intro p e s m below meth c ls cx hr hlk hB hl
  have hl : lv_has ls 2 [(0, .ref v), (1, .int (q_i p0))] := hl
  have J17 : ∀ (t17_0 : Int) (lt17_0 : (-59) ≤ t17_0) (ut17_0 : t17_0 ≤ 59) (H : Heap) (locs : List Loc) (hB : q_B g K L (fun q => q ∈ L) [] f f s H locs) (ls : Array Slot) (hl : lv_has ls 2 []), W p l e { frames := 0, cells := 0, slots := 0, locals := 0 } s m ([.ref v, .int (q_i p0)] : List Value).toArray below meth c H locs 0 0 (MQ below (q_Q g K L [] f (q_Pi (fun (z : Int) (f1 : Nat → va_E) => f = f1 ∧ (-59) ≤ z ∧ z ≤ 59))) ([.ref v, .int (q_i p0)] : List Value).toArray s 0 0 (fun q => q ∈ L)) (F0 m 17 ls [.int (q_i t17_0)]) := by
    intro t17_0 lt17_0 ut17_0 H locs hB ls hl
    refine q_iret cx hr hlk hB dX10_dayOfYear_17 ⟨by omega, by omega⟩ ?_
    exact ⟨rfl, (by omega), (by omega)⟩
  obtain ⟨H, hH⟩ : ∃ H : Heap, H = s.heap := ⟨_, rfl⟩
  obtain ⟨locs, hlocs⟩ : ∃ z : List Loc, z = [] := ⟨_, rfl⟩
  rw [← hH, ← hlocs] at hB
  rw [← hH, ← hlocs]
  refine q_ald_n cx dX10_dayOfYear_0 rfl (lv_at hl 0 rfl) ?_
  obtain ⟨x6, ex6⟩ : ∃ zz, q_is (q_z f v 6) zz := ⟨_, q_isr _⟩
  refine q_gX10_45_13 cx hB hv kv ex6 dX10_dayOfYear_1 (fun lb7 ub7 => ?_)
  refine q_ifle (tgt := 16) cx ⟨by omega, by omega⟩ dX10_dayOfYear_4 (by decide) (fun c8 => ?_) (fun c8 => ?_)
  · exact absurd c8 (by omega)
  · refine q_ild_n cx dX10_dayOfYear_7 rfl (lv_at hl 1 rfl) ?_
    refine q_ald_n cx dX10_dayOfYear_8 rfl (lv_at hl 0 rfl) ?_
    refine q_gX10_45_13 cx hB hv kv ex6 dX10_dayOfYear_9 (fun lb9 ub9 => ?_)
    refine q_irem cx ⟨by omega, by omega⟩ ⟨by omega, by omega⟩ (by omega) dX10_dayOfYear_12 (fun y10 ey10 ay10 by10 ny10 => ?_)
    refine lv_goto (tgt := 17) cx.1 cx.2.1 dX10_dayOfYear_13 (by decide) ?_
    exact J17 y10 (by omega) (by omega) H locs hB ls (lv_sub hl [] rfl)
set_option maxHeartbeats 4000000 in
set_option maxRecDepth 100000 in
theorem g_X10_dayOfYear_2 (l : Launch) (g : q_G) {K : Nat → Nat} {L : List Nat} (hN : L.Nodup) {f : Nat → va_E} (hT : q_Ty g K L f) (v : Nat) (hv : v ∈ L) (kv : K v = 14) (p0 : Int) (lp0 : (-2147483648) ≤ p0) (up0 : p0 ≤ 2147483647) : q_Ct l g K L yX10_dayOfYear cX10_dayOfYear 2 (some .int) 0 0 [.ref v, .int (q_i p0)] f [] (q_Pi (fun (z : Int) (f1 : Nat → va_E) => f = f1 ∧ (-59) ≤ z ∧ z ≤ 59)) := by
  refine q_ofb (by decide +kernel) hN hT (Nat.le_of_ble_eq_true rfl) ?_
  intro p e s m below meth c ls cx hr hlk hB hl
  have hl : lv_has ls 2 [(0, .ref v), (1, .int (q_i p0))] := hl
  have J17 : ∀ (t17_0 : Int) (lt17_0 : (-59) ≤ t17_0) (ut17_0 : t17_0 ≤ 59) (H : Heap) (locs : List Loc) (hB : q_B g K L (fun q => q ∈ L) [] f f s H locs) (ls : Array Slot) (hl : lv_has ls 2 []), W p l e { frames := 0, cells := 0, slots := 0, locals := 0 } s m ([.ref v, .int (q_i p0)] : List Value).toArray below meth c H locs 0 0 (MQ below (q_Q g K L [] f (q_Pi (fun (z : Int) (f1 : Nat → va_E) => f = f1 ∧ (-59) ≤ z ∧ z ≤ 59))) ([.ref v, .int (q_i p0)] : List Value).toArray s 0 0 (fun q => q ∈ L)) (F0 m 17 ls [.int (q_i t17_0)]) := by
    intro t17_0 lt17_0 ut17_0 H locs hB ls hl
    refine q_iret cx hr hlk hB dX10_dayOfYear_17 ⟨by omega, by omega⟩ ?_
    exact ⟨rfl, (by omega), (by omega)⟩
  obtain ⟨H, hH⟩ : ∃ H : Heap, H = s.heap := ⟨_, rfl⟩
  obtain ⟨locs, hlocs⟩ : ∃ z : List Loc, z = [] := ⟨_, rfl⟩
  rw [← hH, ← hlocs] at hB
  rw [← hH, ← hlocs]
  refine q_ald_n cx dX10_dayOfYear_0 rfl (lv_at hl 0 rfl) ?_
  obtain ⟨x6, ex6⟩ : ∃ zz, q_is (q_z f v 6) zz := ⟨_, q_isr _⟩
  refine q_gX10_45_14 cx hB hv kv ex6 dX10_dayOfYear_1 (fun lb7 ub7 => ?_)
  refine q_ifle (tgt := 16) cx ⟨by omega, by omega⟩ dX10_dayOfYear_4 (by decide) (fun c8 => ?_) (fun c8 => ?_)
  · exact absurd c8 (by omega)
  · refine q_ild_n cx dX10_dayOfYear_7 rfl (lv_at hl 1 rfl) ?_
    refine q_ald_n cx dX10_dayOfYear_8 rfl (lv_at hl 0 rfl) ?_
    refine q_gX10_45_14 cx hB hv kv ex6 dX10_dayOfYear_9 (fun lb9 ub9 => ?_)
    refine q_irem cx ⟨by omega, by omega⟩ ⟨by omega, by omega⟩ (by omega) dX10_dayOfYear_12 (fun y10 ey10 ay10 by10 ny10 => ?_)
    refine lv_goto (tgt := 17) cx.1 cx.2.1 dX10_dayOfYear_13 (by decide) ?_
    exact J17 y10 (by omega) (by omega) H locs hB ls (lv_sub hl [] rfl)
set_option maxHeartbeats 4000000 in
set_option maxRecDepth 100000 in
theorem g_X10_dayOfYear_3 (l : Launch) (g : q_G) {K : Nat → Nat} {L : List Nat} (hN : L.Nodup) {f : Nat → va_E} (hT : q_Ty g K L f) (v : Nat) (hv : v ∈ L) (kv : K v = 15) (p0 : Int) (lp0 : (-2147483648) ≤ p0) (up0 : p0 ≤ 2147483647) : q_Ct l g K L yX10_dayOfYear cX10_dayOfYear 2 (some .int) 0 0 [.ref v, .int (q_i p0)] f [] (q_Pi (fun (z : Int) (f1 : Nat → va_E) => f = f1 ∧ (-59) ≤ z ∧ z ≤ 59)) := by
  refine q_ofb (by decide +kernel) hN hT (Nat.le_of_ble_eq_true rfl) ?_
  intro p e s m below meth c ls cx hr hlk hB hl
  have hl : lv_has ls 2 [(0, .ref v), (1, .int (q_i p0))] := hl
  have J17 : ∀ (t17_0 : Int) (lt17_0 : (-59) ≤ t17_0) (ut17_0 : t17_0 ≤ 59) (H : Heap) (locs : List Loc) (hB : q_B g K L (fun q => q ∈ L) [] f f s H locs) (ls : Array Slot) (hl : lv_has ls 2 []), W p l e { frames := 0, cells := 0, slots := 0, locals := 0 } s m ([.ref v, .int (q_i p0)] : List Value).toArray below meth c H locs 0 0 (MQ below (q_Q g K L [] f (q_Pi (fun (z : Int) (f1 : Nat → va_E) => f = f1 ∧ (-59) ≤ z ∧ z ≤ 59))) ([.ref v, .int (q_i p0)] : List Value).toArray s 0 0 (fun q => q ∈ L)) (F0 m 17 ls [.int (q_i t17_0)]) := by
    intro t17_0 lt17_0 ut17_0 H locs hB ls hl
    refine q_iret cx hr hlk hB dX10_dayOfYear_17 ⟨by omega, by omega⟩ ?_
    exact ⟨rfl, (by omega), (by omega)⟩
  obtain ⟨H, hH⟩ : ∃ H : Heap, H = s.heap := ⟨_, rfl⟩
  obtain ⟨locs, hlocs⟩ : ∃ z : List Loc, z = [] := ⟨_, rfl⟩
  rw [← hH, ← hlocs] at hB
  rw [← hH, ← hlocs]
  refine q_ald_n cx dX10_dayOfYear_0 rfl (lv_at hl 0 rfl) ?_
  obtain ⟨x6, ex6⟩ : ∃ zz, q_is (q_z f v 6) zz := ⟨_, q_isr _⟩
  refine q_gX10_45_15 cx hB hv kv ex6 dX10_dayOfYear_1 (fun lb7 ub7 => ?_)
  refine q_ifle (tgt := 16) cx ⟨by omega, by omega⟩ dX10_dayOfYear_4 (by decide) (fun c8 => ?_) (fun c8 => ?_)
  · exact absurd c8 (by omega)
  · refine q_ild_n cx dX10_dayOfYear_7 rfl (lv_at hl 1 rfl) ?_
    refine q_ald_n cx dX10_dayOfYear_8 rfl (lv_at hl 0 rfl) ?_
    refine q_gX10_45_15 cx hB hv kv ex6 dX10_dayOfYear_9 (fun lb9 ub9 => ?_)
    refine q_irem cx ⟨by omega, by omega⟩ ⟨by omega, by omega⟩ (by omega) dX10_dayOfYear_12 (fun y10 ey10 ay10 by10 ny10 => ?_)
    refine lv_goto (tgt := 17) cx.1 cx.2.1 dX10_dayOfYear_13 (by decide) ?_
    exact J17 y10 (by omega) (by omega) H locs hB ls (lv_sub hl [] rfl)
set_option maxHeartbeats 4000000 in
set_option maxRecDepth 100000 in
theorem g_X10_dayOfYear_4 (l : Launch) (g : q_G) {K : Nat → Nat} {L : List Nat} (hN : L.Nodup) {f : Nat → va_E} (hT : q_Ty g K L f) (v : Nat) (hv : v ∈ L) (kv : K v = 16) (p0 : Int) (lp0 : (-2147483648) ≤ p0) (up0 : p0 ≤ 2147483647) : q_Ct l g K L yX10_dayOfYear cX10_dayOfYear 2 (some .int) 0 0 [.ref v, .int (q_i p0)] f [] (q_Pi (fun (z : Int) (f1 : Nat → va_E) => f = f1 ∧ (-59) ≤ z ∧ z ≤ 59)) := by
  refine q_ofb (by decide +kernel) hN hT (Nat.le_of_ble_eq_true rfl) ?_
  intro p e s m below meth c ls cx hr hlk hB hl
  have hl : lv_has ls 2 [(0, .ref v), (1, .int (q_i p0))] := hl
  have J17 : ∀ (t17_0 : Int) (lt17_0 : (-59) ≤ t17_0) (ut17_0 : t17_0 ≤ 59) (H : Heap) (locs : List Loc) (hB : q_B g K L (fun q => q ∈ L) [] f f s H locs) (ls : Array Slot) (hl : lv_has ls 2 []), W p l e { frames := 0, cells := 0, slots := 0, locals := 0 } s m ([.ref v, .int (q_i p0)] : List Value).toArray below meth c H locs 0 0 (MQ below (q_Q g K L [] f (q_Pi (fun (z : Int) (f1 : Nat → va_E) => f = f1 ∧ (-59) ≤ z ∧ z ≤ 59))) ([.ref v, .int (q_i p0)] : List Value).toArray s 0 0 (fun q => q ∈ L)) (F0 m 17 ls [.int (q_i t17_0)]) := by
    intro t17_0 lt17_0 ut17_0 H locs hB ls hl
    refine q_iret cx hr hlk hB dX10_dayOfYear_17 ⟨by omega, by omega⟩ ?_
    exact ⟨rfl, (by omega), (by omega)⟩
  obtain ⟨H, hH⟩ : ∃ H : Heap, H = s.heap := ⟨_, rfl⟩
  obtain ⟨locs, hlocs⟩ : ∃ z : List Loc, z = [] := ⟨_, rfl⟩
  rw [← hH, ← hlocs] at hB
  rw [← hH, ← hlocs]
  refine q_ald_n cx dX10_dayOfYear_0 rfl (lv_at hl 0 rfl) ?_
  obtain ⟨x6, ex6⟩ : ∃ zz, q_is (q_z f v 6) zz := ⟨_, q_isr _⟩
  refine q_gX10_45_16 cx hB hv kv ex6 dX10_dayOfYear_1 (fun lb7 ub7 => ?_)
  refine q_ifle (tgt := 16) cx ⟨by omega, by omega⟩ dX10_dayOfYear_4 (by decide) (fun c8 => ?_) (fun c8 => ?_)
  · exact absurd c8 (by omega)
  · refine q_ild_n cx dX10_dayOfYear_7 rfl (lv_at hl 1 rfl) ?_
    refine q_ald_n cx dX10_dayOfYear_8 rfl (lv_at hl 0 rfl) ?_
    refine q_gX10_45_16 cx hB hv kv ex6 dX10_dayOfYear_9 (fun lb9 ub9 => ?_)
    refine q_irem cx ⟨by omega, by omega⟩ ⟨by omega, by omega⟩ (by omega) dX10_dayOfYear_12 (fun y10 ey10 ay10 by10 ny10 => ?_)
    refine lv_goto (tgt := 17) cx.1 cx.2.1 dX10_dayOfYear_13 (by decide) ?_
    exact J17 y10 (by omega) (by omega) H locs hB ls (lv_sub hl [] rfl)
