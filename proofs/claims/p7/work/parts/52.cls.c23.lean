set_option maxHeartbeats 4000000 in
set_option maxRecDepth 100000 in
theorem g_X10_addLink (l : Launch) (g : q_G) {K : Nat → Nat} {L : List Nat} (hN : L.Nodup) {f : Nat → va_E} (hT : q_Ty g K L f) (v : Nat) (hv : v ∈ L) (kv : K v = 10) (p0 : Int) (lp0 : (-2147483648) ≤ p0) (up0 : p0 ≤ 2147483647) (p1 : Int) (lp1 : (-2147483648) ≤ p1) (up1 : p1 ≤ 2147483647) : q_Ct l g K L yX10_addLink cX10_addLink 4 none 1 21 [.ref v, .int (q_i p0), .int (q_i p1)] f [(3, 0, 4), (5, 5, 5), (10, 4, 4)] (q_Pv (fun (f1 : Nat → va_E) => True)) := by
  refine q_ofb (by decide +kernel) hN hT (Nat.le_of_ble_eq_true rfl) ?_
  intro p e s m below meth c ls cx hr hlk hB hl
  have hl : lv_has ls 4 [(0, .ref v), (1, .int (q_i p0)), (2, .int (q_i p1))] := hl
  obtain ⟨H, hH⟩ : ∃ H : Heap, H = s.heap := ⟨_, rfl⟩
  obtain ⟨locs, hlocs⟩ : ∃ z : List Loc, z = [] := ⟨_, rfl⟩
  rw [← hH, ← hlocs] at hB
  rw [← hH, ← hlocs]
  refine q_ald_n cx dX10_addLink_0 rfl (lv_at hl 0 rfl) ?_
  obtain ⟨x82, ex82⟩ : ∃ zz, q_is (q_z f v 4) zz := ⟨_, q_isr _⟩
  refine q_gX10_39 cx hB hv kv ex82 dX10_addLink_1 (fun lb83 ub83 => ?_)
  refine q_ald_n cx dX10_addLink_4 rfl (lv_at hl 0 rfl) ?_
  obtain ⟨p84, ep84⟩ : ∃ zz, q_ir (q_r f v 1) zz := ⟨_, q_irr _⟩
  refine q_gX10_19 cx hB hv kv ep84 dX10_addLink_5 (fun hb85 kb85 => ?_)
  refine q_alen (n := 16) cx hB hb85 kb85 (by decide) rfl 5 rfl rfl dX10_addLink_8 ?_
  refine q_iclt (tgt := 13) cx ⟨by omega, by omega⟩ ⟨by decide, by decide⟩ dX10_addLink_9 (by decide) (fun c86 => ?_) (fun c86 => ?_)
  · refine q_ald_n cx dX10_addLink_13 rfl (lv_at hl 0 rfl) ?_
    refine q_ald_n cx dX10_addLink_14 rfl (lv_at hl 0 rfl) ?_
    refine q_gX10_39 cx hB hv kv ex82 dX10_addLink_15 (fun lb87 ub87 => ?_)
    refine q_cVr (As := [.int (q_i x82)]) (rest := []) cx hB (fun _ h => h) hN hv kv (by decide) rfl (g_X10_linkAt l g hN hB.2.1 v hv kv x82 (by omega) (by omega)) q_cX10_74 q_dX10_linkAt (by decide) rfl rfl hl.1 rfl (Nat.le_of_ble_eq_true rfl) dX10_addLink_18 (fun y89 H locs f88 h90 hF hB => ?_)
    obtain ⟨rfl, hy89, ky89⟩ := h90
    refine lv_astore_n (lv' := [(3, .ref y89), (0, .ref v), (1, .int (q_i p0)), (2, .int (q_i p1))]) cx.1 cx.2.1 dX10_addLink_21 rfl hl (by decide) rfl (fun ls hl => ?_)
    refine q_ald_n cx dX10_addLink_22 rfl (lv_at hl 0 rfl) ?_
    refine q_ild_n cx dX10_addLink_23 rfl (lv_at hl 2 rfl) ?_
    refine q_pX10_116 cx hB hy89 ky89 ⟨by omega, by omega⟩ (by omega) (by omega) rfl dX10_addLink_24 (fun H locs f91 ef91 z92 hB => ?_)
    have z93 : q_is (q_z f91 v 4) x82 := by rw [ef91, q_setz (Or.inr (by decide))]; exact ex82
    have z94 : q_ir (q_r f91 v 1) p84 := by rw [ef91, q_setr (Or.inr (by decide))]; exact ep84
    refine q_ald_n cx dX10_addLink_27 rfl (lv_at hl 0 rfl) ?_
    refine q_ild_n cx dX10_addLink_28 rfl (lv_at hl 3 rfl) ?_
    refine q_pX10_119 cx hB hy89 ky89 ⟨by omega, by omega⟩ (by omega) (by omega) rfl dX10_addLink_29 (fun H locs f95 ef95 z96 hB => ?_)
    have z97 : q_is (q_z f95 v 4) x82 := by rw [ef95, q_setz (Or.inr (by decide))]; exact z93
    have z98 : q_is (q_z f95 y89 0) p0 := by rw [ef95, q_setz (Or.inr (by decide))]; exact z92
    have z99 : q_ir (q_r f95 v 1) p84 := by rw [ef95, q_setr (Or.inl (fun q => by rw [q, ky89] at kv; exact absurd kv (by decide)))]; exact z94
    refine q_ald_n cx dX10_addLink_32 rfl (lv_at hl 0 rfl) ?_
    refine q_iconst cx dX10_addLink_33 ?_
    refine q_pX10_122 cx hB hy89 ky89 ⟨by decide, by decide⟩ (by decide) (by decide) rfl dX10_addLink_34 (fun H locs f100 ef100 z101 hB => ?_)
    have z102 : q_is (q_z f100 v 4) x82 := by rw [ef100, q_setz (Or.inr (by decide))]; exact z97
    have z103 : q_is (q_z f100 y89 0) p0 := by rw [ef100, q_setz (Or.inr (by decide))]; exact z98
    have z104 : q_is (q_z f100 y89 1) p1 := by rw [ef100, q_setz (Or.inr (by decide))]; exact z96
    have z105 : q_ir (q_r f100 v 1) p84 := by rw [ef100, q_setr (Or.inr (by decide))]; exact z99
    refine q_ald_n cx dX10_addLink_37 rfl (lv_at hl 0 rfl) ?_
    refine q_iconst cx dX10_addLink_38 ?_
    refine q_pX10_125 cx hB hy89 ky89 ⟨by decide, by decide⟩ (by decide) (by decide) rfl dX10_addLink_39 (fun H locs f106 ef106 z107 hB => ?_)
    have z108 : q_is (q_z f106 v 4) x82 := by rw [ef106, q_setz (Or.inr (by decide))]; exact z102
    have z109 : q_is (q_z f106 y89 0) p0 := by rw [ef106, q_setz (Or.inr (by decide))]; exact z103
    have z110 : q_is (q_z f106 y89 1) p1 := by rw [ef106, q_setz (Or.inr (by decide))]; exact z104
    have z111 : q_is (q_z f106 y89 2) 0 := by rw [ef106, q_setz (Or.inr (by decide))]; exact z101
    have z112 : q_ir (q_r f106 v 1) p84 := by rw [ef106, q_setr (Or.inr (by decide))]; exact z105
    refine q_ald_n cx dX10_addLink_42 rfl (lv_at hl 0 rfl) ?_
    refine q_iconst cx dX10_addLink_43 ?_
    refine q_pX10_128 cx hB hy89 ky89 ⟨by decide, by decide⟩ (by decide) (by decide) rfl dX10_addLink_44 (fun H locs f113 ef113 z114 hB => ?_)
    have z115 : q_is (q_z f113 v 4) x82 := by rw [ef113, q_setz (Or.inl (fun q => by rw [q, ky89] at kv; exact absurd kv (by decide)))]; exact z108
    have z116 : q_is (q_z f113 y89 0) p0 := by rw [ef113, q_setz (Or.inr (by decide))]; exact z109
    have z117 : q_is (q_z f113 y89 1) p1 := by rw [ef113, q_setz (Or.inr (by decide))]; exact z110
    have z118 : q_is (q_z f113 y89 2) 0 := by rw [ef113, q_setz (Or.inr (by decide))]; exact z111
    have z119 : q_is (q_z f113 y89 3) 0 := by rw [ef113, q_setz (Or.inr (by decide))]; exact z107
    have z120 : q_ir (q_r f113 v 1) p84 := by rw [ef113, q_setr (Or.inr (by decide))]; exact z112
    refine q_ald_n cx dX10_addLink_47 rfl (lv_at hl 1 rfl) ?_
    refine q_ild_n cx dX10_addLink_48 rfl (lv_at hl 2 rfl) ?_
    refine q_cVr (As := [.int (q_i p0)]) (rest := []) cx hB (fun _ h => h) hN hv kv (by decide) rfl (g_X10_nodeAt l g hN hB.2.1 v hv kv p0 (by omega) (by omega)) q_cX10_66 q_dX10_nodeAt (by decide) rfl rfl hl.1 rfl (Nat.le_of_ble_eq_true rfl) dX10_addLink_49 (fun y122 H locs f121 h123 hF hB => ?_)
    obtain ⟨rfl, hy122, ky122⟩ := h123
    refine lv_dup cx.1 cx.2.1 dX10_addLink_52 rfl ?_
    obtain ⟨x124, ex124⟩ : ∃ zz, q_is (q_z f113 y122 5) zz := ⟨_, q_isr _⟩
    refine q_gX10_104 cx hB hy122 ky122 ex124 dX10_addLink_53 (fun lb125 ub125 => ?_)
    refine q_iconst cx dX10_addLink_56 ?_
    refine q_ild_n cx dX10_addLink_57 rfl (lv_at hl 3 rfl) ?_
    refine q_ishl cx dX10_addLink_58 (fun y126 ry126 ey126 => ?_)
    refine q_ior cx dX10_addLink_59 (fun y127 ry127 ey127 => ?_)
    refine q_pX10_104 cx hB hy122 ky122 ⟨by omega, by omega⟩ (by omega) (by omega) rfl dX10_addLink_60 (fun H locs f128 ef128 z129 hB => ?_)
    have z130 : q_is (q_z f128 v 4) x82 := by rw [ef128, q_setz (Or.inr (by decide))]; exact z115
    have z131 : q_is (q_z f128 y89 0) p0 := by rw [ef128, q_setz (Or.inr (by decide))]; exact z116
    have z132 : q_is (q_z f128 y89 1) p1 := by rw [ef128, q_setz (Or.inr (by decide))]; exact z117
    have z133 : q_is (q_z f128 y89 2) 0 := by rw [ef128, q_setz (Or.inr (by decide))]; exact z118
    have z134 : q_is (q_z f128 y89 3) 0 := by rw [ef128, q_setz (Or.inr (by decide))]; exact z119
    have z135 : q_is (q_z f128 y89 4) 0 := by rw [ef128, q_setz (Or.inr (by decide))]; exact z114
    have z136 : q_ir (q_r f128 v 1) p84 := by rw [ef128, q_setr (Or.inr (by decide))]; exact z120
    refine q_ald_n cx dX10_addLink_63 rfl (lv_at hl 1 rfl) ?_
    refine q_ild_n cx dX10_addLink_64 rfl (lv_at hl 3 rfl) ?_
    refine q_cVr (As := [.int (q_i p1)]) (rest := []) cx hB (fun _ h => h) hN hv kv (by decide) rfl (g_X10_nodeAt l g hN hB.2.1 v hv kv p1 (by omega) (by omega)) q_cX10_66 q_dX10_nodeAt (by decide) rfl rfl hl.1 rfl (Nat.le_of_ble_eq_true rfl) dX10_addLink_65 (fun y138 H locs f137 h139 hF hB => ?_)
    obtain ⟨rfl, hy138, ky138⟩ := h139
    refine lv_dup cx.1 cx.2.1 dX10_addLink_68 rfl ?_
    obtain ⟨x140, ex140⟩ : ∃ zz, q_is (q_z f128 y138 5) zz := ⟨_, q_isr _⟩
    refine q_gX10_104 cx hB hy138 ky138 ex140 dX10_addLink_69 (fun lb141 ub141 => ?_)
    refine q_iconst cx dX10_addLink_72 ?_
    refine q_ild_n cx dX10_addLink_73 rfl (lv_at hl 2 rfl) ?_
    refine q_ishl cx dX10_addLink_74 (fun y142 ry142 ey142 => ?_)
    refine q_ior cx dX10_addLink_75 (fun y143 ry143 ey143 => ?_)
    refine q_pX10_104 cx hB hy138 ky138 ⟨by omega, by omega⟩ (by omega) (by omega) rfl dX10_addLink_76 (fun H locs f144 ef144 z145 hB => ?_)
    have z146 : q_is (q_z f144 v 4) x82 := by rw [ef144, q_setz (Or.inr (by decide))]; exact z130
    have z147 : q_is (q_z f144 y89 0) p0 := by rw [ef144, q_setz (Or.inr (by decide))]; exact z131
    have z148 : q_is (q_z f144 y89 1) p1 := by rw [ef144, q_setz (Or.inr (by decide))]; exact z132
    have z149 : q_is (q_z f144 y89 2) 0 := by rw [ef144, q_setz (Or.inr (by decide))]; exact z133
    have z150 : q_is (q_z f144 y89 3) 0 := by rw [ef144, q_setz (Or.inr (by decide))]; exact z134
    have z151 : q_is (q_z f144 y89 4) 0 := by rw [ef144, q_setz (Or.inr (by decide))]; exact z135
    have z152 : q_ir (q_r f144 v 1) p84 := by rw [ef144, q_setr (Or.inr (by decide))]; exact z136
    refine q_ald_n cx dX10_addLink_79 rfl (lv_at hl 1 rfl) ?_
    refine lv_dup cx.1 cx.2.1 dX10_addLink_80 rfl ?_
    refine q_gX10_39 cx hB hv kv z146 dX10_addLink_81 (fun lb153 ub153 => ?_)
    refine q_iconst cx dX10_addLink_84 ?_
    refine q_iadd cx dX10_addLink_85 ?_
    refine q_pX10_39 cx hB hv kv ⟨by omega, by omega⟩ (by omega) (by omega) rfl dX10_addLink_86 (fun H locs f154 ef154 z155 hB => ?_)
    have z156 : q_is (q_z f154 y89 0) p0 := by rw [ef154, q_setz (Or.inr (by decide))]; exact z147
    have z157 : q_is (q_z f154 y89 1) p1 := by rw [ef154, q_setz (Or.inr (by decide))]; exact z148
    have z158 : q_is (q_z f154 y89 2) 0 := by rw [ef154, q_setz (Or.inr (by decide))]; exact z149
    have z159 : q_is (q_z f154 y89 3) 0 := by rw [ef154, q_setz (Or.inr (by decide))]; exact z150
    have z160 : q_is (q_z f154 y89 4) 0 := by rw [ef154, q_setz (Or.inl (fun q => by rw [q, kv] at ky89; exact absurd ky89 (by decide)))]; exact z151
    have z161 : q_is (q_z f154 y138 5) y143 := by rw [ef154, q_setz (Or.inr (by decide))]; exact z145
    have z162 : q_ir (q_r f154 v 1) p84 := by rw [ef154, q_setr (Or.inr (by decide))]; exact z152
    refine q_vret cx hr hlk hB dX10_addLink_89 ?_
    trivial
  · refine q_vret cx hr hlk hB dX10_addLink_12 ?_
    trivial
set_option maxHeartbeats 4000000 in
set_option maxRecDepth 100000 in
theorem g_X10_addLink_1 (l : Launch) (g : q_G) {K : Nat → Nat} {L : List Nat} (hN : L.Nodup) {f : Nat → va_E} (hT : q_Ty g K L f) (v : Nat) (hv : v ∈ L) (kv : K v = 13) (p0 : Int) (lp0 : (-2147483648) ≤ p0) (up0 : p0 ≤ 2147483647) (p1 : Int) (lp1 : (-2147483648) ≤ p1) (up1 : p1 ≤ 2147483647) : q_Ct l g K L yX10_addLink cX10_addLink 4 none 1 21 [.ref v, .int (q_i p0), .int (q_i p1)] f [(13, 4, 4), (17, 5, 5), (21, 0, 4)] (q_Pv (fun (f1 : Nat → va_E) => True)) := by
  refine q_ofb (by decide +kernel) hN hT (Nat.le_of_ble_eq_true rfl) ?_
  intro p e s m below meth c ls cx hr hlk hB hl
  have hl : lv_has ls 4 [(0, .ref v), (1, .int (q_i p0)), (2, .int (q_i p1))] := hl
  obtain ⟨H, hH⟩ : ∃ H : Heap, H = s.heap := ⟨_, rfl⟩
  obtain ⟨locs, hlocs⟩ : ∃ z : List Loc, z = [] := ⟨_, rfl⟩
  rw [← hH, ← hlocs] at hB
  rw [← hH, ← hlocs]
  refine q_ald_n cx dX10_addLink_0 rfl (lv_at hl 0 rfl) ?_
  obtain ⟨x82, ex82⟩ : ∃ zz, q_is (q_z f v 4) zz := ⟨_, q_isr _⟩
  refine q_gX10_39_13 cx hB hv kv ex82 dX10_addLink_1 (fun lb83 ub83 => ?_)
  refine q_ald_n cx dX10_addLink_4 rfl (lv_at hl 0 rfl) ?_
  obtain ⟨p84, ep84⟩ : ∃ zz, q_ir (q_r f v 1) zz := ⟨_, q_irr _⟩
  refine q_gX10_19_13 cx hB hv kv ep84 dX10_addLink_5 (fun hb85 kb85 => ?_)
  refine q_alen (n := 16) cx hB hb85 kb85 (by decide) rfl 5 rfl rfl dX10_addLink_8 ?_
  refine q_iclt (tgt := 13) cx ⟨by omega, by omega⟩ ⟨by decide, by decide⟩ dX10_addLink_9 (by decide) (fun c86 => ?_) (fun c86 => ?_)
  · refine q_ald_n cx dX10_addLink_13 rfl (lv_at hl 0 rfl) ?_
    refine q_ald_n cx dX10_addLink_14 rfl (lv_at hl 0 rfl) ?_
    refine q_gX10_39_13 cx hB hv kv ex82 dX10_addLink_15 (fun lb87 ub87 => ?_)
    refine q_cVr (As := [.int (q_i x82)]) (rest := []) cx hB (fun _ h => h) hN hv kv (by decide) rfl (g_X10_linkAt_1 l g hN hB.2.1 v hv kv x82 (by omega) (by omega)) q_cX10_74 q_dX10_linkAt (by decide) rfl rfl hl.1 rfl (Nat.le_of_ble_eq_true rfl) dX10_addLink_18 (fun y89 H locs f88 h90 hF hB => ?_)
    obtain ⟨rfl, hy89, ky89⟩ := h90
    refine lv_astore_n (lv' := [(3, .ref y89), (0, .ref v), (1, .int (q_i p0)), (2, .int (q_i p1))]) cx.1 cx.2.1 dX10_addLink_21 rfl hl (by decide) rfl (fun ls hl => ?_)
    refine q_ald_n cx dX10_addLink_22 rfl (lv_at hl 0 rfl) ?_
    refine q_ild_n cx dX10_addLink_23 rfl (lv_at hl 2 rfl) ?_
    refine q_pX10_116_21 cx hB hy89 ky89 ⟨by omega, by omega⟩ (by omega) (by omega) rfl dX10_addLink_24 (fun H locs f91 ef91 z92 hB => ?_)
    have z93 : q_is (q_z f91 v 4) x82 := by rw [ef91, q_setz (Or.inr (by decide))]; exact ex82
    have z94 : q_ir (q_r f91 v 1) p84 := by rw [ef91, q_setr (Or.inr (by decide))]; exact ep84
    refine q_ald_n cx dX10_addLink_27 rfl (lv_at hl 0 rfl) ?_
    refine q_ild_n cx dX10_addLink_28 rfl (lv_at hl 3 rfl) ?_
    refine q_pX10_119_21 cx hB hy89 ky89 ⟨by omega, by omega⟩ (by omega) (by omega) rfl dX10_addLink_29 (fun H locs f95 ef95 z96 hB => ?_)
    have z97 : q_is (q_z f95 v 4) x82 := by rw [ef95, q_setz (Or.inr (by decide))]; exact z93
    have z98 : q_is (q_z f95 y89 0) p0 := by rw [ef95, q_setz (Or.inr (by decide))]; exact z92
    have z99 : q_ir (q_r f95 v 1) p84 := by rw [ef95, q_setr (Or.inl (fun q => by rw [q, ky89] at kv; exact absurd kv (by decide)))]; exact z94
    refine q_ald_n cx dX10_addLink_32 rfl (lv_at hl 0 rfl) ?_
    refine q_iconst cx dX10_addLink_33 ?_
    refine q_pX10_122_21 cx hB hy89 ky89 ⟨by decide, by decide⟩ (by decide) (by decide) rfl dX10_addLink_34 (fun H locs f100 ef100 z101 hB => ?_)
    have z102 : q_is (q_z f100 v 4) x82 := by rw [ef100, q_setz (Or.inr (by decide))]; exact z97
    have z103 : q_is (q_z f100 y89 0) p0 := by rw [ef100, q_setz (Or.inr (by decide))]; exact z98
    have z104 : q_is (q_z f100 y89 1) p1 := by rw [ef100, q_setz (Or.inr (by decide))]; exact z96
    have z105 : q_ir (q_r f100 v 1) p84 := by rw [ef100, q_setr (Or.inr (by decide))]; exact z99
    refine q_ald_n cx dX10_addLink_37 rfl (lv_at hl 0 rfl) ?_
    refine q_iconst cx dX10_addLink_38 ?_
    refine q_pX10_125_21 cx hB hy89 ky89 ⟨by decide, by decide⟩ (by decide) (by decide) rfl dX10_addLink_39 (fun H locs f106 ef106 z107 hB => ?_)
    have z108 : q_is (q_z f106 v 4) x82 := by rw [ef106, q_setz (Or.inr (by decide))]; exact z102
    have z109 : q_is (q_z f106 y89 0) p0 := by rw [ef106, q_setz (Or.inr (by decide))]; exact z103
    have z110 : q_is (q_z f106 y89 1) p1 := by rw [ef106, q_setz (Or.inr (by decide))]; exact z104
    have z111 : q_is (q_z f106 y89 2) 0 := by rw [ef106, q_setz (Or.inr (by decide))]; exact z101
    have z112 : q_ir (q_r f106 v 1) p84 := by rw [ef106, q_setr (Or.inr (by decide))]; exact z105
    refine q_ald_n cx dX10_addLink_42 rfl (lv_at hl 0 rfl) ?_
    refine q_iconst cx dX10_addLink_43 ?_
    refine q_pX10_128_21 cx hB hy89 ky89 ⟨by decide, by decide⟩ (by decide) (by decide) rfl dX10_addLink_44 (fun H locs f113 ef113 z114 hB => ?_)
    have z115 : q_is (q_z f113 v 4) x82 := by rw [ef113, q_setz (Or.inl (fun q => by rw [q, ky89] at kv; exact absurd kv (by decide)))]; exact z108
    have z116 : q_is (q_z f113 y89 0) p0 := by rw [ef113, q_setz (Or.inr (by decide))]; exact z109
    have z117 : q_is (q_z f113 y89 1) p1 := by rw [ef113, q_setz (Or.inr (by decide))]; exact z110
    have z118 : q_is (q_z f113 y89 2) 0 := by rw [ef113, q_setz (Or.inr (by decide))]; exact z111
    have z119 : q_is (q_z f113 y89 3) 0 := by rw [ef113, q_setz (Or.inr (by decide))]; exact z107
    have z120 : q_ir (q_r f113 v 1) p84 := by rw [ef113, q_setr (Or.inr (by decide))]; exact z112
    refine q_ald_n cx dX10_addLink_47 rfl (lv_at hl 1 rfl) ?_
    refine q_ild_n cx dX10_addLink_48 rfl (lv_at hl 2 rfl) ?_
    refine q_cVr (As := [.int (q_i p0)]) (rest := []) cx hB (fun _ h => h) hN hv kv (by decide) rfl (g_X10_nodeAt_1 l g hN hB.2.1 v hv kv p0 (by omega) (by omega)) q_cX10_66 q_dX10_nodeAt (by decide) rfl rfl hl.1 rfl (Nat.le_of_ble_eq_true rfl) dX10_addLink_49 (fun y122 H locs f121 h123 hF hB => ?_)
    obtain ⟨rfl, hy122, ky122⟩ := h123
    refine lv_dup cx.1 cx.2.1 dX10_addLink_52 rfl ?_
    obtain ⟨x124, ex124⟩ : ∃ zz, q_is (q_z f113 y122 5) zz := ⟨_, q_isr _⟩
    refine q_gX10_104_17 cx hB hy122 ky122 ex124 dX10_addLink_53 (fun lb125 ub125 => ?_)
    refine q_iconst cx dX10_addLink_56 ?_
    refine q_ild_n cx dX10_addLink_57 rfl (lv_at hl 3 rfl) ?_
    refine q_ishl cx dX10_addLink_58 (fun y126 ry126 ey126 => ?_)
    refine q_ior cx dX10_addLink_59 (fun y127 ry127 ey127 => ?_)
    refine q_pX10_104_17 cx hB hy122 ky122 ⟨by omega, by omega⟩ (by omega) (by omega) rfl dX10_addLink_60 (fun H locs f128 ef128 z129 hB => ?_)
    have z130 : q_is (q_z f128 v 4) x82 := by rw [ef128, q_setz (Or.inr (by decide))]; exact z115
    have z131 : q_is (q_z f128 y89 0) p0 := by rw [ef128, q_setz (Or.inr (by decide))]; exact z116
    have z132 : q_is (q_z f128 y89 1) p1 := by rw [ef128, q_setz (Or.inr (by decide))]; exact z117
    have z133 : q_is (q_z f128 y89 2) 0 := by rw [ef128, q_setz (Or.inr (by decide))]; exact z118
    have z134 : q_is (q_z f128 y89 3) 0 := by rw [ef128, q_setz (Or.inr (by decide))]; exact z119
    have z135 : q_is (q_z f128 y89 4) 0 := by rw [ef128, q_setz (Or.inr (by decide))]; exact z114
    have z136 : q_ir (q_r f128 v 1) p84 := by rw [ef128, q_setr (Or.inr (by decide))]; exact z120
    refine q_ald_n cx dX10_addLink_63 rfl (lv_at hl 1 rfl) ?_
    refine q_ild_n cx dX10_addLink_64 rfl (lv_at hl 3 rfl) ?_
    refine q_cVr (As := [.int (q_i p1)]) (rest := []) cx hB (fun _ h => h) hN hv kv (by decide) rfl (g_X10_nodeAt_1 l g hN hB.2.1 v hv kv p1 (by omega) (by omega)) q_cX10_66 q_dX10_nodeAt (by decide) rfl rfl hl.1 rfl (Nat.le_of_ble_eq_true rfl) dX10_addLink_65 (fun y138 H locs f137 h139 hF hB => ?_)
    obtain ⟨rfl, hy138, ky138⟩ := h139
    refine lv_dup cx.1 cx.2.1 dX10_addLink_68 rfl ?_
    obtain ⟨x140, ex140⟩ : ∃ zz, q_is (q_z f128 y138 5) zz := ⟨_, q_isr _⟩
    refine q_gX10_104_17 cx hB hy138 ky138 ex140 dX10_addLink_69 (fun lb141 ub141 => ?_)
    refine q_iconst cx dX10_addLink_72 ?_
    refine q_ild_n cx dX10_addLink_73 rfl (lv_at hl 2 rfl) ?_
    refine q_ishl cx dX10_addLink_74 (fun y142 ry142 ey142 => ?_)
    refine q_ior cx dX10_addLink_75 (fun y143 ry143 ey143 => ?_)
    refine q_pX10_104_17 cx hB hy138 ky138 ⟨by omega, by omega⟩ (by omega) (by omega) rfl dX10_addLink_76 (fun H locs f144 ef144 z145 hB => ?_)
    have z146 : q_is (q_z f144 v 4) x82 := by rw [ef144, q_setz (Or.inr (by decide))]; exact z130
    have z147 : q_is (q_z f144 y89 0) p0 := by rw [ef144, q_setz (Or.inr (by decide))]; exact z131
    have z148 : q_is (q_z f144 y89 1) p1 := by rw [ef144, q_setz (Or.inr (by decide))]; exact z132
    have z149 : q_is (q_z f144 y89 2) 0 := by rw [ef144, q_setz (Or.inr (by decide))]; exact z133
    have z150 : q_is (q_z f144 y89 3) 0 := by rw [ef144, q_setz (Or.inr (by decide))]; exact z134
    have z151 : q_is (q_z f144 y89 4) 0 := by rw [ef144, q_setz (Or.inr (by decide))]; exact z135
    have z152 : q_ir (q_r f144 v 1) p84 := by rw [ef144, q_setr (Or.inr (by decide))]; exact z136
    refine q_ald_n cx dX10_addLink_79 rfl (lv_at hl 1 rfl) ?_
    refine lv_dup cx.1 cx.2.1 dX10_addLink_80 rfl ?_
    refine q_gX10_39_13 cx hB hv kv z146 dX10_addLink_81 (fun lb153 ub153 => ?_)
    refine q_iconst cx dX10_addLink_84 ?_
    refine q_iadd cx dX10_addLink_85 ?_
    refine q_pX10_39_13 cx hB hv kv ⟨by omega, by omega⟩ (by omega) (by omega) rfl dX10_addLink_86 (fun H locs f154 ef154 z155 hB => ?_)
    have z156 : q_is (q_z f154 y89 0) p0 := by rw [ef154, q_setz (Or.inr (by decide))]; exact z147
    have z157 : q_is (q_z f154 y89 1) p1 := by rw [ef154, q_setz (Or.inr (by decide))]; exact z148
    have z158 : q_is (q_z f154 y89 2) 0 := by rw [ef154, q_setz (Or.inr (by decide))]; exact z149
    have z159 : q_is (q_z f154 y89 3) 0 := by rw [ef154, q_setz (Or.inr (by decide))]; exact z150
    have z160 : q_is (q_z f154 y89 4) 0 := by rw [ef154, q_setz (Or.inl (fun q => by rw [q, kv] at ky89; exact absurd ky89 (by decide)))]; exact z151
    have z161 : q_is (q_z f154 y138 5) y143 := by rw [ef154, q_setz (Or.inr (by decide))]; exact z145
    have z162 : q_ir (q_r f154 v 1) p84 := by rw [ef154, q_setr (Or.inr (by decide))]; exact z152
    refine q_vret cx hr hlk hB dX10_addLink_89 ?_
    trivial
  · refine q_vret cx hr hlk hB dX10_addLink_12 ?_
    trivial
set_option maxHeartbeats 4000000 in
set_option maxRecDepth 100000 in
theorem g_X10_addLink_2 (l : Launch) (g : q_G) {K : Nat → Nat} {L : List Nat} (hN : L.Nodup) {f : Nat → va_E} (hT : q_Ty g K L f) (v : Nat) (hv : v ∈ L) (kv : K v = 14) (p0 : Int) (lp0 : (-2147483648) ≤ p0) (up0 : p0 ≤ 2147483647) (p1 : Int) (lp1 : (-2147483648) ≤ p1) (up1 : p1 ≤ 2147483647) : q_Ct l g K L yX10_addLink cX10_addLink 4 none 1 21 [.ref v, .int (q_i p0), .int (q_i p1)] f [(14, 4, 4), (18, 5, 5), (22, 0, 4)] (q_Pv (fun (f1 : Nat → va_E) => True)) := by
  refine q_ofb (by decide +kernel) hN hT (Nat.le_of_ble_eq_true rfl) ?_
  intro p e s m below meth c ls cx hr hlk hB hl
  have hl : lv_has ls 4 [(0, .ref v), (1, .int (q_i p0)), (2, .int (q_i p1))] := hl
  obtain ⟨H, hH⟩ : ∃ H : Heap, H = s.heap := ⟨_, rfl⟩
  obtain ⟨locs, hlocs⟩ : ∃ z : List Loc, z = [] := ⟨_, rfl⟩
  rw [← hH, ← hlocs] at hB
  rw [← hH, ← hlocs]
  refine q_ald_n cx dX10_addLink_0 rfl (lv_at hl 0 rfl) ?_
  obtain ⟨x82, ex82⟩ : ∃ zz, q_is (q_z f v 4) zz := ⟨_, q_isr _⟩
  refine q_gX10_39_14 cx hB hv kv ex82 dX10_addLink_1 (fun lb83 ub83 => ?_)
  refine q_ald_n cx dX10_addLink_4 rfl (lv_at hl 0 rfl) ?_
  obtain ⟨p84, ep84⟩ : ∃ zz, q_ir (q_r f v 1) zz := ⟨_, q_irr _⟩
  refine q_gX10_19_14 cx hB hv kv ep84 dX10_addLink_5 (fun hb85 kb85 => ?_)
  refine q_alen (n := 16) cx hB hb85 kb85 (by decide) rfl 5 rfl rfl dX10_addLink_8 ?_
  refine q_iclt (tgt := 13) cx ⟨by omega, by omega⟩ ⟨by decide, by decide⟩ dX10_addLink_9 (by decide) (fun c86 => ?_) (fun c86 => ?_)
  · refine q_ald_n cx dX10_addLink_13 rfl (lv_at hl 0 rfl) ?_
    refine q_ald_n cx dX10_addLink_14 rfl (lv_at hl 0 rfl) ?_
    refine q_gX10_39_14 cx hB hv kv ex82 dX10_addLink_15 (fun lb87 ub87 => ?_)
    refine q_cVr (As := [.int (q_i x82)]) (rest := []) cx hB (fun _ h => h) hN hv kv (by decide) rfl (g_X10_linkAt_2 l g hN hB.2.1 v hv kv x82 (by omega) (by omega)) q_cX10_74 q_dX10_linkAt (by decide) rfl rfl hl.1 rfl (Nat.le_of_ble_eq_true rfl) dX10_addLink_18 (fun y89 H locs f88 h90 hF hB => ?_)
    obtain ⟨rfl, hy89, ky89⟩ := h90
    refine lv_astore_n (lv' := [(3, .ref y89), (0, .ref v), (1, .int (q_i p0)), (2, .int (q_i p1))]) cx.1 cx.2.1 dX10_addLink_21 rfl hl (by decide) rfl (fun ls hl => ?_)
    refine q_ald_n cx dX10_addLink_22 rfl (lv_at hl 0 rfl) ?_
    refine q_ild_n cx dX10_addLink_23 rfl (lv_at hl 2 rfl) ?_
    refine q_pX10_116_22 cx hB hy89 ky89 ⟨by omega, by omega⟩ (by omega) (by omega) rfl dX10_addLink_24 (fun H locs f91 ef91 z92 hB => ?_)
    have z93 : q_is (q_z f91 v 4) x82 := by rw [ef91, q_setz (Or.inr (by decide))]; exact ex82
    have z94 : q_ir (q_r f91 v 1) p84 := by rw [ef91, q_setr (Or.inr (by decide))]; exact ep84
    refine q_ald_n cx dX10_addLink_27 rfl (lv_at hl 0 rfl) ?_
    refine q_ild_n cx dX10_addLink_28 rfl (lv_at hl 3 rfl) ?_
    refine q_pX10_119_22 cx hB hy89 ky89 ⟨by omega, by omega⟩ (by omega) (by omega) rfl dX10_addLink_29 (fun H locs f95 ef95 z96 hB => ?_)
    have z97 : q_is (q_z f95 v 4) x82 := by rw [ef95, q_setz (Or.inr (by decide))]; exact z93
    have z98 : q_is (q_z f95 y89 0) p0 := by rw [ef95, q_setz (Or.inr (by decide))]; exact z92
    have z99 : q_ir (q_r f95 v 1) p84 := by rw [ef95, q_setr (Or.inl (fun q => by rw [q, ky89] at kv; exact absurd kv (by decide)))]; exact z94
    refine q_ald_n cx dX10_addLink_32 rfl (lv_at hl 0 rfl) ?_
    refine q_iconst cx dX10_addLink_33 ?_
    refine q_pX10_122_22 cx hB hy89 ky89 ⟨by decide, by decide⟩ (by decide) (by decide) rfl dX10_addLink_34 (fun H locs f100 ef100 z101 hB => ?_)
    have z102 : q_is (q_z f100 v 4) x82 := by rw [ef100, q_setz (Or.inr (by decide))]; exact z97
    have z103 : q_is (q_z f100 y89 0) p0 := by rw [ef100, q_setz (Or.inr (by decide))]; exact z98
    have z104 : q_is (q_z f100 y89 1) p1 := by rw [ef100, q_setz (Or.inr (by decide))]; exact z96
    have z105 : q_ir (q_r f100 v 1) p84 := by rw [ef100, q_setr (Or.inr (by decide))]; exact z99
    refine q_ald_n cx dX10_addLink_37 rfl (lv_at hl 0 rfl) ?_
    refine q_iconst cx dX10_addLink_38 ?_
    refine q_pX10_125_22 cx hB hy89 ky89 ⟨by decide, by decide⟩ (by decide) (by decide) rfl dX10_addLink_39 (fun H locs f106 ef106 z107 hB => ?_)
    have z108 : q_is (q_z f106 v 4) x82 := by rw [ef106, q_setz (Or.inr (by decide))]; exact z102
    have z109 : q_is (q_z f106 y89 0) p0 := by rw [ef106, q_setz (Or.inr (by decide))]; exact z103
    have z110 : q_is (q_z f106 y89 1) p1 := by rw [ef106, q_setz (Or.inr (by decide))]; exact z104
    have z111 : q_is (q_z f106 y89 2) 0 := by rw [ef106, q_setz (Or.inr (by decide))]; exact z101
    have z112 : q_ir (q_r f106 v 1) p84 := by rw [ef106, q_setr (Or.inr (by decide))]; exact z105
    refine q_ald_n cx dX10_addLink_42 rfl (lv_at hl 0 rfl) ?_
    refine q_iconst cx dX10_addLink_43 ?_
    refine q_pX10_128_22 cx hB hy89 ky89 ⟨by decide, by decide⟩ (by decide) (by decide) rfl dX10_addLink_44 (fun H locs f113 ef113 z114 hB => ?_)
    have z115 : q_is (q_z f113 v 4) x82 := by rw [ef113, q_setz (Or.inl (fun q => by rw [q, ky89] at kv; exact absurd kv (by decide)))]; exact z108
    have z116 : q_is (q_z f113 y89 0) p0 := by rw [ef113, q_setz (Or.inr (by decide))]; exact z109
    have z117 : q_is (q_z f113 y89 1) p1 := by rw [ef113, q_setz (Or.inr (by decide))]; exact z110
    have z118 : q_is (q_z f113 y89 2) 0 := by rw [ef113, q_setz (Or.inr (by decide))]; exact z111
    have z119 : q_is (q_z f113 y89 3) 0 := by rw [ef113, q_setz (Or.inr (by decide))]; exact z107
    have z120 : q_ir (q_r f113 v 1) p84 := by rw [ef113, q_setr (Or.inr (by decide))]; exact z112
    refine q_ald_n cx dX10_addLink_47 rfl (lv_at hl 1 rfl) ?_
    refine q_ild_n cx dX10_addLink_48 rfl (lv_at hl 2 rfl) ?_
    refine q_cVr (As := [.int (q_i p0)]) (rest := []) cx hB (fun _ h => h) hN hv kv (by decide) rfl (g_X10_nodeAt_2 l g hN hB.2.1 v hv kv p0 (by omega) (by omega)) q_cX10_66 q_dX10_nodeAt (by decide) rfl rfl hl.1 rfl (Nat.le_of_ble_eq_true rfl) dX10_addLink_49 (fun y122 H locs f121 h123 hF hB => ?_)
    obtain ⟨rfl, hy122, ky122⟩ := h123
    refine lv_dup cx.1 cx.2.1 dX10_addLink_52 rfl ?_
    obtain ⟨x124, ex124⟩ : ∃ zz, q_is (q_z f113 y122 5) zz := ⟨_, q_isr _⟩
    refine q_gX10_104_18 cx hB hy122 ky122 ex124 dX10_addLink_53 (fun lb125 ub125 => ?_)
    refine q_iconst cx dX10_addLink_56 ?_
    refine q_ild_n cx dX10_addLink_57 rfl (lv_at hl 3 rfl) ?_
    refine q_ishl cx dX10_addLink_58 (fun y126 ry126 ey126 => ?_)
    refine q_ior cx dX10_addLink_59 (fun y127 ry127 ey127 => ?_)
    refine q_pX10_104_18 cx hB hy122 ky122 ⟨by omega, by omega⟩ (by omega) (by omega) rfl dX10_addLink_60 (fun H locs f128 ef128 z129 hB => ?_)
    have z130 : q_is (q_z f128 v 4) x82 := by rw [ef128, q_setz (Or.inr (by decide))]; exact z115
    have z131 : q_is (q_z f128 y89 0) p0 := by rw [ef128, q_setz (Or.inr (by decide))]; exact z116
    have z132 : q_is (q_z f128 y89 1) p1 := by rw [ef128, q_setz (Or.inr (by decide))]; exact z117
    have z133 : q_is (q_z f128 y89 2) 0 := by rw [ef128, q_setz (Or.inr (by decide))]; exact z118
    have z134 : q_is (q_z f128 y89 3) 0 := by rw [ef128, q_setz (Or.inr (by decide))]; exact z119
    have z135 : q_is (q_z f128 y89 4) 0 := by rw [ef128, q_setz (Or.inr (by decide))]; exact z114
    have z136 : q_ir (q_r f128 v 1) p84 := by rw [ef128, q_setr (Or.inr (by decide))]; exact z120
    refine q_ald_n cx dX10_addLink_63 rfl (lv_at hl 1 rfl) ?_
    refine q_ild_n cx dX10_addLink_64 rfl (lv_at hl 3 rfl) ?_
    refine q_cVr (As := [.int (q_i p1)]) (rest := []) cx hB (fun _ h => h) hN hv kv (by decide) rfl (g_X10_nodeAt_2 l g hN hB.2.1 v hv kv p1 (by omega) (by omega)) q_cX10_66 q_dX10_nodeAt (by decide) rfl rfl hl.1 rfl (Nat.le_of_ble_eq_true rfl) dX10_addLink_65 (fun y138 H locs f137 h139 hF hB => ?_)
    obtain ⟨rfl, hy138, ky138⟩ := h139
    refine lv_dup cx.1 cx.2.1 dX10_addLink_68 rfl ?_
    obtain ⟨x140, ex140⟩ : ∃ zz, q_is (q_z f128 y138 5) zz := ⟨_, q_isr _⟩
    refine q_gX10_104_18 cx hB hy138 ky138 ex140 dX10_addLink_69 (fun lb141 ub141 => ?_)
    refine q_iconst cx dX10_addLink_72 ?_
    refine q_ild_n cx dX10_addLink_73 rfl (lv_at hl 2 rfl) ?_
    refine q_ishl cx dX10_addLink_74 (fun y142 ry142 ey142 => ?_)
    refine q_ior cx dX10_addLink_75 (fun y143 ry143 ey143 => ?_)
    refine q_pX10_104_18 cx hB hy138 ky138 ⟨by omega, by omega⟩ (by omega) (by omega) rfl dX10_addLink_76 (fun H locs f144 ef144 z145 hB => ?_)
    have z146 : q_is (q_z f144 v 4) x82 := by rw [ef144, q_setz (Or.inr (by decide))]; exact z130
    have z147 : q_is (q_z f144 y89 0) p0 := by rw [ef144, q_setz (Or.inr (by decide))]; exact z131
    have z148 : q_is (q_z f144 y89 1) p1 := by rw [ef144, q_setz (Or.inr (by decide))]; exact z132
    have z149 : q_is (q_z f144 y89 2) 0 := by rw [ef144, q_setz (Or.inr (by decide))]; exact z133
    have z150 : q_is (q_z f144 y89 3) 0 := by rw [ef144, q_setz (Or.inr (by decide))]; exact z134
    have z151 : q_is (q_z f144 y89 4) 0 := by rw [ef144, q_setz (Or.inr (by decide))]; exact z135
    have z152 : q_ir (q_r f144 v 1) p84 := by rw [ef144, q_setr (Or.inr (by decide))]; exact z136
    refine q_ald_n cx dX10_addLink_79 rfl (lv_at hl 1 rfl) ?_
    refine lv_dup cx.1 cx.2.1 dX10_addLink_80 rfl ?_
    refine q_gX10_39_14 cx hB hv kv z146 dX10_addLink_81 (fun lb153 ub153 => ?_)
    refine q_iconst cx dX10_addLink_84 ?_
    refine q_iadd cx dX10_addLink_85 ?_
    refine q_pX10_39_14 cx hB hv kv ⟨by omega, by omega⟩ (by omega) (by omega) rfl dX10_addLink_86 (fun H locs f154 ef154 z155 hB => ?_)
    have z156 : q_is (q_z f154 y89 0) p0 := by rw [ef154, q_setz (Or.inr (by decide))]; exact z147
    have z157 : q_is (q_z f154 y89 1) p1 := by rw [ef154, q_setz (Or.inr (by decide))]; exact z148
    have z158 : q_is (q_z f154 y89 2) 0 := by rw [ef154, q_setz (Or.inr (by decide))]; exact z149
    have z159 : q_is (q_z f154 y89 3) 0 := by rw [ef154, q_setz (Or.inr (by decide))]; exact z150
    have z160 : q_is (q_z f154 y89 4) 0 := by rw [ef154, q_setz (Or.inl (fun q => by rw [q, kv] at ky89; exact absurd ky89 (by decide)))]; exact z151
    have z161 : q_is (q_z f154 y138 5) y143 := by rw [ef154, q_setz (Or.inr (by decide))]; exact z145
    have z162 : q_ir (q_r f154 v 1) p84 := by rw [ef154, q_setr (Or.inr (by decide))]; exact z152
    refine q_vret cx hr hlk hB dX10_addLink_89 ?_
    trivial
  · refine q_vret cx hr hlk hB dX10_addLink_12 ?_
    trivial
set_option maxHeartbeats 4000000 in
set_option maxRecDepth 100000 in
theorem g_X10_addLink_3 (l : Launch) (g : q_G) {K : Nat → Nat} {L : List Nat} (hN : L.Nodup) {f : Nat → va_E} (hT : q_Ty g K L f) (v : Nat) (hv : v ∈ L) (kv : K v = 15) (p0 : Int) (lp0 : (-2147483648) ≤ p0) (up0 : p0 ≤ 2147483647) (p1 : Int) (lp1 : (-2147483648) ≤ p1) (up1 : p1 ≤ 2147483647) : q_Ct l g K L yX10_addLink cX10_addLink 4 none 1 21 [.ref v, .int (q_i p0), .int (q_i p1)] f [(15, 4, 4), (19, 5, 5), (23, 0, 4)] (q_Pv (fun (f1 : Nat → va_E) => True)) := by
  refine q_ofb (by decide +kernel) hN hT (Nat.le_of_ble_eq_true rfl) ?_
  intro p e s m below meth c ls cx hr hlk hB hl
  have hl : lv_has ls 4 [(0, .ref v), (1, .int (q_i p0)), (2, .int (q_i p1))] := hl
  obtain ⟨H, hH⟩ : ∃ H : Heap, H = s.heap := ⟨_, rfl⟩
  obtain ⟨locs, hlocs⟩ : ∃ z : List Loc, z = [] := ⟨_, rfl⟩
  rw [← hH, ← hlocs] at hB
  rw [← hH, ← hlocs]
  refine q_ald_n cx dX10_addLink_0 rfl (lv_at hl 0 rfl) ?_
  obtain ⟨x82, ex82⟩ : ∃ zz, q_is (q_z f v 4) zz := ⟨_, q_isr _⟩
  refine q_gX10_39_15 cx hB hv kv ex82 dX10_addLink_1 (fun lb83 ub83 => ?_)
  refine q_ald_n cx dX10_addLink_4 rfl (lv_at hl 0 rfl) ?_
  obtain ⟨p84, ep84⟩ : ∃ zz, q_ir (q_r f v 1) zz := ⟨_, q_irr _⟩
  refine q_gX10_19_15 cx hB hv kv ep84 dX10_addLink_5 (fun hb85 kb85 => ?_)
  refine q_alen (n := 16) cx hB hb85 kb85 (by decide) rfl 5 rfl rfl dX10_addLink_8 ?_
  refine q_iclt (tgt := 13) cx ⟨by omega, by omega⟩ ⟨by decide, by decide⟩ dX10_addLink_9 (by decide) (fun c86 => ?_) (fun c86 => ?_)
  · refine q_ald_n cx dX10_addLink_13 rfl (lv_at hl 0 rfl) ?_
    refine q_ald_n cx dX10_addLink_14 rfl (lv_at hl 0 rfl) ?_
    refine q_gX10_39_15 cx hB hv kv ex82 dX10_addLink_15 (fun lb87 ub87 => ?_)
    refine q_cVr (As := [.int (q_i x82)]) (rest := []) cx hB (fun _ h => h) hN hv kv (by decide) rfl (g_X10_linkAt_3 l g hN hB.2.1 v hv kv x82 (by omega) (by omega)) q_cX10_74 q_dX10_linkAt (by decide) rfl rfl hl.1 rfl (Nat.le_of_ble_eq_true rfl) dX10_addLink_18 (fun y89 H locs f88 h90 hF hB => ?_)
    obtain ⟨rfl, hy89, ky89⟩ := h90
    refine lv_astore_n (lv' := [(3, .ref y89), (0, .ref v), (1, .int (q_i p0)), (2, .int (q_i p1))]) cx.1 cx.2.1 dX10_addLink_21 rfl hl (by decide) rfl (fun ls hl => ?_)
    refine q_ald_n cx dX10_addLink_22 rfl (lv_at hl 0 rfl) ?_
    refine q_ild_n cx dX10_addLink_23 rfl (lv_at hl 2 rfl) ?_
    refine q_pX10_116_23 cx hB hy89 ky89 ⟨by omega, by omega⟩ (by omega) (by omega) rfl dX10_addLink_24 (fun H locs f91 ef91 z92 hB => ?_)
    have z93 : q_is (q_z f91 v 4) x82 := by rw [ef91, q_setz (Or.inr (by decide))]; exact ex82
    have z94 : q_ir (q_r f91 v 1) p84 := by rw [ef91, q_setr (Or.inr (by decide))]; exact ep84
    refine q_ald_n cx dX10_addLink_27 rfl (lv_at hl 0 rfl) ?_
    refine q_ild_n cx dX10_addLink_28 rfl (lv_at hl 3 rfl) ?_
    refine q_pX10_119_23 cx hB hy89 ky89 ⟨by omega, by omega⟩ (by omega) (by omega) rfl dX10_addLink_29 (fun H locs f95 ef95 z96 hB => ?_)
    have z97 : q_is (q_z f95 v 4) x82 := by rw [ef95, q_setz (Or.inr (by decide))]; exact z93
    have z98 : q_is (q_z f95 y89 0) p0 := by rw [ef95, q_setz (Or.inr (by decide))]; exact z92
    have z99 : q_ir (q_r f95 v 1) p84 := by rw [ef95, q_setr (Or.inl (fun q => by rw [q, ky89] at kv; exact absurd kv (by decide)))]; exact z94
    refine q_ald_n cx dX10_addLink_32 rfl (lv_at hl 0 rfl) ?_
    refine q_iconst cx dX10_addLink_33 ?_
    refine q_pX10_122_23 cx hB hy89 ky89 ⟨by decide, by decide⟩ (by decide) (by decide) rfl dX10_addLink_34 (fun H locs f100 ef100 z101 hB => ?_)
    have z102 : q_is (q_z f100 v 4) x82 := by rw [ef100, q_setz (Or.inr (by decide))]; exact z97
    have z103 : q_is (q_z f100 y89 0) p0 := by rw [ef100, q_setz (Or.inr (by decide))]; exact z98
    have z104 : q_is (q_z f100 y89 1) p1 := by rw [ef100, q_setz (Or.inr (by decide))]; exact z96
    have z105 : q_ir (q_r f100 v 1) p84 := by rw [ef100, q_setr (Or.inr (by decide))]; exact z99
    refine q_ald_n cx dX10_addLink_37 rfl (lv_at hl 0 rfl) ?_
    refine q_iconst cx dX10_addLink_38 ?_
    refine q_pX10_125_23 cx hB hy89 ky89 ⟨by decide, by decide⟩ (by decide) (by decide) rfl dX10_addLink_39 (fun H locs f106 ef106 z107 hB => ?_)
    have z108 : q_is (q_z f106 v 4) x82 := by rw [ef106, q_setz (Or.inr (by decide))]; exact z102
    have z109 : q_is (q_z f106 y89 0) p0 := by rw [ef106, q_setz (Or.inr (by decide))]; exact z103
    have z110 : q_is (q_z f106 y89 1) p1 := by rw [ef106, q_setz (Or.inr (by decide))]; exact z104
    have z111 : q_is (q_z f106 y89 2) 0 := by rw [ef106, q_setz (Or.inr (by decide))]; exact z101
    have z112 : q_ir (q_r f106 v 1) p84 := by rw [ef106, q_setr (Or.inr (by decide))]; exact z105
    refine q_ald_n cx dX10_addLink_42 rfl (lv_at hl 0 rfl) ?_
    refine q_iconst cx dX10_addLink_43 ?_
    refine q_pX10_128_23 cx hB hy89 ky89 ⟨by decide, by decide⟩ (by decide) (by decide) rfl dX10_addLink_44 (fun H locs f113 ef113 z114 hB => ?_)
    have z115 : q_is (q_z f113 v 4) x82 := by rw [ef113, q_setz (Or.inl (fun q => by rw [q, ky89] at kv; exact absurd kv (by decide)))]; exact z108
    have z116 : q_is (q_z f113 y89 0) p0 := by rw [ef113, q_setz (Or.inr (by decide))]; exact z109
    have z117 : q_is (q_z f113 y89 1) p1 := by rw [ef113, q_setz (Or.inr (by decide))]; exact z110
    have z118 : q_is (q_z f113 y89 2) 0 := by rw [ef113, q_setz (Or.inr (by decide))]; exact z111
    have z119 : q_is (q_z f113 y89 3) 0 := by rw [ef113, q_setz (Or.inr (by decide))]; exact z107
    have z120 : q_ir (q_r f113 v 1) p84 := by rw [ef113, q_setr (Or.inr (by decide))]; exact z112
    refine q_ald_n cx dX10_addLink_47 rfl (lv_at hl 1 rfl) ?_
    refine q_ild_n cx dX10_addLink_48 rfl (lv_at hl 2 rfl) ?_
    refine q_cVr (As := [.int (q_i p0)]) (rest := []) cx hB (fun _ h => h) hN hv kv (by decide) rfl (g_X10_nodeAt_3 l g hN hB.2.1 v hv kv p0 (by omega) (by omega)) q_cX10_66 q_dX10_nodeAt (by decide) rfl rfl hl.1 rfl (Nat.le_of_ble_eq_true rfl) dX10_addLink_49 (fun y122 H locs f121 h123 hF hB => ?_)
    obtain ⟨rfl, hy122, ky122⟩ := h123
    refine lv_dup cx.1 cx.2.1 dX10_addLink_52 rfl ?_
    obtain ⟨x124, ex124⟩ : ∃ zz, q_is (q_z f113 y122 5) zz := ⟨_, q_isr _⟩
    refine q_gX10_104_19 cx hB hy122 ky122 ex124 dX10_addLink_53 (fun lb125 ub125 => ?_)
    refine q_iconst cx dX10_addLink_56 ?_
    refine q_ild_n cx dX10_addLink_57 rfl (lv_at hl 3 rfl) ?_
    refine q_ishl cx dX10_addLink_58 (fun y126 ry126 ey126 => ?_)
    refine q_ior cx dX10_addLink_59 (fun y127 ry127 ey127 => ?_)
    refine q_pX10_104_19 cx hB hy122 ky122 ⟨by omega, by omega⟩ (by omega) (by omega) rfl dX10_addLink_60 (fun H locs f128 ef128 z129 hB => ?_)
    have z130 : q_is (q_z f128 v 4) x82 := by rw [ef128, q_setz (Or.inr (by decide))]; exact z115
    have z131 : q_is (q_z f128 y89 0) p0 := by rw [ef128, q_setz (Or.inr (by decide))]; exact z116
    have z132 : q_is (q_z f128 y89 1) p1 := by rw [ef128, q_setz (Or.inr (by decide))]; exact z117
    have z133 : q_is (q_z f128 y89 2) 0 := by rw [ef128, q_setz (Or.inr (by decide))]; exact z118
    have z134 : q_is (q_z f128 y89 3) 0 := by rw [ef128, q_setz (Or.inr (by decide))]; exact z119
    have z135 : q_is (q_z f128 y89 4) 0 := by rw [ef128, q_setz (Or.inr (by decide))]; exact z114
    have z136 : q_ir (q_r f128 v 1) p84 := by rw [ef128, q_setr (Or.inr (by decide))]; exact z120
    refine q_ald_n cx dX10_addLink_63 rfl (lv_at hl 1 rfl) ?_
    refine q_ild_n cx dX10_addLink_64 rfl (lv_at hl 3 rfl) ?_
    refine q_cVr (As := [.int (q_i p1)]) (rest := []) cx hB (fun _ h => h) hN hv kv (by decide) rfl (g_X10_nodeAt_3 l g hN hB.2.1 v hv kv p1 (by omega) (by omega)) q_cX10_66 q_dX10_nodeAt (by decide) rfl rfl hl.1 rfl (Nat.le_of_ble_eq_true rfl) dX10_addLink_65 (fun y138 H locs f137 h139 hF hB => ?_)
    obtain ⟨rfl, hy138, ky138⟩ := h139
    refine lv_dup cx.1 cx.2.1 dX10_addLink_68 rfl ?_
    obtain ⟨x140, ex140⟩ : ∃ zz, q_is (q_z f128 y138 5) zz := ⟨_, q_isr _⟩
    refine q_gX10_104_19 cx hB hy138 ky138 ex140 dX10_addLink_69 (fun lb141 ub141 => ?_)
    refine q_iconst cx dX10_addLink_72 ?_
    refine q_ild_n cx dX10_addLink_73 rfl (lv_at hl 2 rfl) ?_
    refine q_ishl cx dX10_addLink_74 (fun y142 ry142 ey142 => ?_)
    refine q_ior cx dX10_addLink_75 (fun y143 ry143 ey143 => ?_)
    refine q_pX10_104_19 cx hB hy138 ky138 ⟨by omega, by omega⟩ (by omega) (by omega) rfl dX10_addLink_76 (fun H locs f144 ef144 z145 hB => ?_)
    have z146 : q_is (q_z f144 v 4) x82 := by rw [ef144, q_setz (Or.inr (by decide))]; exact z130
    have z147 : q_is (q_z f144 y89 0) p0 := by rw [ef144, q_setz (Or.inr (by decide))]; exact z131
    have z148 : q_is (q_z f144 y89 1) p1 := by rw [ef144, q_setz (Or.inr (by decide))]; exact z132
    have z149 : q_is (q_z f144 y89 2) 0 := by rw [ef144, q_setz (Or.inr (by decide))]; exact z133
    have z150 : q_is (q_z f144 y89 3) 0 := by rw [ef144, q_setz (Or.inr (by decide))]; exact z134
    have z151 : q_is (q_z f144 y89 4) 0 := by rw [ef144, q_setz (Or.inr (by decide))]; exact z135
    have z152 : q_ir (q_r f144 v 1) p84 := by rw [ef144, q_setr (Or.inr (by decide))]; exact z136
    refine q_ald_n cx dX10_addLink_79 rfl (lv_at hl 1 rfl) ?_
    refine lv_dup cx.1 cx.2.1 dX10_addLink_80 rfl ?_
    refine q_gX10_39_15 cx hB hv kv z146 dX10_addLink_81 (fun lb153 ub153 => ?_)
    refine q_iconst cx dX10_addLink_84 ?_
    refine q_iadd cx dX10_addLink_85 ?_
    refine q_pX10_39_15 cx hB hv kv ⟨by omega, by omega⟩ (by omega) (by omega) rfl dX10_addLink_86 (fun H locs f154 ef154 z155 hB => ?_)
    have z156 : q_is (q_z f154 y89 0) p0 := by rw [ef154, q_setz (Or.inr (by decide))]; exact z147
    have z157 : q_is (q_z f154 y89 1) p1 := by rw [ef154, q_setz (Or.inr (by decide))]; exact z148
    have z158 : q_is (q_z f154 y89 2) 0 := by rw [ef154, q_setz (Or.inr (by decide))]; exact z149
    have z159 : q_is (q_z f154 y89 3) 0 := by rw [ef154, q_setz (Or.inr (by decide))]; exact z150
    have z160 : q_is (q_z f154 y89 4) 0 := by rw [ef154, q_setz (Or.inl (fun q => by rw [q, kv] at ky89; exact absurd ky89 (by decide)))]; exact z151
    have z161 : q_is (q_z f154 y138 5) y143 := by rw [ef154, q_setz (Or.inr (by decide))]; exact z145
    have z162 : q_ir (q_r f154 v 1) p84 := by rw [ef154, q_setr (Or.inr (by decide))]; exact z152
    refine q_vret cx hr hlk hB dX10_addLink_89 ?_
    trivial
  · refine q_vret cx hr hlk hB dX10_addLink_12 ?_
    trivial
set_option maxHeartbeats 4000000 in
set_option maxRecDepth 100000 in
theorem g_X10_addLink_4 (l : Launch) (g : q_G) {K : Nat → Nat} {L : List Nat} (hN : L.Nodup) {f : Nat → va_E} (hT : q_Ty g K L f) (v : Nat) (hv : v ∈ L) (kv : K v = 16) (p0 : Int) (lp0 : (-2147483648) ≤ p0) (up0 : p0 ≤ 2147483647) (p1 : Int) (lp1 : (-2147483648) ≤ p1) (up1 : p1 ≤ 2147483647) : q_Ct l g K L yX10_addLink cX10_addLink 4 none 1 21 [.ref v, .int (q_i p0), .int (q_i p1)] f [(16, 4, 4), (20, 5, 5), (24, 0, 4)] (q_Pv (fun (f1 : Nat → va_E) => True)) := by
  refine q_ofb (by decide +kernel) hN hT (Nat.le_of_ble_eq_true rfl) ?_
  intro p e s m below meth c ls cx hr hlk hB hl
  have hl : lv_has ls 4 [(0, .ref v), (1, .int (q_i p0)), (2, .int (q_i p1))] := hl
  obtain ⟨H, hH⟩ : ∃ H : Heap, H = s.heap := ⟨_, rfl⟩
  obtain ⟨locs, hlocs⟩ : ∃ z : List Loc, z = [] := ⟨_, rfl⟩
  rw [← hH, ← hlocs] at hB
  rw [← hH, ← hlocs]
  refine q_ald_n cx dX10_addLink_0 rfl (lv_at hl 0 rfl) ?_
  obtain ⟨x82, ex82⟩ : ∃ zz, q_is (q_z f v 4) zz := ⟨_, q_isr _⟩
  refine q_gX10_39_16 cx hB hv kv ex82 dX10_addLink_1 (fun lb83 ub83 => ?_)
  refine q_ald_n cx dX10_addLink_4 rfl (lv_at hl 0 rfl) ?_
  obtain ⟨p84, ep84⟩ : ∃ zz, q_ir (q_r f v 1) zz := ⟨_, q_irr _⟩
  refine q_gX10_19_16 cx hB hv kv ep84 dX10_addLink_5 (fun hb85 kb85 => ?_)
  refine q_alen (n := 16) cx hB hb85 kb85 (by decide) rfl 5 rfl rfl dX10_addLink_8 ?_
  refine q_iclt (tgt := 13) cx ⟨by omega, by omega⟩ ⟨by decide, by decide⟩ dX10_addLink_9 (by decide) (fun c86 => ?_) (fun c86 => ?_)
  · refine q_ald_n cx dX10_addLink_13 rfl (lv_at hl 0 rfl) ?_
    refine q_ald_n cx dX10_addLink_14 rfl (lv_at hl 0 rfl) ?_
    refine q_gX10_39_16 cx hB hv kv ex82 dX10_addLink_15 (fun lb87 ub87 => ?_)
    refine q_cVr (As := [.int (q_i x82)]) (rest := []) cx hB (fun _ h => h) hN hv kv (by decide) rfl (g_X10_linkAt_4 l g hN hB.2.1 v hv kv x82 (by omega) (by omega)) q_cX10_74 q_dX10_linkAt (by decide) rfl rfl hl.1 rfl (Nat.le_of_ble_eq_true rfl) dX10_addLink_18 (fun y89 H locs f88 h90 hF hB => ?_)
    obtain ⟨rfl, hy89, ky89⟩ := h90
    refine lv_astore_n (lv' := [(3, .ref y89), (0, .ref v), (1, .int (q_i p0)), (2, .int (q_i p1))]) cx.1 cx.2.1 dX10_addLink_21 rfl hl (by decide) rfl (fun ls hl => ?_)
    refine q_ald_n cx dX10_addLink_22 rfl (lv_at hl 0 rfl) ?_
    refine q_ild_n cx dX10_addLink_23 rfl (lv_at hl 2 rfl) ?_
    refine q_pX10_116_24 cx hB hy89 ky89 ⟨by omega, by omega⟩ (by omega) (by omega) rfl dX10_addLink_24 (fun H locs f91 ef91 z92 hB => ?_)
    have z93 : q_is (q_z f91 v 4) x82 := by rw [ef91, q_setz (Or.inr (by decide))]; exact ex82
    have z94 : q_ir (q_r f91 v 1) p84 := by rw [ef91, q_setr (Or.inr (by decide))]; exact ep84
    refine q_ald_n cx dX10_addLink_27 rfl (lv_at hl 0 rfl) ?_
    refine q_ild_n cx dX10_addLink_28 rfl (lv_at hl 3 rfl) ?_
    refine q_pX10_119_24 cx hB hy89 ky89 ⟨by omega, by omega⟩ (by omega) (by omega) rfl dX10_addLink_29 (fun H locs f95 ef95 z96 hB => ?_)
    have z97 : q_is (q_z f95 v 4) x82 := by rw [ef95, q_setz (Or.inr (by decide))]; exact z93
    have z98 : q_is (q_z f95 y89 0) p0 := by rw [ef95, q_setz (Or.inr (by decide))]; exact z92
    have z99 : q_ir (q_r f95 v 1) p84 := by rw [ef95, q_setr (Or.inl (fun q => by rw [q, ky89] at kv; exact absurd kv (by decide)))]; exact z94
    refine q_ald_n cx dX10_addLink_32 rfl (lv_at hl 0 rfl) ?_
    refine q_iconst cx dX10_addLink_33 ?_
    refine q_pX10_122_24 cx hB hy89 ky89 ⟨by decide, by decide⟩ (by decide) (by decide) rfl dX10_addLink_34 (fun H locs f100 ef100 z101 hB => ?_)
    have z102 : q_is (q_z f100 v 4) x82 := by rw [ef100, q_setz (Or.inr (by decide))]; exact z97
    have z103 : q_is (q_z f100 y89 0) p0 := by rw [ef100, q_setz (Or.inr (by decide))]; exact z98
    have z104 : q_is (q_z f100 y89 1) p1 := by rw [ef100, q_setz (Or.inr (by decide))]; exact z96
    have z105 : q_ir (q_r f100 v 1) p84 := by rw [ef100, q_setr (Or.inr (by decide))]; exact z99
    refine q_ald_n cx dX10_addLink_37 rfl (lv_at hl 0 rfl) ?_
    refine q_iconst cx dX10_addLink_38 ?_
    refine q_pX10_125_24 cx hB hy89 ky89 ⟨by decide, by decide⟩ (by decide) (by decide) rfl dX10_addLink_39 (fun H locs f106 ef106 z107 hB => ?_)
    have z108 : q_is (q_z f106 v 4) x82 := by rw [ef106, q_setz (Or.inr (by decide))]; exact z102
    have z109 : q_is (q_z f106 y89 0) p0 := by rw [ef106, q_setz (Or.inr (by decide))]; exact z103
    have z110 : q_is (q_z f106 y89 1) p1 := by rw [ef106, q_setz (Or.inr (by decide))]; exact z104
    have z111 : q_is (q_z f106 y89 2) 0 := by rw [ef106, q_setz (Or.inr (by decide))]; exact z101
    have z112 : q_ir (q_r f106 v 1) p84 := by rw [ef106, q_setr (Or.inr (by decide))]; exact z105
    refine q_ald_n cx dX10_addLink_42 rfl (lv_at hl 0 rfl) ?_
    refine q_iconst cx dX10_addLink_43 ?_
    refine q_pX10_128_24 cx hB hy89 ky89 ⟨by decide, by decide⟩ (by decide) (by decide) rfl dX10_addLink_44 (fun H locs f113 ef113 z114 hB => ?_)
    have z115 : q_is (q_z f113 v 4) x82 := by rw [ef113, q_setz (Or.inl (fun q => by rw [q, ky89] at kv; exact absurd kv (by decide)))]; exact z108
    have z116 : q_is (q_z f113 y89 0) p0 := by rw [ef113, q_setz (Or.inr (by decide))]; exact z109
    have z117 : q_is (q_z f113 y89 1) p1 := by rw [ef113, q_setz (Or.inr (by decide))]; exact z110
    have z118 : q_is (q_z f113 y89 2) 0 := by rw [ef113, q_setz (Or.inr (by decide))]; exact z111
    have z119 : q_is (q_z f113 y89 3) 0 := by rw [ef113, q_setz (Or.inr (by decide))]; exact z107
    have z120 : q_ir (q_r f113 v 1) p84 := by rw [ef113, q_setr (Or.inr (by decide))]; exact z112
    refine q_ald_n cx dX10_addLink_47 rfl (lv_at hl 1 rfl) ?_
    refine q_ild_n cx dX10_addLink_48 rfl (lv_at hl 2 rfl) ?_
    refine q_cVr (As := [.int (q_i p0)]) (rest := []) cx hB (fun _ h => h) hN hv kv (by decide) rfl (g_X10_nodeAt_4 l g hN hB.2.1 v hv kv p0 (by omega) (by omega)) q_cX10_66 q_dX10_nodeAt (by decide) rfl rfl hl.1 rfl (Nat.le_of_ble_eq_true rfl) dX10_addLink_49 (fun y122 H locs f121 h123 hF hB => ?_)
    obtain ⟨rfl, hy122, ky122⟩ := h123
    refine lv_dup cx.1 cx.2.1 dX10_addLink_52 rfl ?_
    obtain ⟨x124, ex124⟩ : ∃ zz, q_is (q_z f113 y122 5) zz := ⟨_, q_isr _⟩
    refine q_gX10_104_20 cx hB hy122 ky122 ex124 dX10_addLink_53 (fun lb125 ub125 => ?_)
    refine q_iconst cx dX10_addLink_56 ?_
    refine q_ild_n cx dX10_addLink_57 rfl (lv_at hl 3 rfl) ?_
    refine q_ishl cx dX10_addLink_58 (fun y126 ry126 ey126 => ?_)
    refine q_ior cx dX10_addLink_59 (fun y127 ry127 ey127 => ?_)
    refine q_pX10_104_20 cx hB hy122 ky122 ⟨by omega, by omega⟩ (by omega) (by omega) rfl dX10_addLink_60 (fun H locs f128 ef128 z129 hB => ?_)
    have z130 : q_is (q_z f128 v 4) x82 := by rw [ef128, q_setz (Or.inr (by decide))]; exact z115
    have z131 : q_is (q_z f128 y89 0) p0 := by rw [ef128, q_setz (Or.inr (by decide))]; exact z116
    have z132 : q_is (q_z f128 y89 1) p1 := by rw [ef128, q_setz (Or.inr (by decide))]; exact z117
    have z133 : q_is (q_z f128 y89 2) 0 := by rw [ef128, q_setz (Or.inr (by decide))]; exact z118
    have z134 : q_is (q_z f128 y89 3) 0 := by rw [ef128, q_setz (Or.inr (by decide))]; exact z119
    have z135 : q_is (q_z f128 y89 4) 0 := by rw [ef128, q_setz (Or.inr (by decide))]; exact z114
    have z136 : q_ir (q_r f128 v 1) p84 := by rw [ef128, q_setr (Or.inr (by decide))]; exact z120
    refine q_ald_n cx dX10_addLink_63 rfl (lv_at hl 1 rfl) ?_
    refine q_ild_n cx dX10_addLink_64 rfl (lv_at hl 3 rfl) ?_
    refine q_cVr (As := [.int (q_i p1)]) (rest := []) cx hB (fun _ h => h) hN hv kv (by decide) rfl (g_X10_nodeAt_4 l g hN hB.2.1 v hv kv p1 (by omega) (by omega)) q_cX10_66 q_dX10_nodeAt (by decide) rfl rfl hl.1 rfl (Nat.le_of_ble_eq_true rfl) dX10_addLink_65 (fun y138 H locs f137 h139 hF hB => ?_)
    obtain ⟨rfl, hy138, ky138⟩ := h139
    refine lv_dup cx.1 cx.2.1 dX10_addLink_68 rfl ?_
    obtain ⟨x140, ex140⟩ : ∃ zz, q_is (q_z f128 y138 5) zz := ⟨_, q_isr _⟩
    refine q_gX10_104_20 cx hB hy138 ky138 ex140 dX10_addLink_69 (fun lb141 ub141 => ?_)
    refine q_iconst cx dX10_addLink_72 ?_
    refine q_ild_n cx dX10_addLink_73 rfl (lv_at hl 2 rfl) ?_
    refine q_ishl cx dX10_addLink_74 (fun y142 ry142 ey142 => ?_)
    refine q_ior cx dX10_addLink_75 (fun y143 ry143 ey143 => ?_)
    refine q_pX10_104_20 cx hB hy138 ky138 ⟨by omega, by omega⟩ (by omega) (by omega) rfl dX10_addLink_76 (fun H locs f144 ef144 z145 hB => ?_)
    have z146 : q_is (q_z f144 v 4) x82 := by rw [ef144, q_setz (Or.inr (by decide))]; exact z130
    have z147 : q_is (q_z f144 y89 0) p0 := by rw [ef144, q_setz (Or.inr (by decide))]; exact z131
    have z148 : q_is (q_z f144 y89 1) p1 := by rw [ef144, q_setz (Or.inr (by decide))]; exact z132
    have z149 : q_is (q_z f144 y89 2) 0 := by rw [ef144, q_setz (Or.inr (by decide))]; exact z133
    have z150 : q_is (q_z f144 y89 3) 0 := by rw [ef144, q_setz (Or.inr (by decide))]; exact z134
    have z151 : q_is (q_z f144 y89 4) 0 := by rw [ef144, q_setz (Or.inr (by decide))]; exact z135
    have z152 : q_ir (q_r f144 v 1) p84 := by rw [ef144, q_setr (Or.inr (by decide))]; exact z136
    refine q_ald_n cx dX10_addLink_79 rfl (lv_at hl 1 rfl) ?_
    refine lv_dup cx.1 cx.2.1 dX10_addLink_80 rfl ?_
    refine q_gX10_39_16 cx hB hv kv z146 dX10_addLink_81 (fun lb153 ub153 => ?_)
    refine q_iconst cx dX10_addLink_84 ?_
    refine q_iadd cx dX10_addLink_85 ?_
    refine q_pX10_39_16 cx hB hv kv ⟨by omega, by omega⟩ (by omega) (by omega) rfl dX10_addLink_86 (fun H locs f154 ef154 z155 hB => ?_)
    have z156 : q_is (q_z f154 y89 0) p0 := by rw [ef154, q_setz (Or.inr (by decide))]; exact z147
    have z157 : q_is (q_z f154 y89 1) p1 := by rw [ef154, q_setz (Or.inr (by decide))]; exact z148
    have z158 : q_is (q_z f154 y89 2) 0 := by rw [ef154, q_setz (Or.inr (by decide))]; exact z149
    have z159 : q_is (q_z f154 y89 3) 0 := by rw [ef154, q_setz (Or.inr (by decide))]; exact z150
    have z160 : q_is (q_z f154 y89 4) 0 := by rw [ef154, q_setz (Or.inl (fun q => by rw [q, kv] at ky89; exact absurd ky89 (by decide)))]; exact z151
    have z161 : q_is (q_z f154 y138 5) y143 := by rw [ef154, q_setz (Or.inr (by decide))]; exact z145
    have z162 : q_ir (q_r f154 v 1) p84 := by rw [ef154, q_setr (Or.inr (by decide))]; exact z152
    refine q_vret cx hr hlk hB dX10_addLink_89 ?_
    trivial
  · refine q_vret cx hr hlk hB dX10_addLink_12 ?_
    trivial
set_option maxHeartbeats 4000000 in
set_option maxRecDepth 100000 in
theorem g_X9_readLink (l : Launch) (g : q_G) {K : Nat → Nat} {L : List Nat} (hN : L.Nodup) {f : Nat → va_E} (hT : q_Ty g K L f) (v : Nat) (hv : v ∈ L) (kv : K v = 9) (p0 : Nat) (hp0 : p0 ∈ L) (kp0 : K p0 = 8) (p1 : Nat) (hp1 : p1 ∈ L) (kp1 : K p1 = 13) : q_Ct l g K L yX9_readLink cX9_readLink 5 (some .boolean) 3 66 [.ref v, .ref p0, .ref p1] f [(8, 2, 4), (8, 6, 9), (13, 4, 4), (17, 5, 5), (21, 0, 4)] (q_Pi (fun (z : Int) (f1 : Nat → va_E) => 0 ≤ z ∧ z ≤ 1)) := by
  refine q_ofb (by decide +kernel) hN hT (Nat.le_of_ble_eq_true rfl) ?_
  intro p e s m below meth c ls cx hr hlk hB hl
  have hl : lv_has ls 5 [(0, .ref v), (1, .ref p0), (2, .ref p1)] := hl
  have J73 : ∀ (f73 : Nat → va_E) (H : Heap) (locs : List Loc) (hB : q_B g K L (fun q => q ∈ L) [(8, 2, 4), (8, 6, 9), (13, 4, 4), (17, 5, 5), (21, 0, 4)] f f73 s H locs) (ls : Array Slot) (hl : lv_has ls 5 [(1, .ref p0)]), W p l e { frames := 3, cells := 0, slots := 0, locals := 66 } s m ([.ref v, .ref p0, .ref p1] : List Value).toArray below meth c H locs 0 0 (MQ below (q_Q g K L [(8, 2, 4), (8, 6, 9), (13, 4, 4), (17, 5, 5), (21, 0, 4)] f (q_Pi (fun (z : Int) (f1 : Nat → va_E) => 0 ≤ z ∧ z ≤ 1))) ([.ref v, .ref p0, .ref p1] : List Value).toArray s 0 0 (fun q => q ∈ L)) (F0 m 73 ls []) := by
    intro f73 H locs hB ls hl
    refine q_ald_n cx dX9_readLink_73 rfl (lv_at hl 0 rfl) ?_
    refine q_iconst cx dX9_readLink_74 ?_
    refine q_cVi (As := [.int (q_i 3)]) (rest := []) cx hB (fun _ h => h) hN hp0 kp0 (by decide) rfl (g_X8_fail l g hN hB.2.1 p0 hp0 kp0 3 (by decide) (by decide)) q_cX9_75 q_dX8_fail (by decide) rfl rfl hl.1 rfl (Nat.le_of_ble_eq_true rfl) dX9_readLink_75 (fun y41 H locs f40 ry41 h42 hF hB => ?_)
    obtain ⟨ly41, uy41⟩ := h42
    refine q_zret cx hr hlk hB dX9_readLink_78 (by omega) (by omega) ?_
    exact ⟨(by omega), (by omega)⟩
  obtain ⟨H, hH⟩ : ∃ H : Heap, H = s.heap := ⟨_, rfl⟩
  obtain ⟨locs, hlocs⟩ : ∃ z : List Loc, z = [] := ⟨_, rfl⟩
  rw [← hH, ← hlocs] at hB
  rw [← hH, ← hlocs]
  refine q_ald_n cx dX9_readLink_0 rfl (lv_at hl 2 rfl) ?_
  obtain ⟨x43, ex43⟩ : ∃ zz, q_is (q_z f p1 4) zz := ⟨_, q_isr _⟩
  refine q_gX9_130_13 cx hB hp1 kp1 ex43 dX9_readLink_1 (fun lb44 ub44 => ?_)
  refine q_bipush cx dX9_readLink_4 rfl ?_
  refine q_iclt (tgt := 15) cx ⟨by omega, by omega⟩ ⟨by decide, by decide⟩ dX9_readLink_6 (by decide) (fun c45 => ?_) (fun c45 => ?_)
  · refine q_ald_n cx dX9_readLink_15 rfl (lv_at hl 1 rfl) ?_
    refine q_cVv (As := []) (rest := []) cx hB (fun _ h => h) hN hp0 kp0 (by decide) rfl (g_X8_advance l g hN hB.2.1 p0 hp0 kp0) q_cX9_78 q_dX8_advance (by decide) rfl rfl hl.1 rfl (Nat.le_of_ble_eq_true rfl) dX9_readLink_16 (fun H locs f46 h48 hF hB => ?_)
    refine q_ald_n cx dX9_readLink_19 rfl (lv_at hl 1 rfl) ?_
    refine q_ald_n cx dX9_readLink_20 rfl (lv_at hl 2 rfl) ?_
    refine q_cVi (As := [.ref p1]) (rest := []) cx hB (fun _ h => h) hN hp0 kp0 (by decide) rfl (g_X8_expectNode_01 l g hN hB.2.1 p0 hp0 kp0 p1 hp1 kp1) q_cX9_133 q_dX8_expectNode (by decide) rfl rfl hl.1 rfl (Nat.le_of_ble_eq_true rfl) dX9_readLink_21 (fun y50 H locs f49 ry50 h51 hF hB => ?_)
    obtain ⟨ly50, uy50⟩ := h51
    refine lv_istore_n (lv' := [(3, .int (q_i y50)), (0, .ref v), (1, .ref p0), (2, .ref p1)]) cx.1 cx.2.1 dX9_readLink_24 rfl hl (by decide) rfl (fun ls hl => ?_)
    refine q_ild_n cx dX9_readLink_25 rfl (lv_at hl 0 rfl) ?_
    refine q_iconst cx dX9_readLink_26 ?_
    refine q_icne (tgt := 32) cx ⟨by omega, by omega⟩ ⟨by decide, by decide⟩ dX9_readLink_27 (by decide) (fun c52 => ?_) (fun c52 => ?_)
    · refine q_ald_n cx dX9_readLink_32 rfl (lv_at hl 2 rfl) ?_
      refine q_cVv (As := []) (rest := []) cx hB (fun _ h => h) hN hp0 kp0 (by decide) rfl (g_X8_advance l g hN hB.2.1 p0 hp0 kp0) q_cX9_78 q_dX8_advance (by decide) rfl rfl hl.1 rfl (Nat.le_of_ble_eq_true rfl) dX9_readLink_33 (fun H locs f53 h55 hF hB => ?_)
      refine q_ald_n cx dX9_readLink_36 rfl (lv_at hl 2 rfl) ?_
      refine q_ald_n cx dX9_readLink_37 rfl (lv_at hl 3 rfl) ?_
      refine q_cVi (As := [.ref p1]) (rest := []) cx hB (fun _ h => h) hN hp0 kp0 (by decide) rfl (g_X8_expectNode_01 l g hN hB.2.1 p0 hp0 kp0 p1 hp1 kp1) q_cX9_133 q_dX8_expectNode (by decide) rfl rfl hl.1 rfl (Nat.le_of_ble_eq_true rfl) dX9_readLink_38 (fun y57 H locs f56 ry57 h58 hF hB => ?_)
      obtain ⟨ly57, uy57⟩ := h58
      refine lv_istore (lv' := [(4, .int (q_i y57)), (3, .int (q_i y50)), (0, .ref v), (1, .ref p0), (2, .ref p1)]) cx.1 cx.2.1 dX9_readLink_41 hl (by decide) rfl (fun ls hl => ?_)
      refine lv_iload cx.1 cx.2.1 dX9_readLink_43 (lv_at hl 0 rfl) ?_
      refine q_iconst cx dX9_readLink_45 ?_
      refine q_icne (tgt := 51) cx ⟨by omega, by omega⟩ ⟨by decide, by decide⟩ dX9_readLink_46 (by decide) (fun c59 => ?_) (fun c59 => ?_)
      · refine lv_iload cx.1 cx.2.1 dX9_readLink_51 (lv_at hl 0 rfl) ?_
        refine q_ild_n cx dX9_readLink_53 rfl (lv_at hl 1 rfl) ?_
        refine q_iceq (tgt := 73) cx ⟨by omega, by omega⟩ ⟨by omega, by omega⟩ dX9_readLink_54 (by decide) (fun c60 => ?_) (fun c60 => ?_)
        · exact J73 f56 H locs hB ls (lv_sub hl [3] rfl)
        · refine q_ald_n cx dX9_readLink_57 rfl (lv_at hl 4 rfl) ?_
          refine q_ild_n cx dX9_readLink_58 rfl (lv_at hl 1 rfl) ?_
          refine q_cVr (As := [.int (q_i y50)]) (rest := []) cx hB (fun _ h => h) hN hp1 kp1 (by decide) rfl (g_X10_nodeAt_1 l g hN hB.2.1 p1 hp1 kp1 y50 (by omega) (by omega)) q_cX9_137 q_dX10_nodeAt (by decide) rfl rfl hl.1 rfl (Nat.le_of_ble_eq_true rfl) dX9_readLink_59 (fun y62 H locs f61 h63 hF hB => ?_)
          obtain ⟨rfl, hy62, ky62⟩ := h63
          obtain ⟨x64, ex64⟩ : ∃ zz, q_is (q_z f56 y62 5) zz := ⟨_, q_isr _⟩
          refine q_gX9_141_17 cx hB hy62 ky62 ex64 dX9_readLink_62 (fun lb65 ub65 => ?_)
          refine lv_iload cx.1 cx.2.1 dX9_readLink_65 (lv_at hl 0 rfl) ?_
          refine q_cSi (As := [.int (q_i x64), .int (q_i y57)]) (rest := []) cx hB (fun _ h => h) hN (g_X10_has l g hN hB.2.1 x64 (by omega) (by omega) y57 (by omega) (by omega)) q_cX9_146 q_dX10_has (by decide) rfl rfl hl.1 rfl (Nat.le_of_ble_eq_true rfl) dX9_readLink_67 (fun y67 H locs f66 ry67 h68 hF hB => ?_)
          obtain ⟨rfl, ly67, uy67⟩ := h68
          refine q_ifeq (tgt := 79) cx ⟨by omega, by omega⟩ dX9_readLink_70 (by decide) (fun c69 => ?_) (fun c69 => ?_)
          · refine q_ald_n cx dX9_readLink_79 rfl (lv_at hl 3 rfl) ?_
            refine q_cVv (As := []) (rest := []) cx hB (fun _ h => h) hN hp0 kp0 (by decide) rfl (g_X8_advance l g hN hB.2.1 p0 hp0 kp0) q_cX9_78 q_dX8_advance (by decide) rfl rfl hl.1 rfl (Nat.le_of_ble_eq_true rfl) dX9_readLink_80 (fun H locs f70 h72 hF hB => ?_)
            refine q_ald_n cx dX9_readLink_83 rfl (lv_at hl 4 rfl) ?_
            refine q_ild_n cx dX9_readLink_84 rfl (lv_at hl 1 rfl) ?_
            refine lv_iload cx.1 cx.2.1 dX9_readLink_85 (lv_at hl 0 rfl) ?_
            refine q_cVv (As := [.int (q_i y50), .int (q_i y57)]) (rest := []) cx hB (fun _ h => h) hN hp1 kp1 (by decide) rfl (g_X10_addLink_1 l g hN hB.2.1 p1 hp1 kp1 y50 (by omega) (by omega) y57 (by omega) (by omega)) q_cX9_149 q_dX10_addLink (by decide) rfl rfl hl.1 rfl (Nat.le_of_ble_eq_true rfl) dX9_readLink_87 (fun H locs f73 h75 hF hB => ?_)
            refine q_iconst cx dX9_readLink_90 ?_
            refine q_zret cx hr hlk hB dX9_readLink_91 (by decide) (by decide) ?_
            exact ⟨(by decide), (by decide)⟩
          · exact J73 f56 H locs hB ls (lv_sub hl [3] rfl)
      · refine q_iconst cx dX9_readLink_49 ?_
        refine q_zret cx hr hlk hB dX9_readLink_50 (by decide) (by decide) ?_
        exact ⟨(by decide), (by decide)⟩
    · refine q_iconst cx dX9_readLink_30 ?_
      refine q_zret cx hr hlk hB dX9_readLink_31 (by decide) (by decide) ?_
      exact ⟨(by decide), (by decide)⟩
  · refine q_ald_n cx dX9_readLink_9 rfl (lv_at hl 1 rfl) ?_
    refine q_iconst cx dX9_readLink_10 ?_
    refine q_cVi (As := [.int (q_i 5)]) (rest := []) cx hB (fun _ h => h) hN hp0 kp0 (by decide) rfl (g_X8_fail l g hN hB.2.1 p0 hp0 kp0 5 (by decide) (by decide)) q_cX9_75 q_dX8_fail (by decide) rfl rfl hl.1 rfl (Nat.le_of_ble_eq_true rfl) dX9_readLink_11 (fun y77 H locs f76 ry77 h78 hF hB => ?_)
    obtain ⟨ly77, uy77⟩ := h78
    refine q_zret cx hr hlk hB dX9_readLink_14 (by omega) (by omega) ?_
    exact ⟨(by omega), (by omega)⟩
