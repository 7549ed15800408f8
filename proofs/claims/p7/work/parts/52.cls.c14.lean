set_option maxHeartbeats 4000000 in
set_option maxRecDepth 100000 in
theorem g_X10_addMessage_4 (l : Launch) (g : q_G) {K : Nat → Nat} {L : List Nat} (hN : L.Nodup) {f : Nat → va_E} (hT : q_Ty g K L f) (v : Nat) (hv : v ∈ L) (kv : K v = 16) (p0 : Int) (lp0 : (-2147483648) ≤ p0) (up0 : p0 ≤ 2147483647) (p1 : Int) (lp1 : (-2147483648) ≤ p1) (up1 : p1 ≤ 2147483647) (p2 : Int) (lp2 : (-2147483648) ≤ p2) (up2 : p2 ≤ 2147483647) (p3 : Int) (lp3 : 0 ≤ p3) (up3 : p3 ≤ 1) : q_Ct l g K L yX10_addMessage cX10_addMessage 6 (some .int) 1 21 [.ref v, .int (q_i p0), .int (q_i p1), .int (q_i p2), .int (q_i p3)] f [(16, 5, 5), (28, 0, 7)] (q_Pi (fun (z : Int) (f1 : Nat → va_E) => (-1) ≤ z ∧ z ≤ 60)) := by
  refine q_ofb (by decide +kernel) hN hT (Nat.le_of_ble_eq_true rfl) ?_
  intro p e s m below meth c ls cx hr hlk hB hl
  have hl : lv_has ls 6 [(0, .ref v), (1, .int (q_i p0)), (2, .int (q_i p1)), (3, .int (q_i p2)), (4, .int (q_i p3))] := hl
  obtain ⟨H, hH⟩ : ∃ H : Heap, H = s.heap := ⟨_, rfl⟩
  obtain ⟨locs, hlocs⟩ : ∃ z : List Loc, z = [] := ⟨_, rfl⟩
  rw [← hH, ← hlocs] at hB
  rw [← hH, ← hlocs]
  refine q_ald_n cx dX10_addMessage_0 rfl (lv_at hl 0 rfl) ?_
  obtain ⟨x91, ex91⟩ : ∃ zz, q_is (q_z f v 5) zz := ⟨_, q_isr _⟩
  refine q_gX10_42_16 cx hB hv kv ex91 dX10_addMessage_1 (fun lb92 ub92 => ?_)
  refine q_ald_n cx dX10_addMessage_4 rfl (lv_at hl 0 rfl) ?_
  obtain ⟨p93, ep93⟩ : ∃ zz, q_ir (q_r f v 2) zz := ⟨_, q_irr _⟩
  refine q_gX10_25_16 cx hB hv kv ep93 dX10_addMessage_5 (fun hb94 kb94 => ?_)
  refine q_alen (n := 61) cx hB hb94 kb94 (by decide) rfl 6 rfl rfl dX10_addMessage_8 ?_
  refine q_iclt (tgt := 14) cx ⟨by omega, by omega⟩ ⟨by decide, by decide⟩ dX10_addMessage_9 (by decide) (fun c95 => ?_) (fun c95 => ?_)
  · refine q_ald_n cx dX10_addMessage_14 rfl (lv_at hl 0 rfl) ?_
    refine q_ald_n cx dX10_addMessage_15 rfl (lv_at hl 0 rfl) ?_
    refine q_gX10_42_16 cx hB hv kv ex91 dX10_addMessage_16 (fun lb96 ub96 => ?_)
    refine q_cVr (As := [.int (q_i x91)]) (rest := []) cx hB (fun _ h => h) hN hv kv (by decide) rfl (g_X10_messageAt_4 l g hN hB.2.1 v hv kv x91 (by omega) (by omega)) q_cX10_81 q_dX10_messageAt (by decide) rfl rfl hl.1 rfl (Nat.le_of_ble_eq_true rfl) dX10_addMessage_19 (fun y98 H locs f97 h99 hF hB => ?_)
    obtain ⟨rfl, hy98, ky98⟩ := h99
    refine lv_astore (lv' := [(5, .ref y98), (0, .ref v), (1, .int (q_i p0)), (2, .int (q_i p1)), (3, .int (q_i p2)), (4, .int (q_i p3))]) cx.1 cx.2.1 dX10_addMessage_22 hl (by decide) rfl (fun ls hl => ?_)
    refine lv_aload cx.1 cx.2.1 dX10_addMessage_24 (lv_at hl 0 rfl) ?_
    refine q_ild_n cx dX10_addMessage_26 rfl (lv_at hl 2 rfl) ?_
    refine q_pX10_131_28 cx hB hy98 ky98 ⟨by omega, by omega⟩ (by omega) (by omega) rfl dX10_addMessage_27 (fun H locs f100 ef100 z101 hB => ?_)
    have z102 : q_is (q_z f100 v 5) x91 := by rw [ef100, q_setz (Or.inr (by decide))]; exact ex91
    have z103 : q_ir (q_r f100 v 2) p93 := by rw [ef100, q_setr (Or.inr (by decide))]; exact ep93
    refine lv_aload cx.1 cx.2.1 dX10_addMessage_30 (lv_at hl 0 rfl) ?_
    refine q_ild_n cx dX10_addMessage_32 rfl (lv_at hl 3 rfl) ?_
    refine q_pX10_134_28 cx hB hy98 ky98 ⟨by omega, by omega⟩ (by omega) (by omega) rfl dX10_addMessage_33 (fun H locs f104 ef104 z105 hB => ?_)
    have z106 : q_is (q_z f104 v 5) x91 := by rw [ef104, q_setz (Or.inr (by decide))]; exact z102
    have z107 : q_is (q_z f104 y98 0) p0 := by rw [ef104, q_setz (Or.inr (by decide))]; exact z101
    have z108 : q_ir (q_r f104 v 2) p93 := by rw [ef104, q_setr (Or.inr (by decide))]; exact z103
    refine lv_aload cx.1 cx.2.1 dX10_addMessage_36 (lv_at hl 0 rfl) ?_
    refine q_ild_n cx dX10_addMessage_38 rfl (lv_at hl 2 rfl) ?_
    refine q_pX10_137_28 cx hB hy98 ky98 ⟨by omega, by omega⟩ (by omega) (by omega) rfl dX10_addMessage_39 (fun H locs f109 ef109 z110 hB => ?_)
    have z111 : q_is (q_z f109 v 5) x91 := by rw [ef109, q_setz (Or.inr (by decide))]; exact z106
    have z112 : q_is (q_z f109 y98 0) p0 := by rw [ef109, q_setz (Or.inr (by decide))]; exact z107
    have z113 : q_is (q_z f109 y98 1) p1 := by rw [ef109, q_setz (Or.inr (by decide))]; exact z105
    have z114 : q_ir (q_r f109 v 2) p93 := by rw [ef109, q_setr (Or.inl (fun q => by rw [q, ky98] at kv; exact absurd kv (by decide)))]; exact z108
    refine lv_aload cx.1 cx.2.1 dX10_addMessage_42 (lv_at hl 0 rfl) ?_
    refine q_iconst cx dX10_addMessage_44 ?_
    refine q_pX10_140_28 cx hB hy98 ky98 ⟨by decide, by decide⟩ (by decide) (by decide) rfl dX10_addMessage_45 (fun H locs f115 ef115 z116 hB => ?_)
    have z117 : q_is (q_z f115 v 5) x91 := by rw [ef115, q_setz (Or.inr (by decide))]; exact z111
    have z118 : q_is (q_z f115 y98 0) p0 := by rw [ef115, q_setz (Or.inr (by decide))]; exact z112
    have z119 : q_is (q_z f115 y98 1) p1 := by rw [ef115, q_setz (Or.inr (by decide))]; exact z113
    have z120 : q_is (q_z f115 y98 2) p0 := by rw [ef115, q_setz (Or.inr (by decide))]; exact z110
    have z121 : q_ir (q_r f115 v 2) p93 := by rw [ef115, q_setr (Or.inr (by decide))]; exact z114
    refine lv_aload cx.1 cx.2.1 dX10_addMessage_48 (lv_at hl 0 rfl) ?_
    refine q_ald_n cx dX10_addMessage_50 rfl (lv_at hl 1 rfl) ?_
    obtain ⟨x122, ex122⟩ : ∃ zz, q_is (q_z f115 v 11) zz := ⟨_, q_isr _⟩
    refine q_gX10_60_16 cx hB hv kv ex122 dX10_addMessage_51 (fun lb123 ub123 => ?_)
    refine q_ild_n cx dX10_addMessage_54 rfl (lv_at hl 4 rfl) ?_
    refine q_iadd cx dX10_addMessage_55 ?_
    refine q_any (fun y124 ry124 ey124 => ?_)
    refine q_pX10_143_28 cx hB hy98 ky98 ⟨by omega, by omega⟩ (by omega) (by omega) rfl dX10_addMessage_56 (fun H locs f125 ef125 z126 hB => ?_)
    have z127 : q_is (q_z f125 v 5) x91 := by rw [ef125, q_setz (Or.inr (by decide))]; exact z117
    have z128 : q_is (q_z f125 y98 0) p0 := by rw [ef125, q_setz (Or.inr (by decide))]; exact z118
    have z129 : q_is (q_z f125 y98 1) p1 := by rw [ef125, q_setz (Or.inr (by decide))]; exact z119
    have z130 : q_is (q_z f125 y98 2) p0 := by rw [ef125, q_setz (Or.inr (by decide))]; exact z120
    have z131 : q_is (q_z f125 y98 3) 0 := by rw [ef125, q_setz (Or.inr (by decide))]; exact z116
    have z132 : q_is (q_z f125 v 11) x122 := by rw [ef125, q_setz (Or.inr (by decide))]; exact ex122
    have z133 : q_ir (q_r f125 v 2) p93 := by rw [ef125, q_setr (Or.inr (by decide))]; exact z121
    refine lv_aload cx.1 cx.2.1 dX10_addMessage_59 (lv_at hl 0 rfl) ?_
    refine q_iconst cx dX10_addMessage_61 ?_
    refine q_pX10_146_28 cx hB hy98 ky98 ⟨by decide, by decide⟩ (by decide) (by decide) rfl dX10_addMessage_62 (fun H locs f134 ef134 z135 hB => ?_)
    have z136 : q_is (q_z f134 v 5) x91 := by rw [ef134, q_setz (Or.inl (fun q => by rw [q, ky98] at kv; exact absurd kv (by decide)))]; exact z127
    have z137 : q_is (q_z f134 y98 0) p0 := by rw [ef134, q_setz (Or.inr (by decide))]; exact z128
    have z138 : q_is (q_z f134 y98 1) p1 := by rw [ef134, q_setz (Or.inr (by decide))]; exact z129
    have z139 : q_is (q_z f134 y98 2) p0 := by rw [ef134, q_setz (Or.inr (by decide))]; exact z130
    have z140 : q_is (q_z f134 y98 3) 0 := by rw [ef134, q_setz (Or.inr (by decide))]; exact z131
    have z141 : q_is (q_z f134 v 11) x122 := by rw [ef134, q_setz (Or.inr (by decide))]; exact z132
    have z142 : q_is (q_z f134 y98 4) y124 := by rw [ef134, q_setz (Or.inr (by decide))]; exact z126
    have z143 : q_ir (q_r f134 v 2) p93 := by rw [ef134, q_setr (Or.inr (by decide))]; exact z133
    refine lv_aload cx.1 cx.2.1 dX10_addMessage_65 (lv_at hl 0 rfl) ?_
    refine q_iconst cx dX10_addMessage_67 ?_
    refine q_pX10_149_28 cx hB hy98 ky98 ⟨by decide, by decide⟩ (by decide) (by decide) rfl dX10_addMessage_68 (fun H locs f144 ef144 z145 hB => ?_)
    have z146 : q_is (q_z f144 v 5) x91 := by rw [ef144, q_setz (Or.inr (by decide))]; exact z136
    have z147 : q_is (q_z f144 y98 0) p0 := by rw [ef144, q_setz (Or.inr (by decide))]; exact z137
    have z148 : q_is (q_z f144 y98 1) p1 := by rw [ef144, q_setz (Or.inr (by decide))]; exact z138
    have z149 : q_is (q_z f144 y98 2) p0 := by rw [ef144, q_setz (Or.inr (by decide))]; exact z139
    have z150 : q_is (q_z f144 y98 3) 0 := by rw [ef144, q_setz (Or.inr (by decide))]; exact z140
    have z151 : q_is (q_z f144 v 11) x122 := by rw [ef144, q_setz (Or.inr (by decide))]; exact z141
    have z152 : q_is (q_z f144 y98 4) y124 := by rw [ef144, q_setz (Or.inr (by decide))]; exact z142
    have z153 : q_is (q_z f144 y98 5) (-1) := by rw [ef144, q_setz (Or.inr (by decide))]; exact z135
    have z154 : q_ir (q_r f144 v 2) p93 := by rw [ef144, q_setr (Or.inr (by decide))]; exact z143
    refine lv_aload cx.1 cx.2.1 dX10_addMessage_71 (lv_at hl 0 rfl) ?_
    refine lv_iload cx.1 cx.2.1 dX10_addMessage_73 (lv_at hl 5 rfl) ?_
    refine q_pX10_152_28 cx hB hy98 ky98 ⟨by omega, by omega⟩ (by omega) (by omega) rfl dX10_addMessage_75 (fun H locs f155 ef155 z156 hB => ?_)
    have z157 : q_is (q_z f155 v 5) x91 := by rw [ef155, q_setz (Or.inr (by decide))]; exact z146
    have z158 : q_is (q_z f155 y98 0) p0 := by rw [ef155, q_setz (Or.inr (by decide))]; exact z147
    have z159 : q_is (q_z f155 y98 1) p1 := by rw [ef155, q_setz (Or.inr (by decide))]; exact z148
    have z160 : q_is (q_z f155 y98 2) p0 := by rw [ef155, q_setz (Or.inr (by decide))]; exact z149
    have z161 : q_is (q_z f155 y98 3) 0 := by rw [ef155, q_setz (Or.inr (by decide))]; exact z150
    have z162 : q_is (q_z f155 v 11) x122 := by rw [ef155, q_setz (Or.inr (by decide))]; exact z151
    have z163 : q_is (q_z f155 y98 4) y124 := by rw [ef155, q_setz (Or.inr (by decide))]; exact z152
    have z164 : q_is (q_z f155 y98 5) (-1) := by rw [ef155, q_setz (Or.inr (by decide))]; exact z153
    have z165 : q_is (q_z f155 y98 6) 0 := by rw [ef155, q_setz (Or.inr (by decide))]; exact z145
    have z166 : q_ir (q_r f155 v 2) p93 := by rw [ef155, q_setr (Or.inr (by decide))]; exact z154
    refine q_ald_n cx dX10_addMessage_78 rfl (lv_at hl 1 rfl) ?_
    refine lv_dup cx.1 cx.2.1 dX10_addMessage_79 rfl ?_
    refine q_gX10_42_16 cx hB hv kv z157 dX10_addMessage_80 (fun lb167 ub167 => ?_)
    refine q_iconst cx dX10_addMessage_83 ?_
    refine q_iadd cx dX10_addMessage_84 ?_
    refine q_pX10_42_16 cx hB hv kv ⟨by omega, by omega⟩ (by omega) (by omega) rfl dX10_addMessage_85 (fun H locs f168 ef168 z169 hB => ?_)
    have z170 : q_is (q_z f168 y98 0) p0 := by rw [ef168, q_setz (Or.inr (by decide))]; exact z158
    have z171 : q_is (q_z f168 y98 1) p1 := by rw [ef168, q_setz (Or.inr (by decide))]; exact z159
    have z172 : q_is (q_z f168 y98 2) p0 := by rw [ef168, q_setz (Or.inr (by decide))]; exact z160
    have z173 : q_is (q_z f168 y98 3) 0 := by rw [ef168, q_setz (Or.inr (by decide))]; exact z161
    have z174 : q_is (q_z f168 v 11) x122 := by rw [ef168, q_setz (Or.inr (by decide))]; exact z162
    have z175 : q_is (q_z f168 y98 4) y124 := by rw [ef168, q_setz (Or.inr (by decide))]; exact z163
    have z176 : q_is (q_z f168 y98 5) (-1) := by rw [ef168, q_setz (Or.inl (fun q => by rw [q, kv] at ky98; exact absurd ky98 (by decide)))]; exact z164
    have z177 : q_is (q_z f168 y98 6) 0 := by rw [ef168, q_setz (Or.inr (by decide))]; exact z165
    have z178 : q_is (q_z f168 y98 7) p3 := by rw [ef168, q_setz (Or.inr (by decide))]; exact z156
    have z179 : q_ir (q_r f168 v 2) p93 := by rw [ef168, q_setr (Or.inr (by decide))]; exact z166
    refine q_ald_n cx dX10_addMessage_88 rfl (lv_at hl 1 rfl) ?_
    refine q_gX10_42_16 cx hB hv kv z169 dX10_addMessage_89 (fun lb180 ub180 => ?_)
    refine q_iconst cx dX10_addMessage_92 ?_
    refine q_isub cx dX10_addMessage_93 ?_
    refine q_iret cx hr hlk hB dX10_addMessage_94 ⟨by omega, by omega⟩ ?_
    exact ⟨(by omega), (by omega)⟩
  · refine q_iconst cx dX10_addMessage_12 ?_
    refine q_iret cx hr hlk hB dX10_addMessage_13 ⟨by decide, by decide⟩ ?_
    exact ⟨(by decide), (by decide)⟩
set_option maxHeartbeats 4000000 in
set_option maxRecDepth 100000 in
theorem g_X1_sendInThought (l : Launch) (g : q_G) {K : Nat → Nat} {L : List Nat} (hN : L.Nodup) {f : Nat → va_E} (hT : q_Ty g K L f) (v : Nat) (hv : v ∈ L) (kv : K v = 1) (p0 : Nat) (hp0 : p0 ∈ L) (kp0 : K p0 = 10) (p1 : Int) (lp1 : (-2147483648) ≤ p1) (up1 : p1 ≤ 2147483647) (p2 : Int) (lp2 : (-2147483648) ≤ p2) (up2 : p2 ≤ 2147483647) (p3 : Int) (lp3 : 0 ≤ p3) (up3 : p3 ≤ 1) : q_Ct l g K L yX1_sendInThought cX1_sendInThought 5 (some .int) 2 46 [.ref v, .ref p0, .int (q_i p1), .int (q_i p2), .int (q_i p3)] f [(15, 3, 12), (19, 0, 8), (23, 0, 4), (27, 0, 7)] (q_Pi (fun (z : Int) (f1 : Nat → va_E) => (-1) ≤ z ∧ z ≤ 60)) := by
  refine q_ofb (by decide +kernel) hN hT (Nat.le_of_ble_eq_true rfl) ?_
  intro p e s m below meth c ls cx hr hlk hB hl
  have hl : lv_has ls 5 [(0, .ref v), (1, .ref p0), (2, .int (q_i p1)), (3, .int (q_i p2)), (4, .int (q_i p3))] := hl
  obtain ⟨H, hH⟩ : ∃ H : Heap, H = s.heap := ⟨_, rfl⟩
  obtain ⟨locs, hlocs⟩ : ∃ z : List Loc, z = [] := ⟨_, rfl⟩
  rw [← hH, ← hlocs] at hB
  rw [← hH, ← hlocs]
  refine q_ald_n cx dX1_sendInThought_0 rfl (lv_at hl 0 rfl) ?_
  obtain ⟨p12, ep12⟩ : ∃ zz, q_ir (q_r f v 0) zz := ⟨_, q_irr _⟩
  refine q_gX1_12 cx hB hv kv ep12 dX1_sendInThought_1 (fun hb13 kb13 => ?_)
  refine q_ald_n cx dX1_sendInThought_4 rfl (lv_at hl 1 rfl) ?_
  refine q_cVv (As := [.ref p0]) (rest := []) cx hB (fun _ h => h) hN hb13 kb13 (by decide) rfl (g_X10_copyFrom_30 l g hN hB.2.1 p12 hb13 kb13 p0 hp0 kp0) q_cX1_18 q_dX10_copyFrom (by decide) rfl rfl hl.1 rfl (Nat.le_of_ble_eq_true rfl) dX1_sendInThought_5 (fun H locs f14 h16 hF hB => ?_)
  have z17 : q_ir (q_r f14 v 0) p12 := Eq.trans (hF.r hv (by rw [kv]; rfl)) ep12
  refine q_ald_n cx dX1_sendInThought_8 rfl (lv_at hl 0 rfl) ?_
  refine q_gX1_12 cx hB hv kv z17 dX1_sendInThought_9 (fun hb18 kb18 => ?_)
  refine q_ild_n cx dX1_sendInThought_12 rfl (lv_at hl 2 rfl) ?_
  refine q_ild_n cx dX1_sendInThought_13 rfl (lv_at hl 3 rfl) ?_
  refine q_iconst cx dX1_sendInThought_14 ?_
  refine lv_iload cx.1 cx.2.1 dX1_sendInThought_15 (lv_at hl 4 rfl) ?_
  refine q_cVi (As := [.int (q_i p1), .int (q_i p2), .int (q_i 1), .int (q_i p3)]) (rest := []) cx hB (fun _ h => h) hN hb13 kb13 (by decide) rfl (g_X10_addMessage_3 l g hN hB.2.1 p12 hb13 kb13 p1 (by omega) (by omega) p2 (by omega) (by omega) 1 (by decide) (by decide) p3 (by omega) (by omega)) q_cX1_34 q_dX10_addMessage (by decide) rfl rfl hl.1 rfl (Nat.le_of_ble_eq_true rfl) dX1_sendInThought_17 (fun y20 H locs f19 ry20 h21 hF hB => ?_)
  obtain ⟨ly20, uy20⟩ := h21
  have z22 : q_ir (q_r f19 v 0) p12 := Eq.trans (hF.r hv (by rw [kv]; rfl)) z17
  refine q_iret cx hr hlk hB dX1_sendInThought_20 ⟨by omega, by omega⟩ ?_
  exact ⟨(by omega), (by omega)⟩
set_option maxHeartbeats 4000000 in
set_option maxRecDepth 100000 in
theorem g_X1_ticksIfSent (l : Launch) (g : q_G) {K : Nat → Nat} {L : List Nat} (hN : L.Nodup) {f : Nat → va_E} (hT : q_Ty g K L f) (v : Nat) (hv : v ∈ L) (kv : K v = 1) (p0 : Nat) (hp0 : p0 ∈ L) (kp0 : K p0 = 10) (p1 : Int) (lp1 : (-2147483648) ≤ p1) (up1 : p1 ≤ 2147483647) (p2 : Int) (lp2 : (-2147483648) ≤ p2) (up2 : p2 ≤ 2147483647) (p3 : Int) (lp3 : 0 ≤ p3) (up3 : p3 ≤ 1) : q_Ct l g K L yX1_ticksIfSent cX1_ticksIfSent 5 (some .int) 6 149 [.ref v, .ref p0, .int (q_i p1), .int (q_i p2), .int (q_i p3)] f [(15, 3, 15), (19, 0, 9), (23, 0, 4), (27, 0, 7)] (q_Pi (fun (z : Int) (f1 : Nat → va_E) => (-1) ≤ z ∧ z ≤ 1000)) := by
  refine q_ofb (by decide +kernel) hN hT (Nat.le_of_ble_eq_true rfl) ?_
  intro p e s m below meth c ls cx hr hlk hB hl
  have hl : lv_has ls 5 [(0, .ref v), (1, .ref p0), (2, .int (q_i p1)), (3, .int (q_i p2)), (4, .int (q_i p3))] := hl
  have J16 : ∀  (H : Heap) (locs : List Loc) (hB : q_B g K L (fun q => q ∈ L) [(15, 3, 15), (19, 0, 9), (23, 0, 4), (27, 0, 7)] f f s H locs) (ls : Array Slot) (hl : lv_has ls 5 []), W p l e { frames := 6, cells := 0, slots := 0, locals := 149 } s m ([.ref v, .ref p0, .int (q_i p1), .int (q_i p2), .int (q_i p3)] : List Value).toArray below meth c H locs 0 0 (MQ below (q_Q g K L [(15, 3, 15), (19, 0, 9), (23, 0, 4), (27, 0, 7)] f (q_Pi (fun (z : Int) (f1 : Nat → va_E) => (-1) ≤ z ∧ z ≤ 1000))) ([.ref v, .ref p0, .int (q_i p1), .int (q_i p2), .int (q_i p3)] : List Value).toArray s 0 0 (fun q => q ∈ L)) (F0 m 16 ls []) := by
    intro  H locs hB ls hl
    refine q_iconst cx dX1_ticksIfSent_16 ?_
    refine q_iret cx hr hlk hB dX1_ticksIfSent_17 ⟨by decide, by decide⟩ ?_
    exact ⟨(by decide), (by decide)⟩
  obtain ⟨H, hH⟩ : ∃ H : Heap, H = s.heap := ⟨_, rfl⟩
  obtain ⟨locs, hlocs⟩ : ∃ z : List Loc, z = [] := ⟨_, rfl⟩
  rw [← hH, ← hlocs] at hB
  rw [← hH, ← hlocs]
  refine q_ald_n cx dX1_ticksIfSent_0 rfl (lv_at hl 1 rfl) ?_
  refine q_ild_n cx dX1_ticksIfSent_1 rfl (lv_at hl 2 rfl) ?_
  refine q_cVi (As := [.int (q_i p1)]) (rest := []) cx hB (fun _ h => h) hN hp0 kp0 (by decide) rfl (g_X10_isOut l g hN hB.2.1 p0 hp0 kp0 p1 (by omega) (by omega)) q_cX1_26 q_dX10_isOut (by decide) rfl rfl hl.1 rfl (Nat.le_of_ble_eq_true rfl) dX1_ticksIfSent_2 (fun y16 H locs f15 ry16 h17 hF hB => ?_)
  obtain ⟨rfl, ly16, uy16⟩ := h17
  refine q_ifne (tgt := 16) cx ⟨by omega, by omega⟩ dX1_ticksIfSent_5 (by decide) (fun c18 => ?_) (fun c18 => ?_)
  · exact J16  H locs hB ls (lv_sub hl [] rfl)
  · refine q_ald_n cx dX1_ticksIfSent_8 rfl (lv_at hl 1 rfl) ?_
    refine q_ild_n cx dX1_ticksIfSent_9 rfl (lv_at hl 3 rfl) ?_
    refine q_cVi (As := [.int (q_i p2)]) (rest := []) cx hB (fun _ h => h) hN hp0 kp0 (by decide) rfl (g_X10_isOut l g hN hB.2.1 p0 hp0 kp0 p2 (by omega) (by omega)) q_cX1_26 q_dX10_isOut (by decide) rfl rfl hl.1 rfl (Nat.le_of_ble_eq_true rfl) dX1_ticksIfSent_10 (fun y20 H locs f19 ry20 h21 hF hB => ?_)
    obtain ⟨rfl, ly20, uy20⟩ := h21
    refine q_ifeq (tgt := 18) cx ⟨by omega, by omega⟩ dX1_ticksIfSent_13 (by decide) (fun c22 => ?_) (fun c22 => ?_)
    · refine q_ald_n cx dX1_ticksIfSent_18 rfl (lv_at hl 0 rfl) ?_
      refine q_ald_n cx dX1_ticksIfSent_19 rfl (lv_at hl 0 rfl) ?_
      refine q_ald_n cx dX1_ticksIfSent_20 rfl (lv_at hl 1 rfl) ?_
      refine q_ild_n cx dX1_ticksIfSent_21 rfl (lv_at hl 2 rfl) ?_
      refine q_ild_n cx dX1_ticksIfSent_22 rfl (lv_at hl 3 rfl) ?_
      refine lv_iload cx.1 cx.2.1 dX1_ticksIfSent_23 (lv_at hl 4 rfl) ?_
      refine q_cVi (As := [.ref p0, .int (q_i p1), .int (q_i p2), .int (q_i p3)]) (rest := [.ref v]) cx hB (fun _ h => h) hN hv kv (by decide) rfl (g_X1_sendInThought l g hN hB.2.1 v hv kv p0 hp0 kp0 p1 (by omega) (by omega) p2 (by omega) (by omega) p3 (by omega) (by omega)) q_cX1_30 q_dX1_sendInThought (by decide) rfl rfl hl.1 rfl (Nat.le_of_ble_eq_true rfl) dX1_ticksIfSent_25 (fun y24 H locs f23 ry24 h25 hF hB => ?_)
      obtain ⟨ly24, uy24⟩ := h25
      refine q_sipush cx dX1_ticksIfSent_28 rfl ?_
      refine q_cVi (As := [.int (q_i y24), .int (q_i 200)]) (rest := []) cx hB (fun _ h => h) hN hv kv (by decide) rfl (g_X1_trialArrival l g hN hB.2.1 v hv kv y24 (by omega) (by omega) 200 (by decide) (by decide)) q_cX1_22 q_dX1_trialArrival (by decide) rfl rfl hl.1 rfl (Nat.le_of_ble_eq_true rfl) dX1_ticksIfSent_31 (fun y27 H locs f26 ry27 h28 hF hB => ?_)
      obtain ⟨ly27, uy27⟩ := h28
      refine q_iret cx hr hlk hB dX1_ticksIfSent_34 ⟨by omega, by omega⟩ ?_
      exact ⟨(by omega), (by omega)⟩
    · exact J16  H locs hB ls (lv_sub hl [] rfl)
set_option maxHeartbeats 4000000 in
set_option maxRecDepth 100000 in
theorem g_X1_ticksToOut (l : Launch) (g : q_G) {K : Nat → Nat} {L : List Nat} (hN : L.Nodup) {f : Nat → va_E} (hT : q_Ty g K L f) (v : Nat) (hv : v ∈ L) (kv : K v = 1) (p0 : Nat) (hp0 : p0 ∈ L) (kp0 : K p0 = 10) (p1 : Int) (lp1 : (-2147483648) ≤ p1) (up1 : p1 ≤ 2147483647) : q_Ct l g K L yX1_ticksToOut cX1_ticksToOut 4 (some .int) 5 125 [.ref v, .ref p0, .int (q_i p1)] f [(15, 3, 15), (19, 0, 9), (23, 0, 4), (27, 0, 7)] (q_Pi (fun (z : Int) (f1 : Nat → va_E) => (-1) ≤ z ∧ z ≤ 200)) := by
  refine q_ofb (by decide +kernel) hN hT (Nat.le_of_ble_eq_true rfl) ?_
  intro p e s m below meth c ls cx hr hlk hB hl
  have hl : lv_has ls 4 [(0, .ref v), (1, .ref p0), (2, .int (q_i p1))] := hl
  have J10 : ∀ (n : Nat) (f10 : Nat → va_E) (v10_3 : Int) (lv10_3 : 0 ≤ v10_3) (uv10_3 : v10_3 ≤ 255) (hmu : (Int.toNat (2147483647 - v10_3)) < n) (H : Heap) (locs : List Loc) (hB : q_B g K L (fun q => q ∈ L) [(15, 3, 15), (19, 0, 9), (23, 0, 4), (27, 0, 7)] f f10 s H locs) (ls : Array Slot) (hl : lv_has ls 4 [(0, .ref v), (2, .int (q_i p1)), (3, .int (q_i v10_3))]), W p l e { frames := 5, cells := 0, slots := 0, locals := 125 } s m ([.ref v, .ref p0, .int (q_i p1)] : List Value).toArray below meth c H locs 0 0 (MQ below (q_Q g K L [(15, 3, 15), (19, 0, 9), (23, 0, 4), (27, 0, 7)] f (q_Pi (fun (z : Int) (f1 : Nat → va_E) => (-1) ≤ z ∧ z ≤ 200))) ([.ref v, .ref p0, .int (q_i p1)] : List Value).toArray s 0 0 (fun q => q ∈ L)) (F0 m 10 ls []) := by
    intro n
    induction n with
    | zero =>
      intro f10 v10_3 lv10_3 uv10_3 hmu
      exact absurd hmu (Nat.not_lt_zero _)
    | succ n ih10 =>
      intro f10 v10_3 lv10_3 uv10_3 hmu H locs hB ls hl
      refine q_ild_n cx dX1_ticksToOut_10 rfl (lv_at hl 2 rfl) ?_
      refine q_sipush cx dX1_ticksToOut_11 rfl ?_
      refine q_icgt (tgt := 45) cx ⟨by omega, by omega⟩ ⟨by decide, by decide⟩ dX1_ticksToOut_14 (by decide) (fun c307 => ?_) (fun c307 => ?_)
      · refine q_iconst cx dX1_ticksToOut_45 ?_
        refine q_iret cx hr hlk hB dX1_ticksToOut_46 ⟨by decide, by decide⟩ ?_
        exact ⟨(by decide), (by decide)⟩
      · refine q_ald_n cx dX1_ticksToOut_17 rfl (lv_at hl 0 rfl) ?_
        obtain ⟨p308, ep308⟩ : ∃ zz, q_ir (q_r f10 v 0) zz := ⟨_, q_irr _⟩
        refine q_gX1_12 cx hB hv kv ep308 dX1_ticksToOut_18 (fun hb309 kb309 => ?_)
        refine q_ild_n cx dX1_ticksToOut_21 rfl (lv_at hl 1 rfl) ?_
        refine q_cVi (As := [.int (q_i p1)]) (rest := []) cx hB (fun _ h => h) hN hb309 kb309 (by decide) rfl (g_X10_isOut_3 l g hN hB.2.1 p308 hb309 kb309 p1 (by omega) (by omega)) q_cX1_26 q_dX10_isOut (by decide) rfl rfl hl.1 rfl (Nat.le_of_ble_eq_true rfl) dX1_ticksToOut_22 (fun y311 H locs f310 ry311 h312 hF hB => ?_)
        obtain ⟨rfl, ly311, uy311⟩ := h312
        refine q_ifeq (tgt := 30) cx ⟨by omega, by omega⟩ dX1_ticksToOut_25 (by decide) (fun c313 => ?_) (fun c313 => ?_)
        · refine q_ald_n cx dX1_ticksToOut_30 rfl (lv_at hl 0 rfl) ?_
          refine q_gX1_12 cx hB hv kv ep308 dX1_ticksToOut_31 (fun hb314 kb314 => ?_)
          refine q_iconst cx dX1_ticksToOut_34 ?_
          refine q_cVi (As := [.int (q_i 1)]) (rest := []) cx hB (fun _ h => h) hN hb309 kb309 (by decide) rfl (g_X10_passTicks_3 l g hN hB.2.1 p308 hb309 kb309 1 (by decide) (by decide)) q_cX1_48 q_dX10_passTicks (by decide) rfl rfl hl.1 rfl (Nat.le_of_ble_eq_true rfl) dX1_ticksToOut_35 (fun y316 H locs f315 ry316 h317 hF hB => ?_)
          have z318 : q_ir (q_r f315 v 0) p308 := Eq.trans (hF.r hv (by rw [kv]; rfl)) ep308
          refine lv_pop cx.1 cx.2.1 dX1_ticksToOut_38 rfl ?_
          refine q_iinc (lv' := [(3, .int (q_i (v10_3 + 1))), (0, .ref v), (2, .int (q_i p1))]) cx dX1_ticksToOut_39 hl (k := 2) rfl (by decide) rfl (fun ls hl => ?_)
          refine lv_goto (tgt := 10) cx.1 cx.2.1 dX1_ticksToOut_42 (by decide) ?_
          exact ih10 f315 (v10_3 + 1) (by omega) (by omega) (by omega) H locs hB ls (lv_sub hl [1, 2, 0] rfl)
        · refine q_ild_n cx dX1_ticksToOut_28 rfl (lv_at hl 2 rfl) ?_
          refine q_iret cx hr hlk hB dX1_ticksToOut_29 ⟨by omega, by omega⟩ ?_
          exact ⟨(by omega), (by omega)⟩
  obtain ⟨H, hH⟩ : ∃ H : Heap, H = s.heap := ⟨_, rfl⟩
  obtain ⟨locs, hlocs⟩ : ∃ z : List Loc, z = [] := ⟨_, rfl⟩
  rw [← hH, ← hlocs] at hB
  rw [← hH, ← hlocs]
  refine q_ald_n cx dX1_ticksToOut_0 rfl (lv_at hl 0 rfl) ?_
  obtain ⟨p319, ep319⟩ : ∃ zz, q_ir (q_r f v 0) zz := ⟨_, q_irr _⟩
  refine q_gX1_12 cx hB hv kv ep319 dX1_ticksToOut_1 (fun hb320 kb320 => ?_)
  refine q_ald_n cx dX1_ticksToOut_4 rfl (lv_at hl 1 rfl) ?_
  refine q_cVv (As := [.ref p0]) (rest := []) cx hB (fun _ h => h) hN hb320 kb320 (by decide) rfl (g_X10_copyFrom_30 l g hN hB.2.1 p319 hb320 kb320 p0 hp0 kp0) q_cX1_18 q_dX10_copyFrom (by decide) rfl rfl hl.1 rfl (Nat.le_of_ble_eq_true rfl) dX1_ticksToOut_5 (fun H locs f321 h323 hF hB => ?_)
  have z324 : q_ir (q_r f321 v 0) p319 := Eq.trans (hF.r hv (by rw [kv]; rfl)) ep319
  refine q_iconst cx dX1_ticksToOut_8 ?_
  refine lv_istore_n (lv' := [(3, .int (q_i 0)), (0, .ref v), (1, .ref p0), (2, .int (q_i p1))]) cx.1 cx.2.1 dX1_ticksToOut_9 rfl hl (by decide) rfl (fun ls hl => ?_)
  exact J10 ((Int.toNat (2147483647 - 0)) + 1) f321 0 (by decide) (by decide) (Nat.lt_succ_self _) H locs hB ls (lv_sub hl [1, 3, 0] rfl)
set_option maxHeartbeats 4000000 in
set_option maxRecDepth 100000 in
theorem g_X1_energyAfter (l : Launch) (g : q_G) {K : Nat → Nat} {L : List Nat} (hN : L.Nodup) {f : Nat → va_E} (hT : q_Ty g K L f) (v : Nat) (hv : v ∈ L) (kv : K v = 1) (p0 : Nat) (hp0 : p0 ∈ L) (kp0 : K p0 = 10) (p1 : Int) (lp1 : (-2147483648) ≤ p1) (up1 : p1 ≤ 2147483647) (p2 : Int) (lp2 : (-2147483648) ≤ p2) (up2 : p2 ≤ 2147483647) : q_Ct l g K L yX1_energyAfter cX1_energyAfter 4 (some .int) 5 125 [.ref v, .ref p0, .int (q_i p1), .int (q_i p2)] f [(15, 3, 15), (19, 0, 9), (23, 0, 4), (27, 0, 7)] (q_Pi (fun (z : Int) (f1 : Nat → va_E) => True)) := by
  refine q_ofb (by decide +kernel) hN hT (Nat.le_of_ble_eq_true rfl) ?_
  intro p e s m below meth c ls cx hr hlk hB hl
  have hl : lv_has ls 4 [(0, .ref v), (1, .ref p0), (2, .int (q_i p1)), (3, .int (q_i p2))] := hl
  obtain ⟨H, hH⟩ : ∃ H : Heap, H = s.heap := ⟨_, rfl⟩
  obtain ⟨locs, hlocs⟩ : ∃ z : List Loc, z = [] := ⟨_, rfl⟩
  rw [← hH, ← hlocs] at hB
  rw [← hH, ← hlocs]
  refine q_ald_n cx dX1_energyAfter_0 rfl (lv_at hl 0 rfl) ?_
  obtain ⟨p18, ep18⟩ : ∃ zz, q_ir (q_r f v 0) zz := ⟨_, q_irr _⟩
  refine q_gX1_12 cx hB hv kv ep18 dX1_energyAfter_1 (fun hb19 kb19 => ?_)
  refine q_ald_n cx dX1_energyAfter_4 rfl (lv_at hl 1 rfl) ?_
  refine q_cVv (As := [.ref p0]) (rest := []) cx hB (fun _ h => h) hN hb19 kb19 (by decide) rfl (g_X10_copyFrom_30 l g hN hB.2.1 p18 hb19 kb19 p0 hp0 kp0) q_cX1_18 q_dX10_copyFrom (by decide) rfl rfl hl.1 rfl (Nat.le_of_ble_eq_true rfl) dX1_energyAfter_5 (fun H locs f20 h22 hF hB => ?_)
  have z23 : q_ir (q_r f20 v 0) p18 := Eq.trans (hF.r hv (by rw [kv]; rfl)) ep18
  refine q_ald_n cx dX1_energyAfter_8 rfl (lv_at hl 0 rfl) ?_
  refine q_gX1_12 cx hB hv kv z23 dX1_energyAfter_9 (fun hb24 kb24 => ?_)
  refine q_ild_n cx dX1_energyAfter_12 rfl (lv_at hl 3 rfl) ?_
  refine q_cVi (As := [.int (q_i p2)]) (rest := []) cx hB (fun _ h => h) hN hb19 kb19 (by decide) rfl (g_X10_passTicks_3 l g hN hB.2.1 p18 hb19 kb19 p2 (by omega) (by omega)) q_cX1_48 q_dX10_passTicks (by decide) rfl rfl hl.1 rfl (Nat.le_of_ble_eq_true rfl) dX1_energyAfter_13 (fun y26 H locs f25 ry26 h27 hF hB => ?_)
  have z28 : q_ir (q_r f25 v 0) p18 := Eq.trans (hF.r hv (by rw [kv]; rfl)) z23
  refine lv_pop cx.1 cx.2.1 dX1_energyAfter_16 rfl ?_
  refine q_ald_n cx dX1_energyAfter_17 rfl (lv_at hl 0 rfl) ?_
  refine q_gX1_12 cx hB hv kv z28 dX1_energyAfter_18 (fun hb29 kb29 => ?_)
  refine q_ild_n cx dX1_energyAfter_21 rfl (lv_at hl 2 rfl) ?_
  refine q_cVr (As := [.int (q_i p1)]) (rest := []) cx hB (fun _ h => h) hN hb19 kb19 (by decide) rfl (g_X10_nodeAt_3 l g hN hB.2.1 p18 hb19 kb19 p1 (by omega) (by omega)) q_cX1_52 q_dX10_nodeAt (by decide) rfl rfl hl.1 rfl (Nat.le_of_ble_eq_true rfl) dX1_energyAfter_22 (fun y31 H locs f30 h32 hF hB => ?_)
  obtain ⟨rfl, hy31, ky31⟩ := h32
  obtain ⟨x33, ex33⟩ : ∃ zz, q_is (q_z f25 y31 4) zz := ⟨_, q_isr _⟩
  refine q_gX1_56_19 cx hB hy31 ky31 ex33 dX1_energyAfter_25 (fun lb34 ub34 => ?_)
  refine q_iret cx hr hlk hB dX1_energyAfter_28 ⟨by omega, by omega⟩ ?_
  trivial
set_option maxHeartbeats 4000000 in
set_option maxRecDepth 100000 in
theorem g_X1_ticksToShiftTaken (l : Launch) (g : q_G) {K : Nat → Nat} {L : List Nat} (hN : L.Nodup) {f : Nat → va_E} (hT : q_Ty g K L f) (v : Nat) (hv : v ∈ L) (kv : K v = 1) (p0 : Nat) (hp0 : p0 ∈ L) (kp0 : K p0 = 10) : q_Ct l g K L yX1_ticksToShiftTaken cX1_ticksToShiftTaken 3 (some .int) 5 125 [.ref v, .ref p0] f [(15, 3, 15), (19, 0, 9), (23, 0, 4), (27, 0, 7)] (q_Pi (fun (z : Int) (f1 : Nat → va_E) => (-1) ≤ z ∧ z ≤ 200)) := by
  refine q_ofb (by decide +kernel) hN hT (Nat.le_of_ble_eq_true rfl) ?_
  intro p e s m below meth c ls cx hr hlk hB hl
  have hl : lv_has ls 3 [(0, .ref v), (1, .ref p0)] := hl
  have J10 : ∀ (n : Nat) (f10 : Nat → va_E) (v10_2 : Int) (lv10_2 : 1 ≤ v10_2) (uv10_2 : v10_2 ≤ 255) (hmu : (Int.toNat (2147483647 - v10_2)) < n) (H : Heap) (locs : List Loc) (hB : q_B g K L (fun q => q ∈ L) [(15, 3, 15), (19, 0, 9), (23, 0, 4), (27, 0, 7)] f f10 s H locs) (ls : Array Slot) (hl : lv_has ls 3 [(0, .ref v), (1, .ref p0), (2, .int (q_i v10_2))]), W p l e { frames := 5, cells := 0, slots := 0, locals := 125 } s m ([.ref v, .ref p0] : List Value).toArray below meth c H locs 0 0 (MQ below (q_Q g K L [(15, 3, 15), (19, 0, 9), (23, 0, 4), (27, 0, 7)] f (q_Pi (fun (z : Int) (f1 : Nat → va_E) => (-1) ≤ z ∧ z ≤ 200))) ([.ref v, .ref p0] : List Value).toArray s 0 0 (fun q => q ∈ L)) (F0 m 10 ls []) := by
    intro n
    induction n with
    | zero =>
      intro f10 v10_2 lv10_2 uv10_2 hmu
      exact absurd hmu (Nat.not_lt_zero _)
    | succ n ih10 =>
      intro f10 v10_2 lv10_2 uv10_2 hmu H locs hB ls hl
      refine q_ild_n cx dX1_ticksToShiftTaken_10 rfl (lv_at hl 2 rfl) ?_
      refine q_sipush cx dX1_ticksToShiftTaken_11 rfl ?_
      refine q_icgt (tgt := 48) cx ⟨by omega, by omega⟩ ⟨by decide, by decide⟩ dX1_ticksToShiftTaken_14 (by decide) (fun c319 => ?_) (fun c319 => ?_)
      · refine q_iconst cx dX1_ticksToShiftTaken_48 ?_
        refine q_iret cx hr hlk hB dX1_ticksToShiftTaken_49 ⟨by decide, by decide⟩ ?_
        exact ⟨(by decide), (by decide)⟩
      · refine q_ald_n cx dX1_ticksToShiftTaken_17 rfl (lv_at hl 0 rfl) ?_
        obtain ⟨p320, ep320⟩ : ∃ zz, q_ir (q_r f10 v 0) zz := ⟨_, q_irr _⟩
        refine q_gX1_12 cx hB hv kv ep320 dX1_ticksToShiftTaken_18 (fun hb321 kb321 => ?_)
        refine q_iconst cx dX1_ticksToShiftTaken_21 ?_
        refine q_cVi (As := [.int (q_i 1)]) (rest := []) cx hB (fun _ h => h) hN hb321 kb321 (by decide) rfl (g_X10_passTicks_3 l g hN hB.2.1 p320 hb321 kb321 1 (by decide) (by decide)) q_cX1_48 q_dX10_passTicks (by decide) rfl rfl hl.1 rfl (Nat.le_of_ble_eq_true rfl) dX1_ticksToShiftTaken_22 (fun y323 H locs f322 ry323 h324 hF hB => ?_)
        have z325 : q_ir (q_r f322 v 0) p320 := Eq.trans (hF.r hv (by rw [kv]; rfl)) ep320
        refine lv_pop cx.1 cx.2.1 dX1_ticksToShiftTaken_25 rfl ?_
        refine q_ald_n cx dX1_ticksToShiftTaken_26 rfl (lv_at hl 0 rfl) ?_
        refine q_gX1_12 cx hB hv kv z325 dX1_ticksToShiftTaken_27 (fun hb326 kb326 => ?_)
        obtain ⟨x327, ex327⟩ : ∃ zz, q_is (q_z f322 p320 12) zz := ⟨_, q_isr _⟩
        refine q_gX1_61_15 cx hB hb321 kb321 ex327 dX1_ticksToShiftTaken_30 (fun lb328 ub328 => ?_)
        refine q_ald_n cx dX1_ticksToShiftTaken_33 rfl (lv_at hl 1 rfl) ?_
        obtain ⟨x329, ex329⟩ : ∃ zz, q_is (q_z f322 p0 12) zz := ⟨_, q_isr _⟩
        refine q_gX1_61 cx hB hp0 kp0 ex329 dX1_ticksToShiftTaken_34 (fun lb330 ub330 => ?_)
        refine q_iceq (tgt := 42) cx ⟨by omega, by omega⟩ ⟨by omega, by omega⟩ dX1_ticksToShiftTaken_37 (by decide) (fun c331 => ?_) (fun c331 => ?_)
        · refine q_iinc (lv' := [(2, .int (q_i (v10_2 + 1))), (0, .ref v), (1, .ref p0)]) cx dX1_ticksToShiftTaken_42 hl (k := 2) rfl (by decide) rfl (fun ls hl => ?_)
          refine lv_goto (tgt := 10) cx.1 cx.2.1 dX1_ticksToShiftTaken_45 (by decide) ?_
          exact ih10 f322 (v10_2 + 1) (by omega) (by omega) (by omega) H locs hB ls (lv_sub hl [1, 2, 0] rfl)
        · refine q_ild_n cx dX1_ticksToShiftTaken_40 rfl (lv_at hl 2 rfl) ?_
          refine q_iret cx hr hlk hB dX1_ticksToShiftTaken_41 ⟨by omega, by omega⟩ ?_
          exact ⟨(by omega), (by omega)⟩
  obtain ⟨H, hH⟩ : ∃ H : Heap, H = s.heap := ⟨_, rfl⟩
  obtain ⟨locs, hlocs⟩ : ∃ z : List Loc, z = [] := ⟨_, rfl⟩
  rw [← hH, ← hlocs] at hB
  rw [← hH, ← hlocs]
  refine q_ald_n cx dX1_ticksToShiftTaken_0 rfl (lv_at hl 0 rfl) ?_
  obtain ⟨p332, ep332⟩ : ∃ zz, q_ir (q_r f v 0) zz := ⟨_, q_irr _⟩
  refine q_gX1_12 cx hB hv kv ep332 dX1_ticksToShiftTaken_1 (fun hb333 kb333 => ?_)
  refine q_ald_n cx dX1_ticksToShiftTaken_4 rfl (lv_at hl 1 rfl) ?_
  refine q_cVv (As := [.ref p0]) (rest := []) cx hB (fun _ h => h) hN hb333 kb333 (by decide) rfl (g_X10_copyFrom_30 l g hN hB.2.1 p332 hb333 kb333 p0 hp0 kp0) q_cX1_18 q_dX10_copyFrom (by decide) rfl rfl hl.1 rfl (Nat.le_of_ble_eq_true rfl) dX1_ticksToShiftTaken_5 (fun H locs f334 h336 hF hB => ?_)
  have z337 : q_ir (q_r f334 v 0) p332 := Eq.trans (hF.r hv (by rw [kv]; rfl)) ep332
  refine q_iconst cx dX1_ticksToShiftTaken_8 ?_
  refine lv_istore_n (lv' := [(2, .int (q_i 1)), (0, .ref v), (1, .ref p0)]) cx.1 cx.2.1 dX1_ticksToShiftTaken_9 rfl hl (by decide) rfl (fun ls hl => ?_)
  exact J10 ((Int.toNat (2147483647 - 1)) + 1) f334 1 (by decide) (by decide) (Nat.lt_succ_self _) H locs hB ls (lv_sub hl [1, 2, 0] rfl)
set_option maxHeartbeats 4000000 in
set_option maxRecDepth 100000 in
theorem g_X10_turnWatch (l : Launch) (g : q_G) {K : Nat → Nat} {L : List Nat} (hN : L.Nodup) {f : Nat → va_E} (hT : q_Ty g K L f) (v : Nat) (hv : v ∈ L) (kv : K v = 10) (p0 : Int) (lp0 : (-2147483648) ≤ p0) (up0 : p0 ≤ 2147483647) (p1 : Int) (lp1 : (-2147483648) ≤ p1) (up1 : p1 ≤ 2147483647) : q_Ct l g K L yX10_turnWatch cX10_turnWatch 3 none 1 21 [.ref v, .int (q_i p0), .int (q_i p1)] f [(5, 1, 1)] (q_Pv (fun (f1 : Nat → va_E) => True)) := by
  refine q_ofb (by decide +kernel) hN hT (Nat.le_of_ble_eq_true rfl) ?_
  intro p e s m below meth c ls cx hr hlk hB hl
  have hl : lv_has ls 3 [(0, .ref v), (1, .int (q_i p0)), (2, .int (q_i p1))] := hl
  obtain ⟨H, hH⟩ : ∃ H : Heap, H = s.heap := ⟨_, rfl⟩
  obtain ⟨locs, hlocs⟩ : ∃ z : List Loc, z = [] := ⟨_, rfl⟩
  rw [← hH, ← hlocs] at hB
  rw [← hH, ← hlocs]
  refine q_ald_n cx dX10_turnWatch_0 rfl (lv_at hl 0 rfl) ?_
  refine q_ild_n cx dX10_turnWatch_1 rfl (lv_at hl 1 rfl) ?_
  refine q_cVr (As := [.int (q_i p0)]) (rest := []) cx hB (fun _ h => h) hN hv kv (by decide) rfl (g_X10_nodeAt l g hN hB.2.1 v hv kv p0 (by omega) (by omega)) q_cX10_66 q_dX10_nodeAt (by decide) rfl rfl hl.1 rfl (Nat.le_of_ble_eq_true rfl) dX10_turnWatch_2 (fun y10 H locs f9 h11 hF hB => ?_)
  obtain ⟨rfl, hy10, ky10⟩ := h11
  refine lv_dup cx.1 cx.2.1 dX10_turnWatch_5 rfl ?_
  obtain ⟨j12, ej12⟩ : ∃ zz, q_j f y10 1 = zz := ⟨_, rfl⟩
  refine q_gX10_92 cx hB hy10 ky10 ej12 dX10_turnWatch_6 ?_
  refine q_lconst (z := 1) cx (by decide) dX10_turnWatch_9 ?_
  refine q_ild_n cx dX10_turnWatch_10 rfl (lv_at hl 2 rfl) ?_
  refine lv_lshl cx.1 cx.2.1 dX10_turnWatch_11 rfl ?_
  refine lv_topl (fun j13 ej13 => ?_)
  refine lv_lxor cx.1 cx.2.1 dX10_turnWatch_12 ?_
  refine lv_topl (fun j14 ej14 => ?_)
  refine q_pX10_92 cx hB hy10 ky10 rfl dX10_turnWatch_13 (fun H locs f15 ef15 z16 hB => ?_)
  refine q_vret cx hr hlk hB dX10_turnWatch_16 ?_
  trivial
set_option maxHeartbeats 4000000 in
set_option maxRecDepth 100000 in
theorem g_X10_turnWatch_1 (l : Launch) (g : q_G) {K : Nat → Nat} {L : List Nat} (hN : L.Nodup) {f : Nat → va_E} (hT : q_Ty g K L f) (v : Nat) (hv : v ∈ L) (kv : K v = 13) (p0 : Int) (lp0 : (-2147483648) ≤ p0) (up0 : p0 ≤ 2147483647) (p1 : Int) (lp1 : (-2147483648) ≤ p1) (up1 : p1 ≤ 2147483647) : q_Ct l g K L yX10_turnWatch cX10_turnWatch 3 none 1 21 [.ref v, .int (q_i p0), .int (q_i p1)] f [(17, 1, 1)] (q_Pv (fun (f1 : Nat → va_E) => True)) := by
  refine q_ofb (by decide +kernel) hN hT (Nat.le_of_ble_eq_true rfl) ?_
  intro p e s m below meth c ls cx hr hlk hB hl
  have hl : lv_has ls 3 [(0, .ref v), (1, .int (q_i p0)), (2, .int (q_i p1))] := hl
  obtain ⟨H, hH⟩ : ∃ H : Heap, H = s.heap := ⟨_, rfl⟩
  obtain ⟨locs, hlocs⟩ : ∃ z : List Loc, z = [] := ⟨_, rfl⟩
  rw [← hH, ← hlocs] at hB
  rw [← hH, ← hlocs]
  refine q_ald_n cx dX10_turnWatch_0 rfl (lv_at hl 0 rfl) ?_
  refine q_ild_n cx dX10_turnWatch_1 rfl (lv_at hl 1 rfl) ?_
  refine q_cVr (As := [.int (q_i p0)]) (rest := []) cx hB (fun _ h => h) hN hv kv (by decide) rfl (g_X10_nodeAt_1 l g hN hB.2.1 v hv kv p0 (by omega) (by omega)) q_cX10_66 q_dX10_nodeAt (by decide) rfl rfl hl.1 rfl (Nat.le_of_ble_eq_true rfl) dX10_turnWatch_2 (fun y10 H locs f9 h11 hF hB => ?_)
  obtain ⟨rfl, hy10, ky10⟩ := h11
  refine lv_dup cx.1 cx.2.1 dX10_turnWatch_5 rfl ?_
  obtain ⟨j12, ej12⟩ : ∃ zz, q_j f y10 1 = zz := ⟨_, rfl⟩
  refine q_gX10_92_17 cx hB hy10 ky10 ej12 dX10_turnWatch_6 ?_
  refine q_lconst (z := 1) cx (by decide) dX10_turnWatch_9 ?_
  refine q_ild_n cx dX10_turnWatch_10 rfl (lv_at hl 2 rfl) ?_
  refine lv_lshl cx.1 cx.2.1 dX10_turnWatch_11 rfl ?_
  refine lv_topl (fun j13 ej13 => ?_)
  refine lv_lxor cx.1 cx.2.1 dX10_turnWatch_12 ?_
  refine lv_topl (fun j14 ej14 => ?_)
  refine q_pX10_92_17 cx hB hy10 ky10 rfl dX10_turnWatch_13 (fun H locs f15 ef15 z16 hB => ?_)
  refine q_vret cx hr hlk hB dX10_turnWatch_16 ?_
  trivial
set_option maxHeartbeats 4000000 in
set_option maxRecDepth 100000 in
theorem g_X10_turnWatch_2 (l : Launch) (g : q_G) {K : Nat → Nat} {L : List Nat} (hN : L.Nodup) {f : Nat → va_E} (hT : q_Ty g K L f) (v : Nat) (hv : v ∈ L) (kv : K v = 14) (p0 : Int) (lp0 : (-2147483648) ≤ p0) (up0 : p0 ≤ 2147483647) (p1 : Int) (lp1 : (-2147483648) ≤ p1) (up1 : p1 ≤ 2147483647) : q_Ct l g K L yX10_turnWatch cX10_turnWatch 3 none 1 21 [.ref v, .int (q_i p0), .int (q_i p1)] f [(18, 1, 1)] (q_Pv (fun (f1 : Nat → va_E) => True)) := by
  refine q_ofb (by decide +kernel) hN hT (Nat.le_of_ble_eq_true rfl) ?_
  intro p e s m below meth c ls cx hr hlk hB hl
  have hl : lv_has ls 3 [(0, .ref v), (1, .int (q_i p0)), (2, .int (q_i p1))] := hl
  obtain ⟨H, hH⟩ : ∃ H : Heap, H = s.heap := ⟨_, rfl⟩
  obtain ⟨locs, hlocs⟩ : ∃ z : List Loc, z = [] := ⟨_, rfl⟩
  rw [← hH, ← hlocs] at hB
  rw [← hH, ← hlocs]
  refine q_ald_n cx dX10_turnWatch_0 rfl (lv_at hl 0 rfl) ?_
  refine q_ild_n cx dX10_turnWatch_1 rfl (lv_at hl 1 rfl) ?_
  refine q_cVr (As := [.int (q_i p0)]) (rest := []) cx hB (fun _ h => h) hN hv kv (by decide) rfl (g_X10_nodeAt_2 l g hN hB.2.1 v hv kv p0 (by omega) (by omega)) q_cX10_66 q_dX10_nodeAt (by decide) rfl rfl hl.1 rfl (Nat.le_of_ble_eq_true rfl) dX10_turnWatch_2 (fun y10 H locs f9 h11 hF hB => ?_)
  obtain ⟨rfl, hy10, ky10⟩ := h11
  refine lv_dup cx.1 cx.2.1 dX10_turnWatch_5 rfl ?_
  obtain ⟨j12, ej12⟩ : ∃ zz, q_j f y10 1 = zz := ⟨_, rfl⟩
  refine q_gX10_92_18 cx hB hy10 ky10 ej12 dX10_turnWatch_6 ?_
  refine q_lconst (z := 1) cx (by decide) dX10_turnWatch_9 ?_
  refine q_ild_n cx dX10_turnWatch_10 rfl (lv_at hl 2 rfl) ?_
  refine lv_lshl cx.1 cx.2.1 dX10_turnWatch_11 rfl ?_
  refine lv_topl (fun j13 ej13 => ?_)
  refine lv_lxor cx.1 cx.2.1 dX10_turnWatch_12 ?_
  refine lv_topl (fun j14 ej14 => ?_)
  refine q_pX10_92_18 cx hB hy10 ky10 rfl dX10_turnWatch_13 (fun H locs f15 ef15 z16 hB => ?_)
  refine q_vret cx hr hlk hB dX10_turnWatch_16 ?_
  trivial
set_option maxHeartbeats 4000000 in
set_option maxRecDepth 100000 in
theorem g_X10_turnWatch_3 (l : Launch) (g : q_G) {K : Nat → Nat} {L : List Nat} (hN : L.Nodup) {f : Nat → va_E} (hT : q_Ty g K L f) (v : Nat) (hv : v ∈ L) (kv : K v = 15) (p0 : Int) (lp0 : (-2147483648) ≤ p0) (up0 : p0 ≤ 2147483647) (p1 : Int) (lp1 : (-2147483648) ≤ p1) (up1 : p1 ≤ 2147483647) : q_Ct l g K L yX10_turnWatch cX10_turnWatch 3 none 1 21 [.ref v, .int (q_i p0), .int (q_i p1)] f [(19, 1, 1)] (q_Pv (fun (f1 : Nat → va_E) => True)) := by
  refine q_ofb (by decide +kernel) hN hT (Nat.le_of_ble_eq_true rfl) ?_
  intro p e s m below meth c ls cx hr hlk hB hl
  have hl : lv_has ls 3 [(0, .ref v), (1, .int (q_i p0)), (2, .int (q_i p1))] := hl
  obtain ⟨H, hH⟩ : ∃ H : Heap, H = s.heap := ⟨_, rfl⟩
  obtain ⟨locs, hlocs⟩ : ∃ z : List Loc, z = [] := ⟨_, rfl⟩
  rw [← hH, ← hlocs] at hB
  rw [← hH, ← hlocs]
  refine q_ald_n cx dX10_turnWatch_0 rfl (lv_at hl 0 rfl) ?_
  refine q_ild_n cx dX10_turnWatch_1 rfl (lv_at hl 1 rfl) ?_
  refine q_cVr (As := [.int (q_i p0)]) (rest := []) cx hB (fun _ h => h) hN hv kv (by decide) rfl (g_X10_nodeAt_3 l g hN hB.2.1 v hv kv p0 (by omega) (by omega)) q_cX10_66 q_dX10_nodeAt (by decide) rfl rfl hl.1 rfl (Nat.le_of_ble_eq_true rfl) dX10_turnWatch_2 (fun y10 H locs f9 h11 hF hB => ?_)
  obtain ⟨rfl, hy10, ky10⟩ := h11
  refine lv_dup cx.1 cx.2.1 dX10_turnWatch_5 rfl ?_
  obtain ⟨j12, ej12⟩ : ∃ zz, q_j f y10 1 = zz := ⟨_, rfl⟩
  refine q_gX10_92_19 cx hB hy10 ky10 ej12 dX10_turnWatch_6 ?_
  refine q_lconst (z := 1) cx (by decide) dX10_turnWatch_9 ?_
  refine q_ild_n cx dX10_turnWatch_10 rfl (lv_at hl 2 rfl) ?_
  refine lv_lshl cx.1 cx.2.1 dX10_turnWatch_11 rfl ?_
  refine lv_topl (fun j13 ej13 => ?_)
  refine lv_lxor cx.1 cx.2.1 dX10_turnWatch_12 ?_
  refine lv_topl (fun j14 ej14 => ?_)
  refine q_pX10_92_19 cx hB hy10 ky10 rfl dX10_turnWatch_13 (fun H locs f15 ef15 z16 hB => ?_)
  refine q_vret cx hr hlk hB dX10_turnWatch_16 ?_
  trivial
set_option maxHeartbeats 4000000 in
set_option maxRecDepth 100000 in
theorem g_X10_turnWatch_4 (l : Launch) (g : q_G) {K : Nat → Nat} {L : List Nat} (hN : L.Nodup) {f : Nat → va_E} (hT : q_Ty g K L f) (v : Nat) (hv : v ∈ L) (kv : K v = 16) (p0 : Int) (lp0 : (-2147483648) ≤ p0) (up0 : p0 ≤ 2147483647) (p1 : Int) (lp1 : (-2147483648) ≤ p1) (up1 : p1 ≤ 2147483647) : q_Ct l g K L yX10_turnWatch cX10_turnWatch 3 none 1 21 [.ref v, .int (q_i p0), .int (q_i p1)] f [(20, 1, 1)] (q_Pv (fun (f1 : Nat → va_E) => True)) := by
  refine q_ofb (by decide +kernel) hN hT (Nat.le_of_ble_eq_true rfl) ?_
  intro p e s m below meth c ls cx hr hlk hB hl
  have hl : lv_has ls 3 [(0, .ref v), (1, .int (q_i p0)), (2, .int (q_i p1))] := hl
  obtain ⟨H, hH⟩ : ∃ H : Heap, H = s.heap := ⟨_, rfl⟩
  obtain ⟨locs, hlocs⟩ : ∃ z : List Loc, z = [] := ⟨_, rfl⟩
  rw [← hH, ← hlocs] at hB
  rw [← hH, ← hlocs]
  refine q_ald_n cx dX10_turnWatch_0 rfl (lv_at hl 0 rfl) ?_
  refine q_ild_n cx dX10_turnWatch_1 rfl (lv_at hl 1 rfl) ?_
  refine q_cVr (As := [.int (q_i p0)]) (rest := []) cx hB (fun _ h => h) hN hv kv (by decide) rfl (g_X10_nodeAt_4 l g hN hB.2.1 v hv kv p0 (by omega) (by omega)) q_cX10_66 q_dX10_nodeAt (by decide) rfl rfl hl.1 rfl (Nat.le_of_ble_eq_true rfl) dX10_turnWatch_2 (fun y10 H locs f9 h11 hF hB => ?_)
  obtain ⟨rfl, hy10, ky10⟩ := h11
  refine lv_dup cx.1 cx.2.1 dX10_turnWatch_5 rfl ?_
  obtain ⟨j12, ej12⟩ : ∃ zz, q_j f y10 1 = zz := ⟨_, rfl⟩
  refine q_gX10_92_20 cx hB hy10 ky10 ej12 dX10_turnWatch_6 ?_
  refine q_lconst (z := 1) cx (by decide) dX10_turnWatch_9 ?_
  refine q_ild_n cx dX10_turnWatch_10 rfl (lv_at hl 2 rfl) ?_
  refine lv_lshl cx.1 cx.2.1 dX10_turnWatch_11 rfl ?_
  refine lv_topl (fun j13 ej13 => ?_)
  refine lv_lxor cx.1 cx.2.1 dX10_turnWatch_12 ?_
  refine lv_topl (fun j14 ej14 => ?_)
  refine q_pX10_92_20 cx hB hy10 ky10 rfl dX10_turnWatch_13 (fun H locs f15 ef15 z16 hB => ?_)
  refine q_vret cx hr hlk hB dX10_turnWatch_16 ?_
  trivial
set_option maxHeartbeats 4000000 in
set_option maxRecDepth 100000 in
theorem g_X1_dayToWatch (l : Launch) (g : q_G) {K : Nat → Nat} {L : List Nat} (hN : L.Nodup) {f : Nat → va_E} (hT : q_Ty g K L f) (v : Nat) (hv : v ∈ L) (kv : K v = 1) (p0 : Nat) (hp0 : p0 ∈ L) (kp0 : K p0 = 10) (p1 : Int) (lp1 : (-2147483648) ≤ p1) (up1 : p1 ≤ 2147483647) (p2 : Int) (lp2 : (-2147483648) ≤ p2) (up2 : p2 ≤ 2147483647) : q_Ct l g K L yX1_dayToWatch cX1_dayToWatch 9 (some .int) 6 149 [.ref v, .ref p0, .int (q_i p1), .int (q_i p2)] f [(15, 3, 15), (19, 0, 9), (23, 0, 4), (27, 0, 7)] (q_Pi (fun (z : Int) (f1 : Nat → va_E) => (-1) ≤ z ∧ z ≤ 59)) := by
  refine q_ofb (by decide +kernel) hN hT (Nat.le_of_ble_eq_true rfl) ?_
  intro p e s m below meth c ls cx hr hlk hB hl
  have hl : lv_has ls 9 [(0, .ref v), (1, .ref p0), (2, .int (q_i p1)), (3, .int (q_i p2))] := hl
  have J16 : ∀  (H : Heap) (locs : List Loc) (hB : q_B g K L (fun q => q ∈ L) [(15, 3, 15), (19, 0, 9), (23, 0, 4), (27, 0, 7)] f f s H locs) (ls : Array Slot) (hl : lv_has ls 9 []), W p l e { frames := 6, cells := 0, slots := 0, locals := 149 } s m ([.ref v, .ref p0, .int (q_i p1), .int (q_i p2)] : List Value).toArray below meth c H locs 0 0 (MQ below (q_Q g K L [(15, 3, 15), (19, 0, 9), (23, 0, 4), (27, 0, 7)] f (q_Pi (fun (z : Int) (f1 : Nat → va_E) => (-1) ≤ z ∧ z ≤ 59))) ([.ref v, .ref p0, .int (q_i p1), .int (q_i p2)] : List Value).toArray s 0 0 (fun q => q ∈ L)) (F0 m 16 ls []) := by
    intro  H locs hB ls hl
    refine q_iconst cx dX1_dayToWatch_16 ?_
    refine q_iret cx hr hlk hB dX1_dayToWatch_17 ⟨by decide, by decide⟩ ?_
    exact ⟨(by decide), (by decide)⟩
  have J41 : ∀ (n : Nat) (f41 : Nat → va_E) (v41_4 : Int) (lv41_4 : (-1) ≤ v41_4) (uv41_4 : v41_4 ≤ 1000) (v41_5 : Int) (lv41_5 : (-1) ≤ v41_5) (uv41_5 : v41_5 ≤ 59) (v41_6 : Int) (lv41_6 : 0 ≤ v41_6) (uv41_6 : v41_6 ≤ 60) (hmu : (Int.toNat (2147483647 - v41_6)) < n) (H : Heap) (locs : List Loc) (hB : q_B g K L (fun q => q ∈ L) [(15, 3, 15), (19, 0, 9), (23, 0, 4), (27, 0, 7)] f f41 s H locs) (ls : Array Slot) (hl : lv_has ls 9 [(0, .ref v), (1, .ref p0), (2, .int (q_i p1)), (3, .int (q_i p2)), (4, .int (q_i v41_4)), (5, .int (q_i v41_5)), (6, .int (q_i v41_6))]), W p l e { frames := 6, cells := 0, slots := 0, locals := 149 } s m ([.ref v, .ref p0, .int (q_i p1), .int (q_i p2)] : List Value).toArray below meth c H locs 0 0 (MQ below (q_Q g K L [(15, 3, 15), (19, 0, 9), (23, 0, 4), (27, 0, 7)] f (q_Pi (fun (z : Int) (f1 : Nat → va_E) => (-1) ≤ z ∧ z ≤ 59))) ([.ref v, .ref p0, .int (q_i p1), .int (q_i p2)] : List Value).toArray s 0 0 (fun q => q ∈ L)) (F0 m 41 ls []) := by
    intro n
    induction n with
    | zero =>
      intro f41 v41_4 lv41_4 uv41_4 v41_5 lv41_5 uv41_5 v41_6 lv41_6 uv41_6 hmu
      exact absurd hmu (Nat.not_lt_zero _)
    | succ n ih41 =>
      intro f41 v41_4 lv41_4 uv41_4 v41_5 lv41_5 uv41_5 v41_6 lv41_6 uv41_6 hmu H locs hB ls hl
      have J121 : ∀ (f121 : Nat → va_E) (v121_4 : Int) (lv121_4 : (-1) ≤ v121_4) (uv121_4 : v121_4 ≤ 1000) (v121_5 : Int) (lv121_5 : (-1) ≤ v121_5) (uv121_5 : v121_5 ≤ 59) (buv41_6 : v41_6 ≤ 59) (H : Heap) (locs : List Loc) (hB : q_B g K L (fun q => q ∈ L) [(15, 3, 15), (19, 0, 9), (23, 0, 4), (27, 0, 7)] f f121 s H locs) (ls : Array Slot) (hl : lv_has ls 9 [(0, .ref v), (1, .ref p0), (2, .int (q_i p1)), (3, .int (q_i p2)), (4, .int (q_i v121_4)), (5, .int (q_i v121_5)), (6, .int (q_i v41_6))]), W p l e { frames := 6, cells := 0, slots := 0, locals := 149 } s m ([.ref v, .ref p0, .int (q_i p1), .int (q_i p2)] : List Value).toArray below meth c H locs 0 0 (MQ below (q_Q g K L [(15, 3, 15), (19, 0, 9), (23, 0, 4), (27, 0, 7)] f (q_Pi (fun (z : Int) (f1 : Nat → va_E) => (-1) ≤ z ∧ z ≤ 59))) ([.ref v, .ref p0, .int (q_i p1), .int (q_i p2)] : List Value).toArray s 0 0 (fun q => q ∈ L)) (F0 m 121 ls []) := by
        intro f121 v121_4 lv121_4 uv121_4 v121_5 lv121_5 uv121_5 buv41_6 H locs hB ls hl
        refine q_iinc (lv' := [(6, .int (q_i (v41_6 + 1))), (0, .ref v), (1, .ref p0), (2, .int (q_i p1)), (3, .int (q_i p2)), (4, .int (q_i v121_4)), (5, .int (q_i v121_5))]) cx dX1_dayToWatch_121 hl (k := 6) rfl (by decide) rfl (fun ls hl => ?_)
        refine lv_goto (tgt := 41) cx.1 cx.2.1 dX1_dayToWatch_124 (by decide) ?_
        exact ih41 f121 v121_4 (by omega) (by omega) v121_5 (by omega) (by omega) (v41_6 + 1) (by omega) (by omega) (by omega) H locs hB ls (lv_sub hl [1, 2, 3, 4, 5, 6, 0] rfl)
      have J102 : ∀ (f102 : Nat → va_E) (t102_0 : Int) (lt102_0 : (-1) ≤ t102_0) (ut102_0 : t102_0 ≤ 999) (t102_1 : Int) (lt102_1 : (-1) ≤ t102_1) (ut102_1 : t102_1 ≤ 60) (buv41_6 : v41_6 ≤ 59) (H : Heap) (locs : List Loc) (hB : q_B g K L (fun q => q ∈ L) [(15, 3, 15), (19, 0, 9), (23, 0, 4), (27, 0, 7)] f f102 s H locs) (ls : Array Slot) (hl : lv_has ls 9 [(0, .ref v), (1, .ref p0), (2, .int (q_i p1)), (3, .int (q_i p2)), (4, .int (q_i v41_4)), (5, .int (q_i v41_5)), (6, .int (q_i v41_6))]), W p l e { frames := 6, cells := 0, slots := 0, locals := 149 } s m ([.ref v, .ref p0, .int (q_i p1), .int (q_i p2)] : List Value).toArray below meth c H locs 0 0 (MQ below (q_Q g K L [(15, 3, 15), (19, 0, 9), (23, 0, 4), (27, 0, 7)] f (q_Pi (fun (z : Int) (f1 : Nat → va_E) => (-1) ≤ z ∧ z ≤ 59))) ([.ref v, .ref p0, .int (q_i p1), .int (q_i p2)] : List Value).toArray s 0 0 (fun q => q ∈ L)) (F0 m 102 ls [.int (q_i t102_0), .int (q_i t102_1), .ref v]) := by
        intro f102 t102_0 lt102_0 ut102_0 t102_1 lt102_1 ut102_1 buv41_6 H locs hB ls hl
        refine q_cVi (As := [.int (q_i t102_1), .int (q_i t102_0)]) (rest := []) cx hB (fun _ h => h) hN hv kv (by decide) rfl (g_X1_trialArrival l g hN hB.2.1 v hv kv t102_1 (by omega) (by omega) t102_0 (by omega) (by omega)) q_cX1_22 q_dX1_trialArrival (by decide) rfl rfl hl.1 rfl (Nat.le_of_ble_eq_true rfl) dX1_dayToWatch_102 (fun y520 H locs f519 ry520 h521 hF hB => ?_)
        obtain ⟨ly520, uy520⟩ := h521
        refine lv_istore (lv' := [(8, .int (q_i y520)), (0, .ref v), (1, .ref p0), (2, .int (q_i p1)), (3, .int (q_i p2)), (4, .int (q_i v41_4)), (5, .int (q_i v41_5)), (6, .int (q_i v41_6))]) cx.1 cx.2.1 dX1_dayToWatch_105 hl (by decide) rfl (fun ls hl => ?_)
        refine lv_iload cx.1 cx.2.1 dX1_dayToWatch_107 (lv_at hl 0 rfl) ?_
        refine q_iconst cx dX1_dayToWatch_109 ?_
        refine q_iceq (tgt := 121) cx ⟨by omega, by omega⟩ ⟨by decide, by decide⟩ dX1_dayToWatch_110 (by decide) (fun c522 => ?_) (fun c522 => ?_)
        · exact J121 f519 v41_4 (by omega) (by omega) v41_5 (by omega) (by omega) (by omega) H locs hB ls (lv_sub hl [1, 2, 3, 4, 5, 6, 7] rfl)
        · refine lv_iload cx.1 cx.2.1 dX1_dayToWatch_113 (lv_at hl 0 rfl) ?_
          refine lv_istore (lv' := [(4, .int (q_i y520)), (8, .int (q_i y520)), (0, .ref v), (1, .ref p0), (2, .int (q_i p1)), (3, .int (q_i p2)), (5, .int (q_i v41_5)), (6, .int (q_i v41_6))]) cx.1 cx.2.1 dX1_dayToWatch_115 hl (by decide) rfl (fun ls hl => ?_)
          refine lv_iload cx.1 cx.2.1 dX1_dayToWatch_117 (lv_at hl 7 rfl) ?_
          refine lv_istore (lv' := [(5, .int (q_i v41_6)), (4, .int (q_i y520)), (8, .int (q_i y520)), (0, .ref v), (1, .ref p0), (2, .int (q_i p1)), (3, .int (q_i p2)), (6, .int (q_i v41_6))]) cx.1 cx.2.1 dX1_dayToWatch_119 hl (by decide) rfl (fun ls hl => ?_)
          exact J121 f519 y520 (by omega) (by omega) v41_6 (by omega) (by omega) (by omega) H locs hB ls (lv_sub hl [3, 4, 5, 6, 1, 0, 7] rfl)
      refine lv_iload cx.1 cx.2.1 dX1_dayToWatch_41 (lv_at hl 6 rfl) ?_
      refine q_ald_n cx dX1_dayToWatch_43 rfl (lv_at hl 1 rfl) ?_
      obtain ⟨x523, ex523⟩ : ∃ zz, q_is (q_z f41 p0 6) zz := ⟨_, q_isr _⟩
      refine q_gX1_64 cx hB hp0 kp0 ex523 dX1_dayToWatch_44 (fun lb524 ub524 => ?_)
      refine q_icge (tgt := 127) cx ⟨by omega, by omega⟩ ⟨by omega, by omega⟩ dX1_dayToWatch_47 (by decide) (fun c525 => ?_) (fun c525 => ?_)
      · refine lv_iload cx.1 cx.2.1 dX1_dayToWatch_127 (lv_at hl 5 rfl) ?_
        refine q_iret cx hr hlk hB dX1_dayToWatch_129 ⟨by omega, by omega⟩ ?_
        exact ⟨(by omega), (by omega)⟩
      · refine q_ald_n cx dX1_dayToWatch_50 rfl (lv_at hl 1 rfl) ?_
        refine q_ild_n cx dX1_dayToWatch_51 rfl (lv_at hl 2 rfl) ?_
        refine q_cVl (As := [.int (q_i p1)]) (rest := []) cx hB (fun _ h => h) hN hp0 kp0 (by decide) rfl (g_X10_tableOf l g hN hB.2.1 p0 hp0 kp0 p1 (by omega) (by omega)) q_cX1_67 q_dX10_tableOf (by decide) rfl rfl hl.1 rfl (Nat.le_of_ble_eq_true rfl) dX1_dayToWatch_52 (fun y527 H locs f526 h528 hF hB => ?_)
        obtain rfl := h528
        refine lv_iload cx.1 cx.2.1 dX1_dayToWatch_55 (lv_at hl 6 rfl) ?_
        refine q_cSi (As := [.long y527, .int (q_i v41_6)]) (rest := []) cx hB (fun _ h => h) hN (g_X10_hasDay l g hN hB.2.1 y527 v41_6 (by omega) (by omega)) q_cX1_71 q_dX10_hasDay (by decide) rfl rfl hl.1 rfl (Nat.le_of_ble_eq_true rfl) dX1_dayToWatch_57 (fun y530 H locs f529 ry530 h531 hF hB => ?_)
        obtain ⟨rfl, ly530, uy530⟩ := h531
        refine q_ifne (tgt := 121) cx ⟨by omega, by omega⟩ dX1_dayToWatch_60 (by decide) (fun c532 => ?_) (fun c532 => ?_)
        · exact J121 f41 v41_4 (by omega) (by omega) v41_5 (by omega) (by omega) (by omega) H locs hB ls (lv_sub hl [0, 1, 2, 3, 4, 5, 6] rfl)
        · refine q_ald_n cx dX1_dayToWatch_63 rfl (lv_at hl 0 rfl) ?_
          refine q_ald_n cx dX1_dayToWatch_64 rfl (lv_at hl 1 rfl) ?_
          refine q_ild_n cx dX1_dayToWatch_65 rfl (lv_at hl 2 rfl) ?_
          refine q_ild_n cx dX1_dayToWatch_66 rfl (lv_at hl 3 rfl) ?_
          refine q_iconst cx dX1_dayToWatch_67 ?_
          refine q_cVi (As := [.ref p0, .int (q_i p1), .int (q_i p2), .int (q_i 0)]) (rest := []) cx hB (fun _ h => h) hN hv kv (by decide) rfl (g_X1_sendInThought l g hN hB.2.1 v hv kv p0 hp0 kp0 p1 (by omega) (by omega) p2 (by omega) (by omega) 0 (by decide) (by decide)) q_cX1_30 q_dX1_sendInThought (by decide) rfl rfl hl.1 rfl (Nat.le_of_ble_eq_true rfl) dX1_dayToWatch_68 (fun y534 H locs f533 ry534 h535 hF hB => ?_)
          obtain ⟨ly534, uy534⟩ := h535
          refine lv_istore (lv' := [(7, .int (q_i y534)), (0, .ref v), (1, .ref p0), (2, .int (q_i p1)), (3, .int (q_i p2)), (4, .int (q_i v41_4)), (5, .int (q_i v41_5)), (6, .int (q_i v41_6))]) cx.1 cx.2.1 dX1_dayToWatch_71 hl (by decide) rfl (fun ls hl => ?_)
          refine q_ald_n cx dX1_dayToWatch_73 rfl (lv_at hl 1 rfl) ?_
          obtain ⟨p536, ep536⟩ : ∃ zz, q_ir (q_r f533 v 0) zz := ⟨_, q_irr _⟩
          refine q_gX1_12 cx hB hv kv ep536 dX1_dayToWatch_74 (fun hb537 kb537 => ?_)
          refine q_ild_n cx dX1_dayToWatch_77 rfl (lv_at hl 3 rfl) ?_
          refine lv_iload cx.1 cx.2.1 dX1_dayToWatch_78 (lv_at hl 7 rfl) ?_
          refine q_cVv (As := [.int (q_i p1), .int (q_i v41_6)]) (rest := []) cx hB (fun _ h => h) hN hb537 kb537 (by decide) rfl (g_X10_turnWatch_3 l g hN hB.2.1 p536 hb537 kb537 p1 (by omega) (by omega) v41_6 (by omega) (by omega)) q_cX1_75 q_dX10_turnWatch (by decide) rfl rfl hl.1 rfl (Nat.le_of_ble_eq_true rfl) dX1_dayToWatch_80 (fun H locs f538 h540 hF hB => ?_)
          have z541 : q_ir (q_r f538 v 0) p536 := Eq.trans (hF.r hv (by rw [kv]; rfl)) ep536
          refine q_ald_n cx dX1_dayToWatch_83 rfl (lv_at hl 1 rfl) ?_
          refine lv_iload cx.1 cx.2.1 dX1_dayToWatch_84 (lv_at hl 0 rfl) ?_
          refine lv_iload cx.1 cx.2.1 dX1_dayToWatch_86 (lv_at hl 5 rfl) ?_
          refine q_iconst cx dX1_dayToWatch_88 ?_
          refine q_icne (tgt := 98) cx ⟨by omega, by omega⟩ ⟨by decide, by decide⟩ dX1_dayToWatch_89 (by decide) (fun c542 => ?_) (fun c542 => ?_)
          · refine lv_iload cx.1 cx.2.1 dX1_dayToWatch_98 (lv_at hl 5 rfl) ?_
            refine q_iconst cx dX1_dayToWatch_100 ?_
            refine q_isub cx dX1_dayToWatch_101 ?_
            exact J102 f538 (v41_4 - 1) (by omega) (by omega) y534 (by omega) (by omega) (by omega) H locs hB ls (lv_sub hl [1, 2, 3, 4, 5, 6, 7] rfl)
          · refine q_sipush cx dX1_dayToWatch_92 rfl ?_
            refine lv_goto (tgt := 102) cx.1 cx.2.1 dX1_dayToWatch_95 (by decide) ?_
            exact J102 f538 200 (by decide) (by decide) y534 (by omega) (by omega) (by omega) H locs hB ls (lv_sub hl [1, 2, 3, 4, 5, 6, 7] rfl)
  obtain ⟨H, hH⟩ : ∃ H : Heap, H = s.heap := ⟨_, rfl⟩
  obtain ⟨locs, hlocs⟩ : ∃ z : List Loc, z = [] := ⟨_, rfl⟩
  rw [← hH, ← hlocs] at hB
  rw [← hH, ← hlocs]
  refine q_ald_n cx dX1_dayToWatch_0 rfl (lv_at hl 1 rfl) ?_
  refine q_ild_n cx dX1_dayToWatch_1 rfl (lv_at hl 2 rfl) ?_
  refine q_cVi (As := [.int (q_i p1)]) (rest := []) cx hB (fun _ h => h) hN hp0 kp0 (by decide) rfl (g_X10_isOut l g hN hB.2.1 p0 hp0 kp0 p1 (by omega) (by omega)) q_cX1_26 q_dX10_isOut (by decide) rfl rfl hl.1 rfl (Nat.le_of_ble_eq_true rfl) dX1_dayToWatch_2 (fun y544 H locs f543 ry544 h545 hF hB => ?_)
  obtain ⟨rfl, ly544, uy544⟩ := h545
  refine q_ifne (tgt := 16) cx ⟨by omega, by omega⟩ dX1_dayToWatch_5 (by decide) (fun c546 => ?_) (fun c546 => ?_)
  · exact J16  H locs hB ls (lv_sub hl [] rfl)
  · refine q_ald_n cx dX1_dayToWatch_8 rfl (lv_at hl 1 rfl) ?_
    refine q_ild_n cx dX1_dayToWatch_9 rfl (lv_at hl 3 rfl) ?_
    refine q_cVi (As := [.int (q_i p2)]) (rest := []) cx hB (fun _ h => h) hN hp0 kp0 (by decide) rfl (g_X10_isOut l g hN hB.2.1 p0 hp0 kp0 p2 (by omega) (by omega)) q_cX1_26 q_dX10_isOut (by decide) rfl rfl hl.1 rfl (Nat.le_of_ble_eq_true rfl) dX1_dayToWatch_10 (fun y548 H locs f547 ry548 h549 hF hB => ?_)
    obtain ⟨rfl, ly548, uy548⟩ := h549
    refine q_ifeq (tgt := 18) cx ⟨by omega, by omega⟩ dX1_dayToWatch_13 (by decide) (fun c550 => ?_) (fun c550 => ?_)
    · refine q_ald_n cx dX1_dayToWatch_18 rfl (lv_at hl 0 rfl) ?_
      refine q_ald_n cx dX1_dayToWatch_19 rfl (lv_at hl 0 rfl) ?_
      refine q_ald_n cx dX1_dayToWatch_20 rfl (lv_at hl 1 rfl) ?_
      refine q_ild_n cx dX1_dayToWatch_21 rfl (lv_at hl 2 rfl) ?_
      refine q_ild_n cx dX1_dayToWatch_22 rfl (lv_at hl 3 rfl) ?_
      refine q_iconst cx dX1_dayToWatch_23 ?_
      refine q_cVi (As := [.ref p0, .int (q_i p1), .int (q_i p2), .int (q_i 0)]) (rest := [.ref v]) cx hB (fun _ h => h) hN hv kv (by decide) rfl (g_X1_sendInThought l g hN hB.2.1 v hv kv p0 hp0 kp0 p1 (by omega) (by omega) p2 (by omega) (by omega) 0 (by decide) (by decide)) q_cX1_30 q_dX1_sendInThought (by decide) rfl rfl hl.1 rfl (Nat.le_of_ble_eq_true rfl) dX1_dayToWatch_24 (fun y552 H locs f551 ry552 h553 hF hB => ?_)
      obtain ⟨ly552, uy552⟩ := h553
      refine q_sipush cx dX1_dayToWatch_27 rfl ?_
      refine q_cVi (As := [.int (q_i y552), .int (q_i 200)]) (rest := []) cx hB (fun _ h => h) hN hv kv (by decide) rfl (g_X1_trialArrival l g hN hB.2.1 v hv kv y552 (by omega) (by omega) 200 (by decide) (by decide)) q_cX1_22 q_dX1_trialArrival (by decide) rfl rfl hl.1 rfl (Nat.le_of_ble_eq_true rfl) dX1_dayToWatch_30 (fun y555 H locs f554 ry555 h556 hF hB => ?_)
      obtain ⟨ly555, uy555⟩ := h556
      refine lv_istore (lv' := [(4, .int (q_i y555)), (0, .ref v), (1, .ref p0), (2, .int (q_i p1)), (3, .int (q_i p2))]) cx.1 cx.2.1 dX1_dayToWatch_33 hl (by decide) rfl (fun ls hl => ?_)
      refine q_iconst cx dX1_dayToWatch_35 ?_
      refine lv_istore (lv' := [(5, .int (q_i (-1))), (4, .int (q_i y555)), (0, .ref v), (1, .ref p0), (2, .int (q_i p1)), (3, .int (q_i p2))]) cx.1 cx.2.1 dX1_dayToWatch_36 hl (by decide) rfl (fun ls hl => ?_)
      refine q_iconst cx dX1_dayToWatch_38 ?_
      refine lv_istore (lv' := [(6, .int (q_i 0)), (5, .int (q_i (-1))), (4, .int (q_i y555)), (0, .ref v), (1, .ref p0), (2, .int (q_i p1)), (3, .int (q_i p2))]) cx.1 cx.2.1 dX1_dayToWatch_39 hl (by decide) rfl (fun ls hl => ?_)
      exact J41 ((Int.toNat (2147483647 - 0)) + 1) f554 y555 (by omega) (by omega) (-1) (by decide) (by decide) 0 (by decide) (by decide) (Nat.lt_succ_self _) H locs hB ls (lv_sub hl [3, 4, 5, 6, 2, 1, 0] rfl)
    · exact J16  H locs hB ls (lv_sub hl [] rfl)
set_option maxHeartbeats 4000000 in
set_option maxRecDepth 100000 in
theorem g_X2_forget (l : Launch) (g : q_G) {K : Nat → Nat} {L : List Nat} (hN : L.Nodup) {f : Nat → va_E} (hT : q_Ty g K L f) (v : Nat) (hv : v ∈ L) (kv : K v = 2) : q_Ct l g K L yX2_forget cX2_forget 1 none 0 0 [.ref v] f [(2, 2, 2)] (q_Pv (fun (f1 : Nat → va_E) => True)) := by
  refine q_ofb (by decide +kernel) hN hT (Nat.le_of_ble_eq_true rfl) ?_
  intro p e s m below meth c ls cx hr hlk hB hl
  have hl : lv_has ls 1 [(0, .ref v)] := hl
  obtain ⟨H, hH⟩ : ∃ H : Heap, H = s.heap := ⟨_, rfl⟩
  obtain ⟨locs, hlocs⟩ : ∃ z : List Loc, z = [] := ⟨_, rfl⟩
  rw [← hH, ← hlocs] at hB
  rw [← hH, ← hlocs]
  refine q_ald_n cx dX2_forget_0 rfl (lv_at hl 0 rfl) ?_
  refine q_iconst cx dX2_forget_1 ?_
  refine q_pX2_16 cx hB hv kv ⟨by decide, by decide⟩ (by decide) (by decide) rfl dX2_forget_2 (fun H locs f3 ef3 z4 hB => ?_)
  refine q_vret cx hr hlk hB dX2_forget_5 ?_
  trivial
set_option maxHeartbeats 4000000 in
set_option maxRecDepth 100000 in
theorem g_X2_keep (l : Launch) (g : q_G) {K : Nat → Nat} {L : List Nat} (hN : L.Nodup) {f : Nat → va_E} (hT : q_Ty g K L f) (v : Nat) (hv : v ∈ L) (kv : K v = 2) (p0 : Nat) (hp0 : p0 ∈ L) (kp0 : K p0 = 10) : q_Ct l g K L yX2_keep cX2_keep 2 none 2 43 [.ref v, .ref p0] f [(2, 1, 2), (16, 3, 12), (20, 0, 8), (24, 0, 4), (28, 0, 7)] (q_Pv (fun (f1 : Nat → va_E) => True)) := by
  refine q_ofb (by decide +kernel) hN hT (Nat.le_of_ble_eq_true rfl) ?_
  intro p e s m below meth c ls cx hr hlk hB hl
  have hl : lv_has ls 2 [(0, .ref v), (1, .ref p0)] := hl
  have J24 : ∀ (f24 : Nat → va_E) (w24_v_1 : Int) (lw24_v_1 : 0 ≤ w24_v_1) (uw24_v_1 : w24_v_1 ≤ 5) (hj_v_1 : q_is (q_z f24 v 1) w24_v_1) (H : Heap) (locs : List Loc) (hB : q_B g K L (fun q => q ∈ L) [(2, 1, 2), (16, 3, 12), (20, 0, 8), (24, 0, 4), (28, 0, 7)] f f24 s H locs) (ls : Array Slot) (hl : lv_has ls 2 [(0, .ref v), (1, .ref p0)]), W p l e { frames := 2, cells := 0, slots := 0, locals := 43 } s m ([.ref v, .ref p0] : List Value).toArray below meth c H locs 0 0 (MQ below (q_Q g K L [(2, 1, 2), (16, 3, 12), (20, 0, 8), (24, 0, 4), (28, 0, 7)] f (q_Pv (fun (f1 : Nat → va_E) => True))) ([.ref v, .ref p0] : List Value).toArray s 0 0 (fun q => q ∈ L)) (F0 m 24 ls []) := by
    intro f24 w24_v_1 lw24_v_1 uw24_v_1 hj_v_1 H locs hB ls hl
    refine q_ald_n cx dX2_keep_24 rfl (lv_at hl 0 rfl) ?_
    obtain ⟨p32, ep32⟩ : ∃ zz, q_ir (q_r f24 v 0) zz := ⟨_, q_irr _⟩
    refine q_gX2_11 cx hB hv kv ep32 dX2_keep_25 (fun hb33 kb33 => ?_)
    refine q_ald_n cx dX2_keep_28 rfl (lv_at hl 0 rfl) ?_
    refine q_gX2_20 cx hB hv kv hj_v_1 dX2_keep_29 (fun lb34 ub34 => ?_)
    obtain ⟨p35, ep35⟩ : ∃ zz, q_ir (q_r f24 p32 (Int.toNat w24_v_1)) zz := ⟨_, q_irr _⟩
    refine q_aald (k2 := 16) (n := 6) cx hB hb33 kb33 (by decide) rfl 8 rfl (by decide) rfl (by omega) (by omega) (by decide) rfl ep35 dX2_keep_32 (fun hb36 kb36 => ?_)
    refine q_ald_n cx dX2_keep_33 rfl (lv_at hl 1 rfl) ?_
    refine q_cVv (As := [.ref p0]) (rest := []) cx hB (fun _ h => h) hN hb36 kb36 (by decide) rfl (g_X10_copyFrom_40 l g hN hB.2.1 p35 hb36 kb36 p0 hp0 kp0) q_cX2_23 q_dX10_copyFrom (by decide) rfl rfl hl.1 rfl (Nat.le_of_ble_eq_true rfl) dX2_keep_34 (fun H locs f37 h39 hF hB => ?_)
    have z40 : q_is (q_z f37 v 1) w24_v_1 := Eq.trans (hF.z hv (by rw [kv]; rfl)) hj_v_1
    have z41 : q_ir (q_r f37 v 0) p32 := Eq.trans (hF.r hv (by rw [kv]; rfl)) ep32
    refine q_ald_n cx dX2_keep_37 rfl (lv_at hl 0 rfl) ?_
    refine lv_dup cx.1 cx.2.1 dX2_keep_38 rfl ?_
    refine q_gX2_20 cx hB hv kv z40 dX2_keep_39 (fun lb42 ub42 => ?_)
    refine q_iconst cx dX2_keep_42 ?_
    refine q_iadd cx dX2_keep_43 ?_
    refine q_pX2_20 cx hB hv kv ⟨by omega, by omega⟩ (by omega) (by omega) rfl dX2_keep_44 (fun H locs f43 ef43 z44 hB => ?_)
    have z45 : q_ir (q_r f43 v 0) p32 := by rw [ef43, q_setr (Or.inr (by decide))]; exact z41
    refine q_ald_n cx dX2_keep_47 rfl (lv_at hl 0 rfl) ?_
    refine q_bipush cx dX2_keep_48 rfl ?_
    refine q_ald_n cx dX2_keep_50 rfl (lv_at hl 0 rfl) ?_
    obtain ⟨x46, ex46⟩ : ∃ zz, q_is (q_z f43 v 2) zz := ⟨_, q_isr _⟩
    refine q_gX2_16 cx hB hv kv ex46 dX2_keep_51 (fun lb47 ub47 => ?_)
    refine q_iconst cx dX2_keep_54 ?_
    refine q_iadd cx dX2_keep_55 ?_
    refine q_any (fun y48 ry48 ey48 => ?_)
    refine q_mmin (rest := [.ref v]) cx hl.1 q_h1138 q_h714 q_h157 q_h715 (by decide) (Nat.le_of_ble_eq_true rfl) (by decide) (by decide) ⟨by decide, by decide⟩ ⟨by omega, by omega⟩ dX2_keep_56 (fun y49 ay49 by49 ey49 => ?_)
    refine q_pX2_16 cx hB hv kv ⟨by omega, by omega⟩ (by omega) (by omega) rfl dX2_keep_59 (fun H locs f50 ef50 z51 hB => ?_)
    have z52 : q_is (q_z f50 v 1) (w24_v_1 + 1) := by rw [ef50, q_setz (Or.inr (by decide))]; exact z44
    have z53 : q_ir (q_r f50 v 0) p32 := by rw [ef50, q_setr (Or.inr (by decide))]; exact z45
    refine q_vret cx hr hlk hB dX2_keep_62 ?_
    trivial
  have J19 : ∀ (w19_v_1 : Int) (lw19_v_1 : (-2147483648) ≤ w19_v_1) (uw19_v_1 : w19_v_1 ≤ 2147483647) (hj_v_1 : q_is (q_z f v 1) w19_v_1) (H : Heap) (locs : List Loc) (hB : q_B g K L (fun q => q ∈ L) [(2, 1, 2), (16, 3, 12), (20, 0, 8), (24, 0, 4), (28, 0, 7)] f f s H locs) (ls : Array Slot) (hl : lv_has ls 2 [(0, .ref v), (1, .ref p0)]), W p l e { frames := 2, cells := 0, slots := 0, locals := 43 } s m ([.ref v, .ref p0] : List Value).toArray below meth c H locs 0 0 (MQ below (q_Q g K L [(2, 1, 2), (16, 3, 12), (20, 0, 8), (24, 0, 4), (28, 0, 7)] f (q_Pv (fun (f1 : Nat → va_E) => True))) ([.ref v, .ref p0] : List Value).toArray s 0 0 (fun q => q ∈ L)) (F0 m 19 ls []) := by
    intro w19_v_1 lw19_v_1 uw19_v_1 hj_v_1 H locs hB ls hl
    refine q_ald_n cx dX2_keep_19 rfl (lv_at hl 0 rfl) ?_
    refine q_iconst cx dX2_keep_20 ?_
    refine q_pX2_20 cx hB hv kv ⟨by decide, by decide⟩ (by decide) (by decide) rfl dX2_keep_21 (fun H locs f54 ef54 z55 hB => ?_)
    exact J24 f54 0 (by decide) (by decide) z55 H locs hB ls (lv_sub hl [0, 1] rfl)
  obtain ⟨H, hH⟩ : ∃ H : Heap, H = s.heap := ⟨_, rfl⟩
  obtain ⟨locs, hlocs⟩ : ∃ z : List Loc, z = [] := ⟨_, rfl⟩
  rw [← hH, ← hlocs] at hB
  rw [← hH, ← hlocs]
  refine q_ald_n cx dX2_keep_0 rfl (lv_at hl 0 rfl) ?_
  obtain ⟨x56, ex56⟩ : ∃ zz, q_is (q_z f v 1) zz := ⟨_, q_isr _⟩
  refine q_gX2_20 cx hB hv kv ex56 dX2_keep_1 (fun lb57 ub57 => ?_)
  refine q_iflt (tgt := 19) cx ⟨by omega, by omega⟩ dX2_keep_4 (by decide) (fun c58 => ?_) (fun c58 => ?_)
  · exact J19 x56 (by omega) (by omega) ex56 H locs hB ls (lv_sub hl [0, 1] rfl)
  · refine q_ald_n cx dX2_keep_7 rfl (lv_at hl 0 rfl) ?_
    refine q_gX2_20 cx hB hv kv ex56 dX2_keep_8 (fun lb59 ub59 => ?_)
    refine q_ald_n cx dX2_keep_11 rfl (lv_at hl 0 rfl) ?_
    obtain ⟨p60, ep60⟩ : ∃ zz, q_ir (q_r f v 0) zz := ⟨_, q_irr _⟩
    refine q_gX2_11 cx hB hv kv ep60 dX2_keep_12 (fun hb61 kb61 => ?_)
    refine q_alen (n := 6) cx hB hb61 kb61 (by decide) rfl 8 rfl rfl dX2_keep_15 ?_
    refine q_iclt (tgt := 24) cx ⟨by omega, by omega⟩ ⟨by decide, by decide⟩ dX2_keep_16 (by decide) (fun c62 => ?_) (fun c62 => ?_)
    · exact J24 f x56 (by omega) (by omega) ex56 H locs hB ls (lv_sub hl [0, 1] rfl)
    · exact J19 x56 (by omega) (by omega) ex56 H locs hB ls (lv_sub hl [0, 1] rfl)
