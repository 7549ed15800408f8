set_option maxHeartbeats 4000000 in
set_option maxRecDepth 100000 in
theorem f_addMessage0 (l : Launch) (g : q_G) {K : Nat → Nat} {L : List Nat} (hN : L.Nodup) {f : Nat → va_E} (hT : q_Ty g K L f) (d0 : Nat → Nat) (s0 : tw_S) (v0 : Nat) (hv0 : v0 ∈ L) (kv0 : K v0 = 10) (p0 : Int) (lp0 : 0 ≤ p0) (up0 : p0 ≤ 9) (p1 : Int) (lp1 : 0 ≤ p1) (up1 : p1 ≤ 9) (p2 : Int) (lp2 : 0 ≤ p2) (up2 : p2 ≤ 999) (p3 : Int) (lp3 : 0 ≤ p3) (up3 : p3 ≤ 1) (n0 : Nat) (hn0 : n0 ∈ L) (kn0 : K n0 = 110) (l0 : Nat) (hl0 : l0 ∈ L) (kl0 : K l0 = 120) (m0 : Nat) (hm0 : m0 ∈ L) (km0 : K m0 = 130) (mn : Int) (lmn : 0 ≤ mn) (umn : mn ≤ 60) (tm : Int) (ltm : 0 ≤ tm) (utm : tm ≤ 15000) (hf0 : q_is (q_z f v0 5) mn) (hf1 : q_is (q_z f v0 11) tm) (hr0 : q_ir (q_r f v0 0) n0) (hr1 : q_ir (q_r f v0 1) l0) (hr2 : q_ir (q_r f v0 2) m0) (hw0 : tw_vw K L 10 5 3 4 f v0 n0 l0 m0 d0 s0) : q_Ct l g K L yX10_addMessage cX10_addMessage 6 (some .int) 1 21 [.ref v0, .int (q_i p0), .int (q_i p1), .int (q_i p2), .int (q_i p3)] f [(4, 0, 7), (10, 5, 5)] (q_Pi (fun (z : Int) (f1 : Nat → va_E) => 0 ≤ z ∧ z ≤ 60 ∧ q_is (q_z f1 v0 5) (mn + 1) ∧ (z = s0 0 5) ∧ (z = mn) ∧ (tw_vw K L 10 5 3 4 f1 v0 n0 l0 m0 d0 (tw_am s0 p0 p1 p2 p3)))) := by
  refine q_ofb (by decide +kernel) hN hT (Nat.le_of_ble_eq_true rfl) ?_
  intro p e s m below meth c ls cx hr hlk hB hl
  have hl : lv_has ls 6 [(0, .ref v0), (1, .int (q_i p0)), (2, .int (q_i p1)), (3, .int (q_i p2)), (4, .int (q_i p3))] := hl
  obtain ⟨H, hH⟩ : ∃ H : Heap, H = s.heap := ⟨_, rfl⟩
  obtain ⟨locs, hlocs⟩ : ∃ z : List Loc, z = [] := ⟨_, rfl⟩
  rw [← hH, ← hlocs] at hB
  rw [← hH, ← hlocs]
  refine q_ald_n cx dX10_addMessage_0 rfl (lv_at hl 0 rfl) ?_
  obtain ⟨x124, ex124, nx124⟩ : ∃ zz, q_is (q_z f v0 5) zz ∧ zz = mn := ⟨_, hf0, rfl⟩
  have sx124 : q_is x124 (s0 0 5) := tw_g hw0 (tw_v0 hw0) (by omega) (by omega) ex124
  refine q_gX10_42 cx hB hv0 kv0 ex124 dX10_addMessage_1 (fun lb125 ub125 => ?_)
  refine q_ald_n cx dX10_addMessage_4 rfl (lv_at hl 0 rfl) ?_
  refine q_gX10_25 cx hB hv0 kv0 hr2 dX10_addMessage_5 (fun hb126 kb126 => ?_)
  refine q_alen (n := 61) cx hB hm0 km0 (by decide) rfl 6 rfl rfl dX10_addMessage_8 ?_
  refine q_iclt (tgt := 14) cx ⟨by omega, by omega⟩ ⟨by decide, by decide⟩ dX10_addMessage_9 (by decide) (fun c127 => ?_) (fun c127 => ?_)
  · refine q_ald_n cx dX10_addMessage_14 rfl (lv_at hl 0 rfl) ?_
    refine q_ald_n cx dX10_addMessage_15 rfl (lv_at hl 0 rfl) ?_
    obtain ⟨x128, ex128, nx128⟩ : ∃ zz, q_is (q_z f v0 5) zz ∧ zz = mn := ⟨_, hf0, rfl⟩
    have sx128 : q_is x128 (s0 0 5) := tw_g hw0 (tw_v0 hw0) (by omega) (by omega) ex128
    refine q_gX10_42 cx hB hv0 kv0 ex128 dX10_addMessage_16 (fun lb129 ub129 => ?_)
    refine q_cVr (As := [.int (q_i x128)]) (rest := []) cx hB (fun _ h => h) hN hv0 kv0 (by decide) rfl (f_messageAt0 l g hN hB.2.1 d0 s0 v0 hv0 kv0 x128 (by omega) (by omega) n0 hn0 kn0 l0 hl0 kl0 m0 hm0 km0 hr0 hr1 hr2 hw0) q_cX10_81 q_dX10_messageAt (by decide) rfl rfl hl.1 rfl (Nat.le_of_ble_eq_true rfl) dX10_addMessage_19 (fun y131 H locs f130 h132 hF hB => ?_)
    obtain ⟨rfl, hy131, ky131, t133⟩ := h132
    refine lv_astore (lv' := [(5, .ref y131), (0, .ref v0), (1, .int (q_i p0)), (2, .int (q_i p1)), (3, .int (q_i p2)), (4, .int (q_i p3))]) cx.1 cx.2.1 dX10_addMessage_22 hl (by decide) rfl (fun ls hl => ?_)
    refine lv_aload cx.1 cx.2.1 dX10_addMessage_24 (lv_at hl 0 rfl) ?_
    refine q_ild_n cx dX10_addMessage_26 rfl (lv_at hl 2 rfl) ?_
    refine q_pX10_131 cx hB hy131 ky131 ⟨by omega, by omega⟩ (by omega) (by omega) rfl dX10_addMessage_27 (fun H locs f134 ef134 z135 hB => ?_)
    have z136 : q_is (q_z f134 v0 5) mn := by rw [ef134, q_setz (Or.inr (by decide))]; exact hf0
    have z137 : q_is (q_z f134 v0 11) tm := by rw [ef134, q_setz (Or.inr (by decide))]; exact hf1
    have z138 : q_ir (q_r f134 v0 0) n0 := by rw [ef134, q_setr (Or.inl (fun q => by rw [q, ky131] at kv0; exact absurd kv0 (by decide)))]; exact hr0
    have z139 : q_ir (q_r f134 v0 1) l0 := by rw [ef134, q_setr (Or.inr (by decide))]; exact hr1
    have z140 : q_ir (q_r f134 v0 2) m0 := by rw [ef134, q_setr (Or.inr (by decide))]; exact hr2
    have g141 : tw_vw K L 10 5 3 4 f134 v0 n0 l0 m0 d0 (tw_u s0 (27 + Int.toNat x128) 0 p0) := tw_vw_s hw0 t133 (by omega) (by omega) ef134 z135 (fun i9 => by rw [ef134, q_setr (Or.inl (fun q => by rw [q, ky131] at kn0; exact absurd kn0 (by decide)))]) (fun i9 => by rw [ef134, q_setr (Or.inl (fun q => by rw [q, ky131] at kl0; exact absurd kl0 (by decide)))]) (fun i9 => by rw [ef134, q_setr (Or.inl (fun q => by rw [q, ky131] at km0; exact absurd km0 (by decide)))])
    refine lv_aload cx.1 cx.2.1 dX10_addMessage_30 (lv_at hl 0 rfl) ?_
    refine q_ild_n cx dX10_addMessage_32 rfl (lv_at hl 3 rfl) ?_
    refine q_pX10_134 cx hB hy131 ky131 ⟨by omega, by omega⟩ (by omega) (by omega) rfl dX10_addMessage_33 (fun H locs f142 ef142 z143 hB => ?_)
    have z144 : q_is (q_z f142 v0 5) mn := by rw [ef142, q_setz (Or.inr (by decide))]; exact z136
    have z145 : q_is (q_z f142 v0 11) tm := by rw [ef142, q_setz (Or.inr (by decide))]; exact z137
    have z146 : q_is (q_z f142 y131 0) p0 := by rw [ef142, q_setz (Or.inr (by decide))]; exact z135
    have z147 : q_ir (q_r f142 v0 0) n0 := by rw [ef142, q_setr (Or.inr (by decide))]; exact z138
    have z148 : q_ir (q_r f142 v0 1) l0 := by rw [ef142, q_setr (Or.inl (fun q => by rw [q, ky131] at kv0; exact absurd kv0 (by decide)))]; exact z139
    have z149 : q_ir (q_r f142 v0 2) m0 := by rw [ef142, q_setr (Or.inr (by decide))]; exact z140
    have g150 : tw_vw K L 10 5 3 4 f142 v0 n0 l0 m0 d0 (tw_u (tw_u s0 (27 + Int.toNat x128) 0 p0) (27 + Int.toNat x128) 1 p1) := tw_vw_s g141 t133 (by omega) (by omega) ef142 z143 (fun i9 => by rw [ef142, q_setr (Or.inl (fun q => by rw [q, ky131] at kn0; exact absurd kn0 (by decide)))]) (fun i9 => by rw [ef142, q_setr (Or.inl (fun q => by rw [q, ky131] at kl0; exact absurd kl0 (by decide)))]) (fun i9 => by rw [ef142, q_setr (Or.inl (fun q => by rw [q, ky131] at km0; exact absurd km0 (by decide)))])
    refine lv_aload cx.1 cx.2.1 dX10_addMessage_36 (lv_at hl 0 rfl) ?_
    refine q_ild_n cx dX10_addMessage_38 rfl (lv_at hl 2 rfl) ?_
    refine q_pX10_137 cx hB hy131 ky131 ⟨by omega, by omega⟩ (by omega) (by omega) rfl dX10_addMessage_39 (fun H locs f151 ef151 z152 hB => ?_)
    have z153 : q_is (q_z f151 v0 5) mn := by rw [ef151, q_setz (Or.inr (by decide))]; exact z144
    have z154 : q_is (q_z f151 v0 11) tm := by rw [ef151, q_setz (Or.inr (by decide))]; exact z145
    have z155 : q_is (q_z f151 y131 0) p0 := by rw [ef151, q_setz (Or.inr (by decide))]; exact z146
    have z156 : q_is (q_z f151 y131 1) p1 := by rw [ef151, q_setz (Or.inr (by decide))]; exact z143
    have z157 : q_ir (q_r f151 v0 0) n0 := by rw [ef151, q_setr (Or.inr (by decide))]; exact z147
    have z158 : q_ir (q_r f151 v0 1) l0 := by rw [ef151, q_setr (Or.inr (by decide))]; exact z148
    have z159 : q_ir (q_r f151 v0 2) m0 := by rw [ef151, q_setr (Or.inl (fun q => by rw [q, ky131] at kv0; exact absurd kv0 (by decide)))]; exact z149
    have g160 : tw_vw K L 10 5 3 4 f151 v0 n0 l0 m0 d0 (tw_u (tw_u (tw_u s0 (27 + Int.toNat x128) 0 p0) (27 + Int.toNat x128) 1 p1) (27 + Int.toNat x128) 2 p0) := tw_vw_s g150 t133 (by omega) (by omega) ef151 z152 (fun i9 => by rw [ef151, q_setr (Or.inl (fun q => by rw [q, ky131] at kn0; exact absurd kn0 (by decide)))]) (fun i9 => by rw [ef151, q_setr (Or.inl (fun q => by rw [q, ky131] at kl0; exact absurd kl0 (by decide)))]) (fun i9 => by rw [ef151, q_setr (Or.inl (fun q => by rw [q, ky131] at km0; exact absurd km0 (by decide)))])
    refine lv_aload cx.1 cx.2.1 dX10_addMessage_42 (lv_at hl 0 rfl) ?_
    refine q_iconst cx dX10_addMessage_44 ?_
    refine q_pX10_140 cx hB hy131 ky131 ⟨by decide, by decide⟩ (by decide) (by decide) rfl dX10_addMessage_45 (fun H locs f161 ef161 z162 hB => ?_)
    have z163 : q_is (q_z f161 v0 5) mn := by rw [ef161, q_setz (Or.inr (by decide))]; exact z153
    have z164 : q_is (q_z f161 v0 11) tm := by rw [ef161, q_setz (Or.inr (by decide))]; exact z154
    have z165 : q_is (q_z f161 y131 0) p0 := by rw [ef161, q_setz (Or.inr (by decide))]; exact z155
    have z166 : q_is (q_z f161 y131 1) p1 := by rw [ef161, q_setz (Or.inr (by decide))]; exact z156
    have z167 : q_is (q_z f161 y131 2) p0 := by rw [ef161, q_setz (Or.inr (by decide))]; exact z152
    have z168 : q_ir (q_r f161 v0 0) n0 := by rw [ef161, q_setr (Or.inr (by decide))]; exact z157
    have z169 : q_ir (q_r f161 v0 1) l0 := by rw [ef161, q_setr (Or.inr (by decide))]; exact z158
    have z170 : q_ir (q_r f161 v0 2) m0 := by rw [ef161, q_setr (Or.inr (by decide))]; exact z159
    have g171 : tw_vw K L 10 5 3 4 f161 v0 n0 l0 m0 d0 (tw_u (tw_u (tw_u (tw_u s0 (27 + Int.toNat x128) 0 p0) (27 + Int.toNat x128) 1 p1) (27 + Int.toNat x128) 2 p0) (27 + Int.toNat x128) 3 0) := tw_vw_s g160 t133 (by omega) (by omega) ef161 z162 (fun i9 => by rw [ef161, q_setr (Or.inl (fun q => by rw [q, ky131] at kn0; exact absurd kn0 (by decide)))]) (fun i9 => by rw [ef161, q_setr (Or.inl (fun q => by rw [q, ky131] at kl0; exact absurd kl0 (by decide)))]) (fun i9 => by rw [ef161, q_setr (Or.inl (fun q => by rw [q, ky131] at km0; exact absurd km0 (by decide)))])
    refine lv_aload cx.1 cx.2.1 dX10_addMessage_48 (lv_at hl 0 rfl) ?_
    refine q_ald_n cx dX10_addMessage_50 rfl (lv_at hl 1 rfl) ?_
    obtain ⟨x172, ex172, nx172⟩ : ∃ zz, q_is (q_z f161 v0 11) zz ∧ zz = tm := ⟨_, z164, rfl⟩
    have sx172 : q_is x172 ((tw_u (tw_u (tw_u (tw_u s0 (27 + Int.toNat x128) 0 p0) (27 + Int.toNat x128) 1 p1) (27 + Int.toNat x128) 2 p0) (27 + Int.toNat x128) 3 0) 0 11) := tw_g g171 (tw_v0 hw0) (by omega) (by omega) ex172
    refine q_gX10_60 cx hB hv0 kv0 ex172 dX10_addMessage_51 (fun lb173 ub173 => ?_)
    refine q_ild_n cx dX10_addMessage_54 rfl (lv_at hl 4 rfl) ?_
    refine q_iadd cx dX10_addMessage_55 ?_
    refine q_pX10_143 cx hB hy131 ky131 ⟨by omega, by omega⟩ (by omega) (by omega) rfl dX10_addMessage_56 (fun H locs f174 ef174 z175 hB => ?_)
    have z176 : q_is (q_z f174 v0 5) mn := by rw [ef174, q_setz (Or.inr (by decide))]; exact z163
    have z177 : q_is (q_z f174 v0 11) tm := by rw [ef174, q_setz (Or.inr (by decide))]; exact z164
    have z178 : q_is (q_z f174 y131 0) p0 := by rw [ef174, q_setz (Or.inr (by decide))]; exact z165
    have z179 : q_is (q_z f174 y131 1) p1 := by rw [ef174, q_setz (Or.inr (by decide))]; exact z166
    have z180 : q_is (q_z f174 y131 2) p0 := by rw [ef174, q_setz (Or.inr (by decide))]; exact z167
    have z181 : q_is (q_z f174 y131 3) 0 := by rw [ef174, q_setz (Or.inr (by decide))]; exact z162
    have z182 : q_ir (q_r f174 v0 0) n0 := by rw [ef174, q_setr (Or.inr (by decide))]; exact z168
    have z183 : q_ir (q_r f174 v0 1) l0 := by rw [ef174, q_setr (Or.inr (by decide))]; exact z169
    have z184 : q_ir (q_r f174 v0 2) m0 := by rw [ef174, q_setr (Or.inr (by decide))]; exact z170
    have g185 : tw_vw K L 10 5 3 4 f174 v0 n0 l0 m0 d0 (tw_u (tw_u (tw_u (tw_u (tw_u s0 (27 + Int.toNat x128) 0 p0) (27 + Int.toNat x128) 1 p1) (27 + Int.toNat x128) 2 p0) (27 + Int.toNat x128) 3 0) (27 + Int.toNat x128) 4 (x172 + p2)) := tw_vw_s g171 t133 (by omega) (by omega) ef174 z175 (fun i9 => by rw [ef174, q_setr (Or.inl (fun q => by rw [q, ky131] at kn0; exact absurd kn0 (by decide)))]) (fun i9 => by rw [ef174, q_setr (Or.inl (fun q => by rw [q, ky131] at kl0; exact absurd kl0 (by decide)))]) (fun i9 => by rw [ef174, q_setr (Or.inl (fun q => by rw [q, ky131] at km0; exact absurd km0 (by decide)))])
    refine lv_aload cx.1 cx.2.1 dX10_addMessage_59 (lv_at hl 0 rfl) ?_
    refine q_iconst cx dX10_addMessage_61 ?_
    refine q_pX10_146 cx hB hy131 ky131 ⟨by decide, by decide⟩ (by decide) (by decide) rfl dX10_addMessage_62 (fun H locs f186 ef186 z187 hB => ?_)
    have z188 : q_is (q_z f186 v0 5) mn := by rw [ef186, q_setz (Or.inl (fun q => by rw [q, ky131] at kv0; exact absurd kv0 (by decide)))]; exact z176
    have z189 : q_is (q_z f186 v0 11) tm := by rw [ef186, q_setz (Or.inr (by decide))]; exact z177
    have z190 : q_is (q_z f186 y131 0) p0 := by rw [ef186, q_setz (Or.inr (by decide))]; exact z178
    have z191 : q_is (q_z f186 y131 1) p1 := by rw [ef186, q_setz (Or.inr (by decide))]; exact z179
    have z192 : q_is (q_z f186 y131 2) p0 := by rw [ef186, q_setz (Or.inr (by decide))]; exact z180
    have z193 : q_is (q_z f186 y131 3) 0 := by rw [ef186, q_setz (Or.inr (by decide))]; exact z181
    have z194 : q_is (q_z f186 y131 4) (x172 + p2) := by rw [ef186, q_setz (Or.inr (by decide))]; exact z175
    have z195 : q_ir (q_r f186 v0 0) n0 := by rw [ef186, q_setr (Or.inr (by decide))]; exact z182
    have z196 : q_ir (q_r f186 v0 1) l0 := by rw [ef186, q_setr (Or.inr (by decide))]; exact z183
    have z197 : q_ir (q_r f186 v0 2) m0 := by rw [ef186, q_setr (Or.inr (by decide))]; exact z184
    have g198 : tw_vw K L 10 5 3 4 f186 v0 n0 l0 m0 d0 (tw_u (tw_u (tw_u (tw_u (tw_u (tw_u s0 (27 + Int.toNat x128) 0 p0) (27 + Int.toNat x128) 1 p1) (27 + Int.toNat x128) 2 p0) (27 + Int.toNat x128) 3 0) (27 + Int.toNat x128) 4 (x172 + p2)) (27 + Int.toNat x128) 5 (-1)) := tw_vw_s g185 t133 (by omega) (by omega) ef186 z187 (fun i9 => by rw [ef186, q_setr (Or.inl (fun q => by rw [q, ky131] at kn0; exact absurd kn0 (by decide)))]) (fun i9 => by rw [ef186, q_setr (Or.inl (fun q => by rw [q, ky131] at kl0; exact absurd kl0 (by decide)))]) (fun i9 => by rw [ef186, q_setr (Or.inl (fun q => by rw [q, ky131] at km0; exact absurd km0 (by decide)))])
    refine lv_aload cx.1 cx.2.1 dX10_addMessage_65 (lv_at hl 0 rfl) ?_
    refine q_iconst cx dX10_addMessage_67 ?_
    refine q_pX10_149 cx hB hy131 ky131 ⟨by decide, by decide⟩ (by decide) (by decide) rfl dX10_addMessage_68 (fun H locs f199 ef199 z200 hB => ?_)
    have z201 : q_is (q_z f199 v0 5) mn := by rw [ef199, q_setz (Or.inr (by decide))]; exact z188
    have z202 : q_is (q_z f199 v0 11) tm := by rw [ef199, q_setz (Or.inr (by decide))]; exact z189
    have z203 : q_is (q_z f199 y131 0) p0 := by rw [ef199, q_setz (Or.inr (by decide))]; exact z190
    have z204 : q_is (q_z f199 y131 1) p1 := by rw [ef199, q_setz (Or.inr (by decide))]; exact z191
    have z205 : q_is (q_z f199 y131 2) p0 := by rw [ef199, q_setz (Or.inr (by decide))]; exact z192
    have z206 : q_is (q_z f199 y131 3) 0 := by rw [ef199, q_setz (Or.inr (by decide))]; exact z193
    have z207 : q_is (q_z f199 y131 4) (x172 + p2) := by rw [ef199, q_setz (Or.inr (by decide))]; exact z194
    have z208 : q_is (q_z f199 y131 5) (-1) := by rw [ef199, q_setz (Or.inr (by decide))]; exact z187
    have z209 : q_ir (q_r f199 v0 0) n0 := by rw [ef199, q_setr (Or.inr (by decide))]; exact z195
    have z210 : q_ir (q_r f199 v0 1) l0 := by rw [ef199, q_setr (Or.inr (by decide))]; exact z196
    have z211 : q_ir (q_r f199 v0 2) m0 := by rw [ef199, q_setr (Or.inr (by decide))]; exact z197
    have g212 : tw_vw K L 10 5 3 4 f199 v0 n0 l0 m0 d0 (tw_u (tw_u (tw_u (tw_u (tw_u (tw_u (tw_u s0 (27 + Int.toNat x128) 0 p0) (27 + Int.toNat x128) 1 p1) (27 + Int.toNat x128) 2 p0) (27 + Int.toNat x128) 3 0) (27 + Int.toNat x128) 4 (x172 + p2)) (27 + Int.toNat x128) 5 (-1)) (27 + Int.toNat x128) 6 0) := tw_vw_s g198 t133 (by omega) (by omega) ef199 z200 (fun i9 => by rw [ef199, q_setr (Or.inl (fun q => by rw [q, ky131] at kn0; exact absurd kn0 (by decide)))]) (fun i9 => by rw [ef199, q_setr (Or.inl (fun q => by rw [q, ky131] at kl0; exact absurd kl0 (by decide)))]) (fun i9 => by rw [ef199, q_setr (Or.inl (fun q => by rw [q, ky131] at km0; exact absurd km0 (by decide)))])
    refine lv_aload cx.1 cx.2.1 dX10_addMessage_71 (lv_at hl 0 rfl) ?_
    refine lv_iload cx.1 cx.2.1 dX10_addMessage_73 (lv_at hl 5 rfl) ?_
    refine q_pX10_152 cx hB hy131 ky131 ⟨by omega, by omega⟩ (by omega) (by omega) rfl dX10_addMessage_75 (fun H locs f213 ef213 z214 hB => ?_)
    have z215 : q_is (q_z f213 v0 5) mn := by rw [ef213, q_setz (Or.inr (by decide))]; exact z201
    have z216 : q_is (q_z f213 v0 11) tm := by rw [ef213, q_setz (Or.inr (by decide))]; exact z202
    have z217 : q_is (q_z f213 y131 0) p0 := by rw [ef213, q_setz (Or.inr (by decide))]; exact z203
    have z218 : q_is (q_z f213 y131 1) p1 := by rw [ef213, q_setz (Or.inr (by decide))]; exact z204
    have z219 : q_is (q_z f213 y131 2) p0 := by rw [ef213, q_setz (Or.inr (by decide))]; exact z205
    have z220 : q_is (q_z f213 y131 3) 0 := by rw [ef213, q_setz (Or.inr (by decide))]; exact z206
    have z221 : q_is (q_z f213 y131 4) (x172 + p2) := by rw [ef213, q_setz (Or.inr (by decide))]; exact z207
    have z222 : q_is (q_z f213 y131 5) (-1) := by rw [ef213, q_setz (Or.inr (by decide))]; exact z208
    have z223 : q_is (q_z f213 y131 6) 0 := by rw [ef213, q_setz (Or.inr (by decide))]; exact z200
    have z224 : q_ir (q_r f213 v0 0) n0 := by rw [ef213, q_setr (Or.inr (by decide))]; exact z209
    have z225 : q_ir (q_r f213 v0 1) l0 := by rw [ef213, q_setr (Or.inr (by decide))]; exact z210
    have z226 : q_ir (q_r f213 v0 2) m0 := by rw [ef213, q_setr (Or.inr (by decide))]; exact z211
    have g227 : tw_vw K L 10 5 3 4 f213 v0 n0 l0 m0 d0 (tw_u (tw_u (tw_u (tw_u (tw_u (tw_u (tw_u (tw_u s0 (27 + Int.toNat x128) 0 p0) (27 + Int.toNat x128) 1 p1) (27 + Int.toNat x128) 2 p0) (27 + Int.toNat x128) 3 0) (27 + Int.toNat x128) 4 (x172 + p2)) (27 + Int.toNat x128) 5 (-1)) (27 + Int.toNat x128) 6 0) (27 + Int.toNat x128) 7 p3) := tw_vw_s g212 t133 (by omega) (by omega) ef213 z214 (fun i9 => by rw [ef213, q_setr (Or.inl (fun q => by rw [q, ky131] at kn0; exact absurd kn0 (by decide)))]) (fun i9 => by rw [ef213, q_setr (Or.inl (fun q => by rw [q, ky131] at kl0; exact absurd kl0 (by decide)))]) (fun i9 => by rw [ef213, q_setr (Or.inl (fun q => by rw [q, ky131] at km0; exact absurd km0 (by decide)))])
    refine q_ald_n cx dX10_addMessage_78 rfl (lv_at hl 1 rfl) ?_
    refine lv_dup cx.1 cx.2.1 dX10_addMessage_79 rfl ?_
    obtain ⟨x228, ex228, nx228⟩ : ∃ zz, q_is (q_z f213 v0 5) zz ∧ zz = mn := ⟨_, z215, rfl⟩
    have sx228 : q_is x228 ((tw_u (tw_u (tw_u (tw_u (tw_u (tw_u (tw_u (tw_u s0 (27 + Int.toNat x128) 0 p0) (27 + Int.toNat x128) 1 p1) (27 + Int.toNat x128) 2 p0) (27 + Int.toNat x128) 3 0) (27 + Int.toNat x128) 4 (x172 + p2)) (27 + Int.toNat x128) 5 (-1)) (27 + Int.toNat x128) 6 0) (27 + Int.toNat x128) 7 p3) 0 5) := tw_g g227 (tw_v0 hw0) (by omega) (by omega) ex228
    refine q_gX10_42 cx hB hv0 kv0 ex228 dX10_addMessage_80 (fun lb229 ub229 => ?_)
    refine q_iconst cx dX10_addMessage_83 ?_
    refine q_iadd cx dX10_addMessage_84 ?_
    refine q_pX10_42 cx hB hv0 kv0 ⟨by omega, by omega⟩ (by omega) (by omega) rfl dX10_addMessage_85 (fun H locs f230 ef230 z231 hB => ?_)
    have z232 : q_is (q_z f230 v0 11) tm := by rw [ef230, q_setz (Or.inr (by decide))]; exact z216
    have z233 : q_is (q_z f230 y131 0) p0 := by rw [ef230, q_setz (Or.inr (by decide))]; exact z217
    have z234 : q_is (q_z f230 y131 1) p1 := by rw [ef230, q_setz (Or.inr (by decide))]; exact z218
    have z235 : q_is (q_z f230 y131 2) p0 := by rw [ef230, q_setz (Or.inr (by decide))]; exact z219
    have z236 : q_is (q_z f230 y131 3) 0 := by rw [ef230, q_setz (Or.inr (by decide))]; exact z220
    have z237 : q_is (q_z f230 y131 4) (x172 + p2) := by rw [ef230, q_setz (Or.inr (by decide))]; exact z221
    have z238 : q_is (q_z f230 y131 5) (-1) := by rw [ef230, q_setz (Or.inl (fun q => by rw [q, kv0] at ky131; exact absurd ky131 (by decide)))]; exact z222
    have z239 : q_is (q_z f230 y131 6) 0 := by rw [ef230, q_setz (Or.inr (by decide))]; exact z223
    have z240 : q_is (q_z f230 y131 7) p3 := by rw [ef230, q_setz (Or.inr (by decide))]; exact z214
    have z241 : q_ir (q_r f230 v0 0) n0 := by rw [ef230, q_setr (Or.inr (by decide))]; exact z224
    have z242 : q_ir (q_r f230 v0 1) l0 := by rw [ef230, q_setr (Or.inr (by decide))]; exact z225
    have z243 : q_ir (q_r f230 v0 2) m0 := by rw [ef230, q_setr (Or.inr (by decide))]; exact z226
    have g244 : tw_vw K L 10 5 3 4 f230 v0 n0 l0 m0 d0 (tw_u (tw_u (tw_u (tw_u (tw_u (tw_u (tw_u (tw_u (tw_u s0 (27 + Int.toNat x128) 0 p0) (27 + Int.toNat x128) 1 p1) (27 + Int.toNat x128) 2 p0) (27 + Int.toNat x128) 3 0) (27 + Int.toNat x128) 4 (x172 + p2)) (27 + Int.toNat x128) 5 (-1)) (27 + Int.toNat x128) 6 0) (27 + Int.toNat x128) 7 p3) 0 5 (x228 + 1)) := tw_vw_s g227 (tw_v0 hw0) (by omega) (by omega) ef230 z231 (fun i9 => by rw [ef230, q_setr (Or.inl (fun q => by rw [q, kv0] at kn0; exact absurd kn0 (by decide)))]) (fun i9 => by rw [ef230, q_setr (Or.inl (fun q => by rw [q, kv0] at kl0; exact absurd kl0 (by decide)))]) (fun i9 => by rw [ef230, q_setr (Or.inl (fun q => by rw [q, kv0] at km0; exact absurd km0 (by decide)))])
    refine q_ald_n cx dX10_addMessage_88 rfl (lv_at hl 1 rfl) ?_
    obtain ⟨x245, ex245, nx245⟩ : ∃ zz, q_is (q_z f230 v0 5) zz ∧ zz = (x228 + 1) := ⟨_, z231, rfl⟩
    have sx245 : q_is x245 ((tw_u (tw_u (tw_u (tw_u (tw_u (tw_u (tw_u (tw_u (tw_u s0 (27 + Int.toNat x128) 0 p0) (27 + Int.toNat x128) 1 p1) (27 + Int.toNat x128) 2 p0) (27 + Int.toNat x128) 3 0) (27 + Int.toNat x128) 4 (x172 + p2)) (27 + Int.toNat x128) 5 (-1)) (27 + Int.toNat x128) 6 0) (27 + Int.toNat x128) 7 p3) 0 5 (x228 + 1)) 0 5) := tw_g g244 (tw_v0 hw0) (by omega) (by omega) ex245
    refine q_gX10_42 cx hB hv0 kv0 ex245 dX10_addMessage_89 (fun lb246 ub246 => ?_)
    refine q_iconst cx dX10_addMessage_92 ?_
    refine q_isub cx dX10_addMessage_93 ?_
    refine q_iret cx hr hlk hB dX10_addMessage_94 ⟨by omega, by omega⟩ ?_
    exact ⟨(by omega), (by omega), (Eq.trans z231 (by omega)), (by have t0_ : x124 = s0 0 5 := sx124; have t1_ : x128 = s0 0 5 := sx128; have t2_ : x172 = (tw_u (tw_u (tw_u (tw_u s0 (27 + Int.toNat (s0 0 5)) 0 p0) (27 + Int.toNat (s0 0 5)) 1 p1) (27 + Int.toNat (s0 0 5)) 2 p0) (27 + Int.toNat (s0 0 5)) 3 0) 0 11 := Eq.trans sx172 (by simp only [t1_]); have t3_ : x228 = (tw_u (tw_u (tw_u (tw_u (tw_u (tw_u (tw_u (tw_u s0 (27 + Int.toNat (s0 0 5)) 0 p0) (27 + Int.toNat (s0 0 5)) 1 p1) (27 + Int.toNat (s0 0 5)) 2 p0) (27 + Int.toNat (s0 0 5)) 3 0) (27 + Int.toNat (s0 0 5)) 4 (((tw_u (tw_u (tw_u (tw_u s0 (27 + Int.toNat (s0 0 5)) 0 p0) (27 + Int.toNat (s0 0 5)) 1 p1) (27 + Int.toNat (s0 0 5)) 2 p0) (27 + Int.toNat (s0 0 5)) 3 0) 0 11) + p2)) (27 + Int.toNat (s0 0 5)) 5 (-1)) (27 + Int.toNat (s0 0 5)) 6 0) (27 + Int.toNat (s0 0 5)) 7 p3) 0 5 := Eq.trans sx228 (by simp only [t1_, t2_]); have t4_ : x245 = (tw_u (tw_u (tw_u (tw_u (tw_u (tw_u (tw_u (tw_u (tw_u s0 (27 + Int.toNat (s0 0 5)) 0 p0) (27 + Int.toNat (s0 0 5)) 1 p1) (27 + Int.toNat (s0 0 5)) 2 p0) (27 + Int.toNat (s0 0 5)) 3 0) (27 + Int.toNat (s0 0 5)) 4 (((tw_u (tw_u (tw_u (tw_u s0 (27 + Int.toNat (s0 0 5)) 0 p0) (27 + Int.toNat (s0 0 5)) 1 p1) (27 + Int.toNat (s0 0 5)) 2 p0) (27 + Int.toNat (s0 0 5)) 3 0) 0 11) + p2)) (27 + Int.toNat (s0 0 5)) 5 (-1)) (27 + Int.toNat (s0 0 5)) 6 0) (27 + Int.toNat (s0 0 5)) 7 p3) 0 5 (((tw_u (tw_u (tw_u (tw_u (tw_u (tw_u (tw_u (tw_u s0 (27 + Int.toNat (s0 0 5)) 0 p0) (27 + Int.toNat (s0 0 5)) 1 p1) (27 + Int.toNat (s0 0 5)) 2 p0) (27 + Int.toNat (s0 0 5)) 3 0) (27 + Int.toNat (s0 0 5)) 4 (((tw_u (tw_u (tw_u (tw_u s0 (27 + Int.toNat (s0 0 5)) 0 p0) (27 + Int.toNat (s0 0 5)) 1 p1) (27 + Int.toNat (s0 0 5)) 2 p0) (27 + Int.toNat (s0 0 5)) 3 0) 0 11) + p2)) (27 + Int.toNat (s0 0 5)) 5 (-1)) (27 + Int.toNat (s0 0 5)) 6 0) (27 + Int.toNat (s0 0 5)) 7 p3) 0 5) + 1)) 0 5 := Eq.trans sx245 (by simp only [t1_, t2_, t3_]); omega), (by omega), (tw_cg g244 (by have t0_ : x124 = s0 0 5 := sx124; have t1_ : x128 = s0 0 5 := sx128; have t2_ : x172 = (tw_u (tw_u (tw_u (tw_u s0 (27 + Int.toNat (s0 0 5)) 0 p0) (27 + Int.toNat (s0 0 5)) 1 p1) (27 + Int.toNat (s0 0 5)) 2 p0) (27 + Int.toNat (s0 0 5)) 3 0) 0 11 := Eq.trans sx172 (by simp only [t1_]); have t3_ : x228 = (tw_u (tw_u (tw_u (tw_u (tw_u (tw_u (tw_u (tw_u s0 (27 + Int.toNat (s0 0 5)) 0 p0) (27 + Int.toNat (s0 0 5)) 1 p1) (27 + Int.toNat (s0 0 5)) 2 p0) (27 + Int.toNat (s0 0 5)) 3 0) (27 + Int.toNat (s0 0 5)) 4 (((tw_u (tw_u (tw_u (tw_u s0 (27 + Int.toNat (s0 0 5)) 0 p0) (27 + Int.toNat (s0 0 5)) 1 p1) (27 + Int.toNat (s0 0 5)) 2 p0) (27 + Int.toNat (s0 0 5)) 3 0) 0 11) + p2)) (27 + Int.toNat (s0 0 5)) 5 (-1)) (27 + Int.toNat (s0 0 5)) 6 0) (27 + Int.toNat (s0 0 5)) 7 p3) 0 5 := Eq.trans sx228 (by simp only [t1_, t2_]); have t4_ : x245 = (tw_u (tw_u (tw_u (tw_u (tw_u (tw_u (tw_u (tw_u (tw_u s0 (27 + Int.toNat (s0 0 5)) 0 p0) (27 + Int.toNat (s0 0 5)) 1 p1) (27 + Int.toNat (s0 0 5)) 2 p0) (27 + Int.toNat (s0 0 5)) 3 0) (27 + Int.toNat (s0 0 5)) 4 (((tw_u (tw_u (tw_u (tw_u s0 (27 + Int.toNat (s0 0 5)) 0 p0) (27 + Int.toNat (s0 0 5)) 1 p1) (27 + Int.toNat (s0 0 5)) 2 p0) (27 + Int.toNat (s0 0 5)) 3 0) 0 11) + p2)) (27 + Int.toNat (s0 0 5)) 5 (-1)) (27 + Int.toNat (s0 0 5)) 6 0) (27 + Int.toNat (s0 0 5)) 7 p3) 0 5 (((tw_u (tw_u (tw_u (tw_u (tw_u (tw_u (tw_u (tw_u s0 (27 + Int.toNat (s0 0 5)) 0 p0) (27 + Int.toNat (s0 0 5)) 1 p1) (27 + Int.toNat (s0 0 5)) 2 p0) (27 + Int.toNat (s0 0 5)) 3 0) (27 + Int.toNat (s0 0 5)) 4 (((tw_u (tw_u (tw_u (tw_u s0 (27 + Int.toNat (s0 0 5)) 0 p0) (27 + Int.toNat (s0 0 5)) 1 p1) (27 + Int.toNat (s0 0 5)) 2 p0) (27 + Int.toNat (s0 0 5)) 3 0) 0 11) + p2)) (27 + Int.toNat (s0 0 5)) 5 (-1)) (27 + Int.toNat (s0 0 5)) 6 0) (27 + Int.toNat (s0 0 5)) 7 p3) 0 5) + 1)) 0 5 := Eq.trans sx245 (by simp only [t1_, t2_, t3_]); (try simp only [t0_, t1_, t2_, t3_, t4_]); unfold tw_am tw_am2; (repeat' split) <;> first | rfl | (exfalso; omega)))⟩
  · exact absurd c127 (by omega)
set_option maxHeartbeats 4000000 in
set_option maxRecDepth 100000 in
theorem f_addMessage3 (l : Launch) (g : q_G) {K : Nat → Nat} {L : List Nat} (hN : L.Nodup) {f : Nat → va_E} (hT : q_Ty g K L f) (d3 : Nat → Nat) (s3 : tw_S) (v3 : Nat) (hv3 : v3 ∈ L) (kv3 : K v3 = 15) (p0 : Int) (lp0 : 0 ≤ p0) (up0 : p0 ≤ 9) (p1 : Int) (lp1 : 0 ≤ p1) (up1 : p1 ≤ 9) (p2 : Int) (lp2 : 0 ≤ p2) (up2 : p2 ≤ 999) (p3 : Int) (lp3 : 0 ≤ p3) (up3 : p3 ≤ 1) (n3 : Nat) (hn3 : n3 ∈ L) (kn3 : K n3 = 113) (l3 : Nat) (hl3 : l3 ∈ L) (kl3 : K l3 = 123) (m3 : Nat) (hm3 : m3 ∈ L) (km3 : K m3 = 133) (mn : Int) (lmn : 0 ≤ mn) (umn : mn ≤ 60) (tm : Int) (ltm : 0 ≤ tm) (utm : tm ≤ 15000) (hf0 : q_is (q_z f v3 5) mn) (hf1 : q_is (q_z f v3 11) tm) (hr0 : q_ir (q_r f v3 0) n3) (hr1 : q_ir (q_r f v3 1) l3) (hr2 : q_ir (q_r f v3 2) m3) (hw3 : tw_vw K L 15 19 23 27 f v3 n3 l3 m3 d3 s3) : q_Ct l g K L yX10_addMessage cX10_addMessage 6 (some .int) 1 21 [.ref v3, .int (q_i p0), .int (q_i p1), .int (q_i p2), .int (q_i p3)] f [(15, 5, 5), (27, 0, 7)] (q_Pi (fun (z : Int) (f1 : Nat → va_E) => 0 ≤ z ∧ z ≤ 60 ∧ q_is (q_z f1 v3 5) (mn + 1) ∧ (z = s3 0 5) ∧ (z = mn) ∧ (tw_vw K L 15 19 23 27 f1 v3 n3 l3 m3 d3 (tw_am s3 p0 p1 p2 p3)))) := by
  refine q_ofb (by decide +kernel) hN hT (Nat.le_of_ble_eq_true rfl) ?_
  intro p e s m below meth c ls cx hr hlk hB hl
  have hl : lv_has ls 6 [(0, .ref v3), (1, .int (q_i p0)), (2, .int (q_i p1)), (3, .int (q_i p2)), (4, .int (q_i p3))] := hl
  obtain ⟨H, hH⟩ : ∃ H : Heap, H = s.heap := ⟨_, rfl⟩
  obtain ⟨locs, hlocs⟩ : ∃ z : List Loc, z = [] := ⟨_, rfl⟩
  rw [← hH, ← hlocs] at hB
  rw [← hH, ← hlocs]
  refine q_ald_n cx dX10_addMessage_0 rfl (lv_at hl 0 rfl) ?_
  obtain ⟨x124, ex124, nx124⟩ : ∃ zz, q_is (q_z f v3 5) zz ∧ zz = mn := ⟨_, hf0, rfl⟩
  have sx124 : q_is x124 (s3 0 5) := tw_g hw3 (tw_v0 hw3) (by omega) (by omega) ex124
  refine q_gX10_42_15 cx hB hv3 kv3 ex124 dX10_addMessage_1 (fun lb125 ub125 => ?_)
  refine q_ald_n cx dX10_addMessage_4 rfl (lv_at hl 0 rfl) ?_
  refine q_gX10_25_15 cx hB hv3 kv3 hr2 dX10_addMessage_5 (fun hb126 kb126 => ?_)
  refine q_alen (n := 61) cx hB hm3 km3 (by decide) rfl 6 rfl rfl dX10_addMessage_8 ?_
  refine q_iclt (tgt := 14) cx ⟨by omega, by omega⟩ ⟨by decide, by decide⟩ dX10_addMessage_9 (by decide) (fun c127 => ?_) (fun c127 => ?_)
  · refine q_ald_n cx dX10_addMessage_14 rfl (lv_at hl 0 rfl) ?_
    refine q_ald_n cx dX10_addMessage_15 rfl (lv_at hl 0 rfl) ?_
    obtain ⟨x128, ex128, nx128⟩ : ∃ zz, q_is (q_z f v3 5) zz ∧ zz = mn := ⟨_, hf0, rfl⟩
    have sx128 : q_is x128 (s3 0 5) := tw_g hw3 (tw_v0 hw3) (by omega) (by omega) ex128
    refine q_gX10_42_15 cx hB hv3 kv3 ex128 dX10_addMessage_16 (fun lb129 ub129 => ?_)
    refine q_cVr (As := [.int (q_i x128)]) (rest := []) cx hB (fun _ h => h) hN hv3 kv3 (by decide) rfl (f_messageAt3 l g hN hB.2.1 d3 s3 v3 hv3 kv3 x128 (by omega) (by omega) n3 hn3 kn3 l3 hl3 kl3 m3 hm3 km3 hr0 hr1 hr2 hw3) q_cX10_81 q_dX10_messageAt (by decide) rfl rfl hl.1 rfl (Nat.le_of_ble_eq_true rfl) dX10_addMessage_19 (fun y131 H locs f130 h132 hF hB => ?_)
    obtain ⟨rfl, hy131, ky131, t133⟩ := h132
    refine lv_astore (lv' := [(5, .ref y131), (0, .ref v3), (1, .int (q_i p0)), (2, .int (q_i p1)), (3, .int (q_i p2)), (4, .int (q_i p3))]) cx.1 cx.2.1 dX10_addMessage_22 hl (by decide) rfl (fun ls hl => ?_)
    refine lv_aload cx.1 cx.2.1 dX10_addMessage_24 (lv_at hl 0 rfl) ?_
    refine q_ild_n cx dX10_addMessage_26 rfl (lv_at hl 2 rfl) ?_
    refine q_pX10_131_27 cx hB hy131 ky131 ⟨by omega, by omega⟩ (by omega) (by omega) rfl dX10_addMessage_27 (fun H locs f134 ef134 z135 hB => ?_)
    have z136 : q_is (q_z f134 v3 5) mn := by rw [ef134, q_setz (Or.inr (by decide))]; exact hf0
    have z137 : q_is (q_z f134 v3 11) tm := by rw [ef134, q_setz (Or.inr (by decide))]; exact hf1
    have z138 : q_ir (q_r f134 v3 0) n3 := by rw [ef134, q_setr (Or.inl (fun q => by rw [q, ky131] at kv3; exact absurd kv3 (by decide)))]; exact hr0
    have z139 : q_ir (q_r f134 v3 1) l3 := by rw [ef134, q_setr (Or.inr (by decide))]; exact hr1
    have z140 : q_ir (q_r f134 v3 2) m3 := by rw [ef134, q_setr (Or.inr (by decide))]; exact hr2
    have g141 : tw_vw K L 15 19 23 27 f134 v3 n3 l3 m3 d3 (tw_u s3 (27 + Int.toNat x128) 0 p0) := tw_vw_s hw3 t133 (by omega) (by omega) ef134 z135 (fun i9 => by rw [ef134, q_setr (Or.inl (fun q => by rw [q, ky131] at kn3; exact absurd kn3 (by decide)))]) (fun i9 => by rw [ef134, q_setr (Or.inl (fun q => by rw [q, ky131] at kl3; exact absurd kl3 (by decide)))]) (fun i9 => by rw [ef134, q_setr (Or.inl (fun q => by rw [q, ky131] at km3; exact absurd km3 (by decide)))])
    refine lv_aload cx.1 cx.2.1 dX10_addMessage_30 (lv_at hl 0 rfl) ?_
    refine q_ild_n cx dX10_addMessage_32 rfl (lv_at hl 3 rfl) ?_
    refine q_pX10_134_27 cx hB hy131 ky131 ⟨by omega, by omega⟩ (by omega) (by omega) rfl dX10_addMessage_33 (fun H locs f142 ef142 z143 hB => ?_)
    have z144 : q_is (q_z f142 v3 5) mn := by rw [ef142, q_setz (Or.inr (by decide))]; exact z136
    have z145 : q_is (q_z f142 v3 11) tm := by rw [ef142, q_setz (Or.inr (by decide))]; exact z137
    have z146 : q_is (q_z f142 y131 0) p0 := by rw [ef142, q_setz (Or.inr (by decide))]; exact z135
    have z147 : q_ir (q_r f142 v3 0) n3 := by rw [ef142, q_setr (Or.inr (by decide))]; exact z138
    have z148 : q_ir (q_r f142 v3 1) l3 := by rw [ef142, q_setr (Or.inl (fun q => by rw [q, ky131] at kv3; exact absurd kv3 (by decide)))]; exact z139
    have z149 : q_ir (q_r f142 v3 2) m3 := by rw [ef142, q_setr (Or.inr (by decide))]; exact z140
    have g150 : tw_vw K L 15 19 23 27 f142 v3 n3 l3 m3 d3 (tw_u (tw_u s3 (27 + Int.toNat x128) 0 p0) (27 + Int.toNat x128) 1 p1) := tw_vw_s g141 t133 (by omega) (by omega) ef142 z143 (fun i9 => by rw [ef142, q_setr (Or.inl (fun q => by rw [q, ky131] at kn3; exact absurd kn3 (by decide)))]) (fun i9 => by rw [ef142, q_setr (Or.inl (fun q => by rw [q, ky131] at kl3; exact absurd kl3 (by decide)))]) (fun i9 => by rw [ef142, q_setr (Or.inl (fun q => by rw [q, ky131] at km3; exact absurd km3 (by decide)))])
    refine lv_aload cx.1 cx.2.1 dX10_addMessage_36 (lv_at hl 0 rfl) ?_
    refine q_ild_n cx dX10_addMessage_38 rfl (lv_at hl 2 rfl) ?_
    refine q_pX10_137_27 cx hB hy131 ky131 ⟨by omega, by omega⟩ (by omega) (by omega) rfl dX10_addMessage_39 (fun H locs f151 ef151 z152 hB => ?_)
    have z153 : q_is (q_z f151 v3 5) mn := by rw [ef151, q_setz (Or.inr (by decide))]; exact z144
    have z154 : q_is (q_z f151 v3 11) tm := by rw [ef151, q_setz (Or.inr (by decide))]; exact z145
    have z155 : q_is (q_z f151 y131 0) p0 := by rw [ef151, q_setz (Or.inr (by decide))]; exact z146
    have z156 : q_is (q_z f151 y131 1) p1 := by rw [ef151, q_setz (Or.inr (by decide))]; exact z143
    have z157 : q_ir (q_r f151 v3 0) n3 := by rw [ef151, q_setr (Or.inr (by decide))]; exact z147
    have z158 : q_ir (q_r f151 v3 1) l3 := by rw [ef151, q_setr (Or.inr (by decide))]; exact z148
    have z159 : q_ir (q_r f151 v3 2) m3 := by rw [ef151, q_setr (Or.inl (fun q => by rw [q, ky131] at kv3; exact absurd kv3 (by decide)))]; exact z149
    have g160 : tw_vw K L 15 19 23 27 f151 v3 n3 l3 m3 d3 (tw_u (tw_u (tw_u s3 (27 + Int.toNat x128) 0 p0) (27 + Int.toNat x128) 1 p1) (27 + Int.toNat x128) 2 p0) := tw_vw_s g150 t133 (by omega) (by omega) ef151 z152 (fun i9 => by rw [ef151, q_setr (Or.inl (fun q => by rw [q, ky131] at kn3; exact absurd kn3 (by decide)))]) (fun i9 => by rw [ef151, q_setr (Or.inl (fun q => by rw [q, ky131] at kl3; exact absurd kl3 (by decide)))]) (fun i9 => by rw [ef151, q_setr (Or.inl (fun q => by rw [q, ky131] at km3; exact absurd km3 (by decide)))])
    refine lv_aload cx.1 cx.2.1 dX10_addMessage_42 (lv_at hl 0 rfl) ?_
    refine q_iconst cx dX10_addMessage_44 ?_
    refine q_pX10_140_27 cx hB hy131 ky131 ⟨by decide, by decide⟩ (by decide) (by decide) rfl dX10_addMessage_45 (fun H locs f161 ef161 z162 hB => ?_)
    have z163 : q_is (q_z f161 v3 5) mn := by rw [ef161, q_setz (Or.inr (by decide))]; exact z153
    have z164 : q_is (q_z f161 v3 11) tm := by rw [ef161, q_setz (Or.inr (by decide))]; exact z154
    have z165 : q_is (q_z f161 y131 0) p0 := by rw [ef161, q_setz (Or.inr (by decide))]; exact z155
    have z166 : q_is (q_z f161 y131 1) p1 := by rw [ef161, q_setz (Or.inr (by decide))]; exact z156
    have z167 : q_is (q_z f161 y131 2) p0 := by rw [ef161, q_setz (Or.inr (by decide))]; exact z152
    have z168 : q_ir (q_r f161 v3 0) n3 := by rw [ef161, q_setr (Or.inr (by decide))]; exact z157
    have z169 : q_ir (q_r f161 v3 1) l3 := by rw [ef161, q_setr (Or.inr (by decide))]; exact z158
    have z170 : q_ir (q_r f161 v3 2) m3 := by rw [ef161, q_setr (Or.inr (by decide))]; exact z159
    have g171 : tw_vw K L 15 19 23 27 f161 v3 n3 l3 m3 d3 (tw_u (tw_u (tw_u (tw_u s3 (27 + Int.toNat x128) 0 p0) (27 + Int.toNat x128) 1 p1) (27 + Int.toNat x128) 2 p0) (27 + Int.toNat x128) 3 0) := tw_vw_s g160 t133 (by omega) (by omega) ef161 z162 (fun i9 => by rw [ef161, q_setr (Or.inl (fun q => by rw [q, ky131] at kn3; exact absurd kn3 (by decide)))]) (fun i9 => by rw [ef161, q_setr (Or.inl (fun q => by rw [q, ky131] at kl3; exact absurd kl3 (by decide)))]) (fun i9 => by rw [ef161, q_setr (Or.inl (fun q => by rw [q, ky131] at km3; exact absurd km3 (by decide)))])
    refine lv_aload cx.1 cx.2.1 dX10_addMessage_48 (lv_at hl 0 rfl) ?_
    refine q_ald_n cx dX10_addMessage_50 rfl (lv_at hl 1 rfl) ?_
    obtain ⟨x172, ex172, nx172⟩ : ∃ zz, q_is (q_z f161 v3 11) zz ∧ zz = tm := ⟨_, z164, rfl⟩
    have sx172 : q_is x172 ((tw_u (tw_u (tw_u (tw_u s3 (27 + Int.toNat x128) 0 p0) (27 + Int.toNat x128) 1 p1) (27 + Int.toNat x128) 2 p0) (27 + Int.toNat x128) 3 0) 0 11) := tw_g g171 (tw_v0 hw3) (by omega) (by omega) ex172
    refine q_gX10_60_15 cx hB hv3 kv3 ex172 dX10_addMessage_51 (fun lb173 ub173 => ?_)
    refine q_ild_n cx dX10_addMessage_54 rfl (lv_at hl 4 rfl) ?_
    refine q_iadd cx dX10_addMessage_55 ?_
    refine q_pX10_143_27 cx hB hy131 ky131 ⟨by omega, by omega⟩ (by omega) (by omega) rfl dX10_addMessage_56 (fun H locs f174 ef174 z175 hB => ?_)
    have z176 : q_is (q_z f174 v3 5) mn := by rw [ef174, q_setz (Or.inr (by decide))]; exact z163
    have z177 : q_is (q_z f174 v3 11) tm := by rw [ef174, q_setz (Or.inr (by decide))]; exact z164
    have z178 : q_is (q_z f174 y131 0) p0 := by rw [ef174, q_setz (Or.inr (by decide))]; exact z165
    have z179 : q_is (q_z f174 y131 1) p1 := by rw [ef174, q_setz (Or.inr (by decide))]; exact z166
    have z180 : q_is (q_z f174 y131 2) p0 := by rw [ef174, q_setz (Or.inr (by decide))]; exact z167
    have z181 : q_is (q_z f174 y131 3) 0 := by rw [ef174, q_setz (Or.inr (by decide))]; exact z162
    have z182 : q_ir (q_r f174 v3 0) n3 := by rw [ef174, q_setr (Or.inr (by decide))]; exact z168
    have z183 : q_ir (q_r f174 v3 1) l3 := by rw [ef174, q_setr (Or.inr (by decide))]; exact z169
    have z184 : q_ir (q_r f174 v3 2) m3 := by rw [ef174, q_setr (Or.inr (by decide))]; exact z170
    have g185 : tw_vw K L 15 19 23 27 f174 v3 n3 l3 m3 d3 (tw_u (tw_u (tw_u (tw_u (tw_u s3 (27 + Int.toNat x128) 0 p0) (27 + Int.toNat x128) 1 p1) (27 + Int.toNat x128) 2 p0) (27 + Int.toNat x128) 3 0) (27 + Int.toNat x128) 4 (x172 + p2)) := tw_vw_s g171 t133 (by omega) (by omega) ef174 z175 (fun i9 => by rw [ef174, q_setr (Or.inl (fun q => by rw [q, ky131] at kn3; exact absurd kn3 (by decide)))]) (fun i9 => by rw [ef174, q_setr (Or.inl (fun q => by rw [q, ky131] at kl3; exact absurd kl3 (by decide)))]) (fun i9 => by rw [ef174, q_setr (Or.inl (fun q => by rw [q, ky131] at km3; exact absurd km3 (by decide)))])
    refine lv_aload cx.1 cx.2.1 dX10_addMessage_59 (lv_at hl 0 rfl) ?_
    refine q_iconst cx dX10_addMessage_61 ?_
    refine q_pX10_146_27 cx hB hy131 ky131 ⟨by decide, by decide⟩ (by decide) (by decide) rfl dX10_addMessage_62 (fun H locs f186 ef186 z187 hB => ?_)
    have z188 : q_is (q_z f186 v3 5) mn := by rw [ef186, q_setz (Or.inl (fun q => by rw [q, ky131] at kv3; exact absurd kv3 (by decide)))]; exact z176
    have z189 : q_is (q_z f186 v3 11) tm := by rw [ef186, q_setz (Or.inr (by decide))]; exact z177
    have z190 : q_is (q_z f186 y131 0) p0 := by rw [ef186, q_setz (Or.inr (by decide))]; exact z178
    have z191 : q_is (q_z f186 y131 1) p1 := by rw [ef186, q_setz (Or.inr (by decide))]; exact z179
    have z192 : q_is (q_z f186 y131 2) p0 := by rw [ef186, q_setz (Or.inr (by decide))]; exact z180
    have z193 : q_is (q_z f186 y131 3) 0 := by rw [ef186, q_setz (Or.inr (by decide))]; exact z181
    have z194 : q_is (q_z f186 y131 4) (x172 + p2) := by rw [ef186, q_setz (Or.inr (by decide))]; exact z175
    have z195 : q_ir (q_r f186 v3 0) n3 := by rw [ef186, q_setr (Or.inr (by decide))]; exact z182
    have z196 : q_ir (q_r f186 v3 1) l3 := by rw [ef186, q_setr (Or.inr (by decide))]; exact z183
    have z197 : q_ir (q_r f186 v3 2) m3 := by rw [ef186, q_setr (Or.inr (by decide))]; exact z184
    have g198 : tw_vw K L 15 19 23 27 f186 v3 n3 l3 m3 d3 (tw_u (tw_u (tw_u (tw_u (tw_u (tw_u s3 (27 + Int.toNat x128) 0 p0) (27 + Int.toNat x128) 1 p1) (27 + Int.toNat x128) 2 p0) (27 + Int.toNat x128) 3 0) (27 + Int.toNat x128) 4 (x172 + p2)) (27 + Int.toNat x128) 5 (-1)) := tw_vw_s g185 t133 (by omega) (by omega) ef186 z187 (fun i9 => by rw [ef186, q_setr (Or.inl (fun q => by rw [q, ky131] at kn3; exact absurd kn3 (by decide)))]) (fun i9 => by rw [ef186, q_setr (Or.inl (fun q => by rw [q, ky131] at kl3; exact absurd kl3 (by decide)))]) (fun i9 => by rw [ef186, q_setr (Or.inl (fun q => by rw [q, ky131] at km3; exact absurd km3 (by decide)))])
    refine lv_aload cx.1 cx.2.1 dX10_addMessage_65 (lv_at hl 0 rfl) ?_
    refine q_iconst cx dX10_addMessage_67 ?_
    refine q_pX10_149_27 cx hB hy131 ky131 ⟨by decide, by decide⟩ (by decide) (by decide) rfl dX10_addMessage_68 (fun H locs f199 ef199 z200 hB => ?_)
    have z201 : q_is (q_z f199 v3 5) mn := by rw [ef199, q_setz (Or.inr (by decide))]; exact z188
    have z202 : q_is (q_z f199 v3 11) tm := by rw [ef199, q_setz (Or.inr (by decide))]; exact z189
    have z203 : q_is (q_z f199 y131 0) p0 := by rw [ef199, q_setz (Or.inr (by decide))]; exact z190
    have z204 : q_is (q_z f199 y131 1) p1 := by rw [ef199, q_setz (Or.inr (by decide))]; exact z191
    have z205 : q_is (q_z f199 y131 2) p0 := by rw [ef199, q_setz (Or.inr (by decide))]; exact z192
    have z206 : q_is (q_z f199 y131 3) 0 := by rw [ef199, q_setz (Or.inr (by decide))]; exact z193
    have z207 : q_is (q_z f199 y131 4) (x172 + p2) := by rw [ef199, q_setz (Or.inr (by decide))]; exact z194
    have z208 : q_is (q_z f199 y131 5) (-1) := by rw [ef199, q_setz (Or.inr (by decide))]; exact z187
    have z209 : q_ir (q_r f199 v3 0) n3 := by rw [ef199, q_setr (Or.inr (by decide))]; exact z195
    have z210 : q_ir (q_r f199 v3 1) l3 := by rw [ef199, q_setr (Or.inr (by decide))]; exact z196
    have z211 : q_ir (q_r f199 v3 2) m3 := by rw [ef199, q_setr (Or.inr (by decide))]; exact z197
    have g212 : tw_vw K L 15 19 23 27 f199 v3 n3 l3 m3 d3 (tw_u (tw_u (tw_u (tw_u (tw_u (tw_u (tw_u s3 (27 + Int.toNat x128) 0 p0) (27 + Int.toNat x128) 1 p1) (27 + Int.toNat x128) 2 p0) (27 + Int.toNat x128) 3 0) (27 + Int.toNat x128) 4 (x172 + p2)) (27 + Int.toNat x128) 5 (-1)) (27 + Int.toNat x128) 6 0) := tw_vw_s g198 t133 (by omega) (by omega) ef199 z200 (fun i9 => by rw [ef199, q_setr (Or.inl (fun q => by rw [q, ky131] at kn3; exact absurd kn3 (by decide)))]) (fun i9 => by rw [ef199, q_setr (Or.inl (fun q => by rw [q, ky131] at kl3; exact absurd kl3 (by decide)))]) (fun i9 => by rw [ef199, q_setr (Or.inl (fun q => by rw [q, ky131] at km3; exact absurd km3 (by decide)))])
    refine lv_aload cx.1 cx.2.1 dX10_addMessage_71 (lv_at hl 0 rfl) ?_
    refine lv_iload cx.1 cx.2.1 dX10_addMessage_73 (lv_at hl 5 rfl) ?_
    refine q_pX10_152_27 cx hB hy131 ky131 ⟨by omega, by omega⟩ (by omega) (by omega) rfl dX10_addMessage_75 (fun H locs f213 ef213 z214 hB => ?_)
    have z215 : q_is (q_z f213 v3 5) mn := by rw [ef213, q_setz (Or.inr (by decide))]; exact z201
    have z216 : q_is (q_z f213 v3 11) tm := by rw [ef213, q_setz (Or.inr (by decide))]; exact z202
    have z217 : q_is (q_z f213 y131 0) p0 := by rw [ef213, q_setz (Or.inr (by decide))]; exact z203
    have z218 : q_is (q_z f213 y131 1) p1 := by rw [ef213, q_setz (Or.inr (by decide))]; exact z204
    have z219 : q_is (q_z f213 y131 2) p0 := by rw [ef213, q_setz (Or.inr (by decide))]; exact z205
    have z220 : q_is (q_z f213 y131 3) 0 := by rw [ef213, q_setz (Or.inr (by decide))]; exact z206
    have z221 : q_is (q_z f213 y131 4) (x172 + p2) := by rw [ef213, q_setz (Or.inr (by decide))]; exact z207
    have z222 : q_is (q_z f213 y131 5) (-1) := by rw [ef213, q_setz (Or.inr (by decide))]; exact z208
    have z223 : q_is (q_z f213 y131 6) 0 := by rw [ef213, q_setz (Or.inr (by decide))]; exact z200
    have z224 : q_ir (q_r f213 v3 0) n3 := by rw [ef213, q_setr (Or.inr (by decide))]; exact z209
    have z225 : q_ir (q_r f213 v3 1) l3 := by rw [ef213, q_setr (Or.inr (by decide))]; exact z210
    have z226 : q_ir (q_r f213 v3 2) m3 := by rw [ef213, q_setr (Or.inr (by decide))]; exact z211
    have g227 : tw_vw K L 15 19 23 27 f213 v3 n3 l3 m3 d3 (tw_u (tw_u (tw_u (tw_u (tw_u (tw_u (tw_u (tw_u s3 (27 + Int.toNat x128) 0 p0) (27 + Int.toNat x128) 1 p1) (27 + Int.toNat x128) 2 p0) (27 + Int.toNat x128) 3 0) (27 + Int.toNat x128) 4 (x172 + p2)) (27 + Int.toNat x128) 5 (-1)) (27 + Int.toNat x128) 6 0) (27 + Int.toNat x128) 7 p3) := tw_vw_s g212 t133 (by omega) (by omega) ef213 z214 (fun i9 => by rw [ef213, q_setr (Or.inl (fun q => by rw [q, ky131] at kn3; exact absurd kn3 (by decide)))]) (fun i9 => by rw [ef213, q_setr (Or.inl (fun q => by rw [q, ky131] at kl3; exact absurd kl3 (by decide)))]) (fun i9 => by rw [ef213, q_setr (Or.inl (fun q => by rw [q, ky131] at km3; exact absurd km3 (by decide)))])
    refine q_ald_n cx dX10_addMessage_78 rfl (lv_at hl 1 rfl) ?_
    refine lv_dup cx.1 cx.2.1 dX10_addMessage_79 rfl ?_
    obtain ⟨x228, ex228, nx228⟩ : ∃ zz, q_is (q_z f213 v3 5) zz ∧ zz = mn := ⟨_, z215, rfl⟩
    have sx228 : q_is x228 ((tw_u (tw_u (tw_u (tw_u (tw_u (tw_u (tw_u (tw_u s3 (27 + Int.toNat x128) 0 p0) (27 + Int.toNat x128) 1 p1) (27 + Int.toNat x128) 2 p0) (27 + Int.toNat x128) 3 0) (27 + Int.toNat x128) 4 (x172 + p2)) (27 + Int.toNat x128) 5 (-1)) (27 + Int.toNat x128) 6 0) (27 + Int.toNat x128) 7 p3) 0 5) := tw_g g227 (tw_v0 hw3) (by omega) (by omega) ex228
    refine q_gX10_42_15 cx hB hv3 kv3 ex228 dX10_addMessage_80 (fun lb229 ub229 => ?_)
    refine q_iconst cx dX10_addMessage_83 ?_
    refine q_iadd cx dX10_addMessage_84 ?_
    refine q_pX10_42_15 cx hB hv3 kv3 ⟨by omega, by omega⟩ (by omega) (by omega) rfl dX10_addMessage_85 (fun H locs f230 ef230 z231 hB => ?_)
    have z232 : q_is (q_z f230 v3 11) tm := by rw [ef230, q_setz (Or.inr (by decide))]; exact z216
    have z233 : q_is (q_z f230 y131 0) p0 := by rw [ef230, q_setz (Or.inr (by decide))]; exact z217
    have z234 : q_is (q_z f230 y131 1) p1 := by rw [ef230, q_setz (Or.inr (by decide))]; exact z218
    have z235 : q_is (q_z f230 y131 2) p0 := by rw [ef230, q_setz (Or.inr (by decide))]; exact z219
    have z236 : q_is (q_z f230 y131 3) 0 := by rw [ef230, q_setz (Or.inr (by decide))]; exact z220
    have z237 : q_is (q_z f230 y131 4) (x172 + p2) := by rw [ef230, q_setz (Or.inr (by decide))]; exact z221
    have z238 : q_is (q_z f230 y131 5) (-1) := by rw [ef230, q_setz (Or.inl (fun q => by rw [q, kv3] at ky131; exact absurd ky131 (by decide)))]; exact z222
    have z239 : q_is (q_z f230 y131 6) 0 := by rw [ef230, q_setz (Or.inr (by decide))]; exact z223
    have z240 : q_is (q_z f230 y131 7) p3 := by rw [ef230, q_setz (Or.inr (by decide))]; exact z214
    have z241 : q_ir (q_r f230 v3 0) n3 := by rw [ef230, q_setr (Or.inr (by decide))]; exact z224
    have z242 : q_ir (q_r f230 v3 1) l3 := by rw [ef230, q_setr (Or.inr (by decide))]; exact z225
    have z243 : q_ir (q_r f230 v3 2) m3 := by rw [ef230, q_setr (Or.inr (by decide))]; exact z226
    have g244 : tw_vw K L 15 19 23 27 f230 v3 n3 l3 m3 d3 (tw_u (tw_u (tw_u (tw_u (tw_u (tw_u (tw_u (tw_u (tw_u s3 (27 + Int.toNat x128) 0 p0) (27 + Int.toNat x128) 1 p1) (27 + Int.toNat x128) 2 p0) (27 + Int.toNat x128) 3 0) (27 + Int.toNat x128) 4 (x172 + p2)) (27 + Int.toNat x128) 5 (-1)) (27 + Int.toNat x128) 6 0) (27 + Int.toNat x128) 7 p3) 0 5 (x228 + 1)) := tw_vw_s g227 (tw_v0 hw3) (by omega) (by omega) ef230 z231 (fun i9 => by rw [ef230, q_setr (Or.inl (fun q => by rw [q, kv3] at kn3; exact absurd kn3 (by decide)))]) (fun i9 => by rw [ef230, q_setr (Or.inl (fun q => by rw [q, kv3] at kl3; exact absurd kl3 (by decide)))]) (fun i9 => by rw [ef230, q_setr (Or.inl (fun q => by rw [q, kv3] at km3; exact absurd km3 (by decide)))])
    refine q_ald_n cx dX10_addMessage_88 rfl (lv_at hl 1 rfl) ?_
    obtain ⟨x245, ex245, nx245⟩ : ∃ zz, q_is (q_z f230 v3 5) zz ∧ zz = (x228 + 1) := ⟨_, z231, rfl⟩
    have sx245 : q_is x245 ((tw_u (tw_u (tw_u (tw_u (tw_u (tw_u (tw_u (tw_u (tw_u s3 (27 + Int.toNat x128) 0 p0) (27 + Int.toNat x128) 1 p1) (27 + Int.toNat x128) 2 p0) (27 + Int.toNat x128) 3 0) (27 + Int.toNat x128) 4 (x172 + p2)) (27 + Int.toNat x128) 5 (-1)) (27 + Int.toNat x128) 6 0) (27 + Int.toNat x128) 7 p3) 0 5 (x228 + 1)) 0 5) := tw_g g244 (tw_v0 hw3) (by omega) (by omega) ex245
    refine q_gX10_42_15 cx hB hv3 kv3 ex245 dX10_addMessage_89 (fun lb246 ub246 => ?_)
    refine q_iconst cx dX10_addMessage_92 ?_
    refine q_isub cx dX10_addMessage_93 ?_
    refine q_iret cx hr hlk hB dX10_addMessage_94 ⟨by omega, by omega⟩ ?_
    exact ⟨(by omega), (by omega), (Eq.trans z231 (by omega)), (by have t0_ : x124 = s3 0 5 := sx124; have t1_ : x128 = s3 0 5 := sx128; have t2_ : x172 = (tw_u (tw_u (tw_u (tw_u s3 (27 + Int.toNat (s3 0 5)) 0 p0) (27 + Int.toNat (s3 0 5)) 1 p1) (27 + Int.toNat (s3 0 5)) 2 p0) (27 + Int.toNat (s3 0 5)) 3 0) 0 11 := Eq.trans sx172 (by simp only [t1_]); have t3_ : x228 = (tw_u (tw_u (tw_u (tw_u (tw_u (tw_u (tw_u (tw_u s3 (27 + Int.toNat (s3 0 5)) 0 p0) (27 + Int.toNat (s3 0 5)) 1 p1) (27 + Int.toNat (s3 0 5)) 2 p0) (27 + Int.toNat (s3 0 5)) 3 0) (27 + Int.toNat (s3 0 5)) 4 (((tw_u (tw_u (tw_u (tw_u s3 (27 + Int.toNat (s3 0 5)) 0 p0) (27 + Int.toNat (s3 0 5)) 1 p1) (27 + Int.toNat (s3 0 5)) 2 p0) (27 + Int.toNat (s3 0 5)) 3 0) 0 11) + p2)) (27 + Int.toNat (s3 0 5)) 5 (-1)) (27 + Int.toNat (s3 0 5)) 6 0) (27 + Int.toNat (s3 0 5)) 7 p3) 0 5 := Eq.trans sx228 (by simp only [t1_, t2_]); have t4_ : x245 = (tw_u (tw_u (tw_u (tw_u (tw_u (tw_u (tw_u (tw_u (tw_u s3 (27 + Int.toNat (s3 0 5)) 0 p0) (27 + Int.toNat (s3 0 5)) 1 p1) (27 + Int.toNat (s3 0 5)) 2 p0) (27 + Int.toNat (s3 0 5)) 3 0) (27 + Int.toNat (s3 0 5)) 4 (((tw_u (tw_u (tw_u (tw_u s3 (27 + Int.toNat (s3 0 5)) 0 p0) (27 + Int.toNat (s3 0 5)) 1 p1) (27 + Int.toNat (s3 0 5)) 2 p0) (27 + Int.toNat (s3 0 5)) 3 0) 0 11) + p2)) (27 + Int.toNat (s3 0 5)) 5 (-1)) (27 + Int.toNat (s3 0 5)) 6 0) (27 + Int.toNat (s3 0 5)) 7 p3) 0 5 (((tw_u (tw_u (tw_u (tw_u (tw_u (tw_u (tw_u (tw_u s3 (27 + Int.toNat (s3 0 5)) 0 p0) (27 + Int.toNat (s3 0 5)) 1 p1) (27 + Int.toNat (s3 0 5)) 2 p0) (27 + Int.toNat (s3 0 5)) 3 0) (27 + Int.toNat (s3 0 5)) 4 (((tw_u (tw_u (tw_u (tw_u s3 (27 + Int.toNat (s3 0 5)) 0 p0) (27 + Int.toNat (s3 0 5)) 1 p1) (27 + Int.toNat (s3 0 5)) 2 p0) (27 + Int.toNat (s3 0 5)) 3 0) 0 11) + p2)) (27 + Int.toNat (s3 0 5)) 5 (-1)) (27 + Int.toNat (s3 0 5)) 6 0) (27 + Int.toNat (s3 0 5)) 7 p3) 0 5) + 1)) 0 5 := Eq.trans sx245 (by simp only [t1_, t2_, t3_]); omega), (by omega), (tw_cg g244 (by have t0_ : x124 = s3 0 5 := sx124; have t1_ : x128 = s3 0 5 := sx128; have t2_ : x172 = (tw_u (tw_u (tw_u (tw_u s3 (27 + Int.toNat (s3 0 5)) 0 p0) (27 + Int.toNat (s3 0 5)) 1 p1) (27 + Int.toNat (s3 0 5)) 2 p0) (27 + Int.toNat (s3 0 5)) 3 0) 0 11 := Eq.trans sx172 (by simp only [t1_]); have t3_ : x228 = (tw_u (tw_u (tw_u (tw_u (tw_u (tw_u (tw_u (tw_u s3 (27 + Int.toNat (s3 0 5)) 0 p0) (27 + Int.toNat (s3 0 5)) 1 p1) (27 + Int.toNat (s3 0 5)) 2 p0) (27 + Int.toNat (s3 0 5)) 3 0) (27 + Int.toNat (s3 0 5)) 4 (((tw_u (tw_u (tw_u (tw_u s3 (27 + Int.toNat (s3 0 5)) 0 p0) (27 + Int.toNat (s3 0 5)) 1 p1) (27 + Int.toNat (s3 0 5)) 2 p0) (27 + Int.toNat (s3 0 5)) 3 0) 0 11) + p2)) (27 + Int.toNat (s3 0 5)) 5 (-1)) (27 + Int.toNat (s3 0 5)) 6 0) (27 + Int.toNat (s3 0 5)) 7 p3) 0 5 := Eq.trans sx228 (by simp only [t1_, t2_]); have t4_ : x245 = (tw_u (tw_u (tw_u (tw_u (tw_u (tw_u (tw_u (tw_u (tw_u s3 (27 + Int.toNat (s3 0 5)) 0 p0) (27 + Int.toNat (s3 0 5)) 1 p1) (27 + Int.toNat (s3 0 5)) 2 p0) (27 + Int.toNat (s3 0 5)) 3 0) (27 + Int.toNat (s3 0 5)) 4 (((tw_u (tw_u (tw_u (tw_u s3 (27 + Int.toNat (s3 0 5)) 0 p0) (27 + Int.toNat (s3 0 5)) 1 p1) (27 + Int.toNat (s3 0 5)) 2 p0) (27 + Int.toNat (s3 0 5)) 3 0) 0 11) + p2)) (27 + Int.toNat (s3 0 5)) 5 (-1)) (27 + Int.toNat (s3 0 5)) 6 0) (27 + Int.toNat (s3 0 5)) 7 p3) 0 5 (((tw_u (tw_u (tw_u (tw_u (tw_u (tw_u (tw_u (tw_u s3 (27 + Int.toNat (s3 0 5)) 0 p0) (27 + Int.toNat (s3 0 5)) 1 p1) (27 + Int.toNat (s3 0 5)) 2 p0) (27 + Int.toNat (s3 0 5)) 3 0) (27 + Int.toNat (s3 0 5)) 4 (((tw_u (tw_u (tw_u (tw_u s3 (27 + Int.toNat (s3 0 5)) 0 p0) (27 + Int.toNat (s3 0 5)) 1 p1) (27 + Int.toNat (s3 0 5)) 2 p0) (27 + Int.toNat (s3 0 5)) 3 0) 0 11) + p2)) (27 + Int.toNat (s3 0 5)) 5 (-1)) (27 + Int.toNat (s3 0 5)) 6 0) (27 + Int.toNat (s3 0 5)) 7 p3) 0 5) + 1)) 0 5 := Eq.trans sx245 (by simp only [t1_, t2_, t3_]); (try simp only [t0_, t1_, t2_, t3_, t4_]); unfold tw_am tw_am2; (repeat' split) <;> first | rfl | (exfalso; omega)))⟩
  · exact absurd c127 (by omega)
set_option maxHeartbeats 4000000 in
set_option maxRecDepth 100000 in
theorem f_addEnergy (l : Launch) (g : q_G) {K : Nat → Nat} {L : List Nat} (hN : L.Nodup) {f : Nat → va_E} (hT : q_Ty g K L f) (d0 : Nat → Nat) (s0 : tw_S) (v0 : Nat) (hv0 : v0 ∈ L) (kv0 : K v0 = 10) (p0 : Int) (lp0 : 0 ≤ p0) (up0 : p0 ≤ 9) (p1 : Int) (lp1 : 1 ≤ p1) (up1 : p1 ≤ 999) (n0 : Nat) (hn0 : n0 ∈ L) (kn0 : K n0 = 110) (l0 : Nat) (hl0 : l0 ∈ L) (kl0 : K l0 = 120) (m0 : Nat) (hm0 : m0 ∈ L) (km0 : K m0 = 130) (hr0 : q_ir (q_r f v0 0) n0) (hr1 : q_ir (q_r f v0 1) l0) (hr2 : q_ir (q_r f v0 2) m0) (hw0 : tw_vw K L 10 5 3 4 f v0 n0 l0 m0 d0 s0) : q_Ct l g K L yX10_addEnergy cX10_addEnergy 4 (some .int) 1 21 [.ref v0, .int (q_i p0), .int (q_i p1)] f [(5, 4, 4)] (q_Pi (fun (z : Int) (f1 : Nat → va_E) => z ≤ 9999 ∧ (z = (tw_ae s0 p0 p1) (1 + Int.toNat p0) 4) ∧ (tw_vw K L 10 5 3 4 f1 v0 n0 l0 m0 d0 (tw_ae s0 p0 p1)))) := by
  refine q_ofb (by decide +kernel) hN hT (Nat.le_of_ble_eq_true rfl) ?_
  intro p e s m below meth c ls cx hr hlk hB hl
  have hl : lv_has ls 4 [(0, .ref v0), (1, .int (q_i p0)), (2, .int (q_i p1))] := hl
  obtain ⟨H, hH⟩ : ∃ H : Heap, H = s.heap := ⟨_, rfl⟩
  obtain ⟨locs, hlocs⟩ : ∃ z : List Loc, z = [] := ⟨_, rfl⟩
  rw [← hH, ← hlocs] at hB
  rw [← hH, ← hlocs]
  refine q_ald_n cx dX10_addEnergy_0 rfl (lv_at hl 0 rfl) ?_
  refine q_ild_n cx dX10_addEnergy_1 rfl (lv_at hl 1 rfl) ?_
  refine q_cVr (As := [.int (q_i p0)]) (rest := []) cx hB (fun _ h => h) hN hv0 kv0 (by decide) rfl (f_nodeAt0 l g hN hB.2.1 d0 s0 v0 hv0 kv0 p0 (by omega) (by omega) n0 hn0 kn0 l0 hl0 kl0 m0 hm0 km0 hr0 hr1 hr2 hw0) q_cX10_66 q_dX10_nodeAt (by decide) rfl rfl hl.1 rfl (Nat.le_of_ble_eq_true rfl) dX10_addEnergy_2 (fun y19 H locs f18 h20 hF hB => ?_)
  obtain ⟨rfl, hy19, ky19, t21⟩ := h20
  refine lv_astore_n (lv' := [(3, .ref y19), (0, .ref v0), (1, .int (q_i p0)), (2, .int (q_i p1))]) cx.1 cx.2.1 dX10_addEnergy_5 rfl hl (by decide) rfl (fun ls hl => ?_)
  refine q_ald_n cx dX10_addEnergy_6 rfl (lv_at hl 0 rfl) ?_
  refine q_sipush cx dX10_addEnergy_7 rfl ?_
  refine q_ald_n cx dX10_addEnergy_10 rfl (lv_at hl 0 rfl) ?_
  obtain ⟨x22, ex22⟩ : ∃ zz, q_is (q_z f y19 4) zz := ⟨_, q_isr _⟩
  obtain ⟨lx22, ux22⟩ := q_isb ex22 (q_fib hB.2.1 hy19 ky19 (by decide) rfl)
  obtain ⟨x23, ex23, nx23⟩ : ∃ zz, q_is (q_z f y19 4) zz ∧ zz = x22 := ⟨_, ex22, rfl⟩
  have sx23 : q_is x23 (s0 (1 + Int.toNat p0) 4) := tw_g hw0 t21 (by omega) (by omega) ex23
  refine q_gX10_101 cx hB hy19 ky19 ex23 dX10_addEnergy_11 (fun lb24 ub24 => ?_)
  refine q_ild_n cx dX10_addEnergy_14 rfl (lv_at hl 3 rfl) ?_
  refine q_iadd cx dX10_addEnergy_15 ?_
  refine q_any (fun y25 ry25 ey25 => ?_)
  refine q_mmin (rest := [.ref y19]) cx hl.1 q_h1421 q_h994 q_h56 q_h995 (by decide) (Nat.le_of_ble_eq_true rfl) (by decide) (by decide) ⟨by decide, by decide⟩ ⟨by omega, by omega⟩ dX10_addEnergy_16 (fun y26 ay26 by26 ey26 => ?_)
  refine q_pX10_101 cx hB hy19 ky19 ⟨by omega, by omega⟩ (by omega) (by omega) rfl dX10_addEnergy_19 (fun H locs f27 ef27 z28 hB => ?_)
  have z29 : q_ir (q_r f27 v0 0) n0 := by rw [ef27, q_setr (Or.inr (by decide))]; exact hr0
  have z30 : q_ir (q_r f27 v0 1) l0 := by rw [ef27, q_setr (Or.inr (by decide))]; exact hr1
  have z31 : q_ir (q_r f27 v0 2) m0 := by rw [ef27, q_setr (Or.inr (by decide))]; exact hr2
  have g32 : tw_vw K L 10 5 3 4 f27 v0 n0 l0 m0 d0 (tw_u s0 (1 + Int.toNat p0) 4 y26) := tw_vw_s hw0 t21 (by omega) (by omega) ef27 z28 (fun i9 => by rw [ef27, q_setr (Or.inl (fun q => by rw [q, ky19] at kn0; exact absurd kn0 (by decide)))]) (fun i9 => by rw [ef27, q_setr (Or.inl (fun q => by rw [q, ky19] at kl0; exact absurd kl0 (by decide)))]) (fun i9 => by rw [ef27, q_setr (Or.inl (fun q => by rw [q, ky19] at km0; exact absurd km0 (by decide)))])
  refine q_ald_n cx dX10_addEnergy_22 rfl (lv_at hl 0 rfl) ?_
  obtain ⟨x33, ex33, nx33⟩ : ∃ zz, q_is (q_z f27 y19 4) zz ∧ zz = y26 := ⟨_, z28, rfl⟩
  have sx33 : q_is x33 ((tw_u s0 (1 + Int.toNat p0) 4 y26) (1 + Int.toNat p0) 4) := tw_g g32 t21 (by omega) (by omega) ex33
  refine q_gX10_101 cx hB hy19 ky19 ex33 dX10_addEnergy_23 (fun lb34 ub34 => ?_)
  refine q_iret cx hr hlk hB dX10_addEnergy_26 ⟨by omega, by omega⟩ ?_
  exact ⟨(by omega), (by have t0_ : x23 = s0 (1 + Int.toNat p0) 4 := sx23; have t1_ : y25 = tw_w ((s0 (1 + Int.toNat p0) 4) + p1) := Eq.trans (tw_w_of ry25 ey25) (by simp only [t0_]); have t2_ : y26 = min 9999 (tw_w ((s0 (1 + Int.toNat p0) 4) + p1)) := Eq.trans (tw_mn ay26 by26 ey26) (by simp only [t1_]); have t3_ : x33 = (tw_u s0 (1 + Int.toNat p0) 4 (min 9999 (tw_w ((s0 (1 + Int.toNat p0) 4) + p1)))) (1 + Int.toNat p0) 4 := Eq.trans sx33 (by simp only [t2_]); (try simp only [t0_, t1_, t2_, t3_]); unfold tw_ae; (repeat' split) <;> first | rfl | (exfalso; omega)), (tw_cg g32 (by have t0_ : x23 = s0 (1 + Int.toNat p0) 4 := sx23; have t1_ : y25 = tw_w ((s0 (1 + Int.toNat p0) 4) + p1) := Eq.trans (tw_w_of ry25 ey25) (by simp only [t0_]); have t2_ : y26 = min 9999 (tw_w ((s0 (1 + Int.toNat p0) 4) + p1)) := Eq.trans (tw_mn ay26 by26 ey26) (by simp only [t1_]); have t3_ : x33 = (tw_u s0 (1 + Int.toNat p0) 4 (min 9999 (tw_w ((s0 (1 + Int.toNat p0) 4) + p1)))) (1 + Int.toNat p0) 4 := Eq.trans sx33 (by simp only [t2_]); (try simp only [t0_, t1_, t2_, t3_]); unfold tw_ae; (repeat' split) <;> first | rfl | (exfalso; omega)))⟩
set_option maxHeartbeats 4000000 in
set_option maxRecDepth 100000 in
theorem f_canSend (l : Launch) (g : q_G) {K : Nat → Nat} {L : List Nat} (hN : L.Nodup) {f : Nat → va_E} (hT : q_Ty g K L f) (d0 : Nat → Nat) (s0 : tw_S) (v0 : Nat) (hv0 : v0 ∈ L) (kv0 : K v0 = 10) (p0 : Int) (lp0 : 0 ≤ p0) (up0 : p0 ≤ 9) (p1 : Int) (lp1 : 0 ≤ p1) (up1 : p1 ≤ 9) (n0 : Nat) (hn0 : n0 ∈ L) (kn0 : K n0 = 110) (l0 : Nat) (hl0 : l0 ∈ L) (kl0 : K l0 = 120) (m0 : Nat) (hm0 : m0 ∈ L) (km0 : K m0 = 130) (mn : Int) (lmn : 0 ≤ mn) (umn : mn ≤ 61) (hf0 : q_is (q_z f v0 5) mn) (hr0 : q_ir (q_r f v0 0) n0) (hr1 : q_ir (q_r f v0 1) l0) (hr2 : q_ir (q_r f v0 2) m0) (hw0 : tw_vw K L 10 5 3 4 f v0 n0 l0 m0 d0 s0) : q_Ct l g K L yX10_canSend cX10_canSend 3 (some .boolean) 2 42 [.ref v0, .int (q_i p0), .int (q_i p1)] f [] (q_Pi (fun (z : Int) (f1 : Nat → va_E) => (f = f1 ∧ z = 1 ∧ (tw_ou s0 p0 = 0 ∧ tw_ou s0 p1 = 0 ∧ mn ≤ 59)) ∨ (f = f1 ∧ z = 0 ∧ (tw_ou s0 p0 = 1 ∨ tw_ou s0 p1 = 1 ∨ 60 ≤ mn)))) := by
  refine q_ofb (by decide +kernel) hN hT (Nat.le_of_ble_eq_true rfl) ?_
  intro p e s m below meth c ls cx hr hlk hB hl
  have hl : lv_has ls 3 [(0, .ref v0), (1, .int (q_i p0)), (2, .int (q_i p1))] := hl
  obtain ⟨H, hH⟩ : ∃ H : Heap, H = s.heap := ⟨_, rfl⟩
  obtain ⟨locs, hlocs⟩ : ∃ z : List Loc, z = [] := ⟨_, rfl⟩
  rw [← hH, ← hlocs] at hB
  rw [← hH, ← hlocs]
  refine q_ald_n cx dX10_canSend_0 rfl (lv_at hl 0 rfl) ?_
  refine q_ild_n cx dX10_canSend_1 rfl (lv_at hl 1 rfl) ?_
  refine q_cVi (As := [.int (q_i p0)]) (rest := []) cx hB (fun _ h => h) hN hv0 kv0 (by decide) rfl (f_isOut0 l g hN hB.2.1 d0 s0 v0 hv0 kv0 p0 (by omega) (by omega) n0 hn0 kn0 l0 hl0 kl0 m0 hm0 km0 hr0 hr1 hr2 hw0) q_cX10_160 q_dX10_isOut (by decide) rfl rfl hl.1 rfl (Nat.le_of_ble_eq_true rfl) dX10_canSend_2 (fun y23 H locs f22 ry23 h24 hF hB => ?_)
  rcases h24 with h25 | h26
  · obtain ⟨rfl, qy23, t27⟩ := h25
    subst qy23
    refine q_ifne (tgt := 29) cx ⟨by decide, by decide⟩ dX10_canSend_5 (by decide) (fun c28 => ?_) (fun c28 => ?_)
    · refine q_iconst cx dX10_canSend_29 ?_
      refine q_zret cx hr hlk hB dX10_canSend_30 (by decide) (by decide) ?_
      exact (Or.inr ⟨rfl, rfl, (by omega)⟩)
    · exact absurd c28 (by omega)
  · obtain ⟨rfl, qy23, t29⟩ := h26
    subst qy23
    refine q_ifne (tgt := 29) cx ⟨by decide, by decide⟩ dX10_canSend_5 (by decide) (fun c30 => ?_) (fun c30 => ?_)
    · exact absurd c30 (by omega)
    · refine q_ald_n cx dX10_canSend_8 rfl (lv_at hl 0 rfl) ?_
      refine q_ild_n cx dX10_canSend_9 rfl (lv_at hl 2 rfl) ?_
      refine q_cVi (As := [.int (q_i p1)]) (rest := []) cx hB (fun _ h => h) hN hv0 kv0 (by decide) rfl (f_isOut0 l g hN hB.2.1 d0 s0 v0 hv0 kv0 p1 (by omega) (by omega) n0 hn0 kn0 l0 hl0 kl0 m0 hm0 km0 hr0 hr1 hr2 hw0) q_cX10_160 q_dX10_isOut (by decide) rfl rfl hl.1 rfl (Nat.le_of_ble_eq_true rfl) dX10_canSend_10 (fun y32 H locs f31 ry32 h33 hF hB => ?_)
      rcases h33 with h34 | h35
      · obtain ⟨rfl, qy32, t36⟩ := h34
        subst qy32
        refine q_ifne (tgt := 29) cx ⟨by decide, by decide⟩ dX10_canSend_13 (by decide) (fun c37 => ?_) (fun c37 => ?_)
        · refine q_iconst cx dX10_canSend_29 ?_
          refine q_zret cx hr hlk hB dX10_canSend_30 (by decide) (by decide) ?_
          exact (Or.inr ⟨rfl, rfl, (by omega)⟩)
        · exact absurd c37 (by omega)
      · obtain ⟨rfl, qy32, t38⟩ := h35
        subst qy32
        refine q_ifne (tgt := 29) cx ⟨by decide, by decide⟩ dX10_canSend_13 (by decide) (fun c39 => ?_) (fun c39 => ?_)
        · exact absurd c39 (by omega)
        · refine q_ald_n cx dX10_canSend_16 rfl (lv_at hl 0 rfl) ?_
          obtain ⟨x40, ex40, nx40⟩ : ∃ zz, q_is (q_z f v0 5) zz ∧ zz = mn := ⟨_, hf0, rfl⟩
          have sx40 : q_is x40 (s0 0 5) := tw_g hw0 (tw_v0 hw0) (by omega) (by omega) ex40
          refine q_gX10_42 cx hB hv0 kv0 ex40 dX10_canSend_17 (fun lb41 ub41 => ?_)
          refine q_bipush cx dX10_canSend_20 rfl ?_
          refine q_icge (tgt := 29) cx ⟨by omega, by omega⟩ ⟨by decide, by decide⟩ dX10_canSend_22 (by decide) (fun c42 => ?_) (fun c42 => ?_)
          · refine q_iconst cx dX10_canSend_29 ?_
            refine q_zret cx hr hlk hB dX10_canSend_30 (by decide) (by decide) ?_
            exact (Or.inr ⟨rfl, rfl, (by omega)⟩)
          · refine q_iconst cx dX10_canSend_25 ?_
            refine lv_goto (tgt := 30) cx.1 cx.2.1 dX10_canSend_26 (by decide) ?_
            refine q_zret cx hr hlk hB dX10_canSend_30 (by decide) (by decide) ?_
            exact (Or.inl ⟨rfl, rfl, (by omega)⟩)
set_option maxHeartbeats 4000000 in
set_option maxRecDepth 100000 in
theorem f_isTickCount (l : Launch) (g : q_G) {K : Nat → Nat} {L : List Nat} (hN : L.Nodup) {f : Nat → va_E} (hT : q_Ty g K L f) (p0 : Int) (lp0 : 1 ≤ p0) (up0 : p0 ≤ 99) : q_Ct l g K L yX10_isTickCount cX10_isTickCount 1 (some .boolean) 0 0 [.int (q_i p0)] f [] (q_Pi (fun (z : Int) (f1 : Nat → va_E) => f = f1 ∧ z = 1)) := by
  refine q_ofb (by decide +kernel) hN hT (Nat.le_of_ble_eq_true rfl) ?_
  intro p e s m below meth c ls cx hr hlk hB hl
  have hl : lv_has ls 1 [(0, .int (q_i p0))] := hl
  obtain ⟨H, hH⟩ : ∃ H : Heap, H = s.heap := ⟨_, rfl⟩
  obtain ⟨locs, hlocs⟩ : ∃ z : List Loc, z = [] := ⟨_, rfl⟩
  rw [← hH, ← hlocs] at hB
  rw [← hH, ← hlocs]
  refine q_ild_n cx dX10_isTickCount_0 rfl (lv_at hl 0 rfl) ?_
  refine q_iconst cx dX10_isTickCount_1 ?_
  refine q_iclt (tgt := 15) cx ⟨by omega, by omega⟩ ⟨by decide, by decide⟩ dX10_isTickCount_2 (by decide) (fun c3 => ?_) (fun c3 => ?_)
  · exact absurd c3 (by omega)
  · refine q_ild_n cx dX10_isTickCount_5 rfl (lv_at hl 0 rfl) ?_
    refine q_bipush cx dX10_isTickCount_6 rfl ?_
    refine q_icgt (tgt := 15) cx ⟨by omega, by omega⟩ ⟨by decide, by decide⟩ dX10_isTickCount_8 (by decide) (fun c4 => ?_) (fun c4 => ?_)
    · exact absurd c4 (by omega)
    · refine q_iconst cx dX10_isTickCount_11 ?_
      refine lv_goto (tgt := 16) cx.1 cx.2.1 dX10_isTickCount_12 (by decide) ?_
      refine q_zret cx hr hlk hB dX10_isTickCount_16 (by decide) (by decide) ?_
      exact ⟨rfl, rfl⟩
set_option maxHeartbeats 4000000 in
set_option maxRecDepth 100000 in
theorem f_isCharge (l : Launch) (g : q_G) {K : Nat → Nat} {L : List Nat} (hN : L.Nodup) {f : Nat → va_E} (hT : q_Ty g K L f) (p0 : Int) (lp0 : 1 ≤ p0) (up0 : p0 ≤ 999) : q_Ct l g K L yX10_isCharge cX10_isCharge 1 (some .boolean) 0 0 [.int (q_i p0)] f [] (q_Pi (fun (z : Int) (f1 : Nat → va_E) => f = f1 ∧ z = 1)) := by
  refine q_ofb (by decide +kernel) hN hT (Nat.le_of_ble_eq_true rfl) ?_
  intro p e s m below meth c ls cx hr hlk hB hl
  have hl : lv_has ls 1 [(0, .int (q_i p0))] := hl
  obtain ⟨H, hH⟩ : ∃ H : Heap, H = s.heap := ⟨_, rfl⟩
  obtain ⟨locs, hlocs⟩ : ∃ z : List Loc, z = [] := ⟨_, rfl⟩
  rw [← hH, ← hlocs] at hB
  rw [← hH, ← hlocs]
  refine q_ild_n cx dX10_isCharge_0 rfl (lv_at hl 0 rfl) ?_
  refine q_iconst cx dX10_isCharge_1 ?_
  refine q_iclt (tgt := 16) cx ⟨by omega, by omega⟩ ⟨by decide, by decide⟩ dX10_isCharge_2 (by decide) (fun c3 => ?_) (fun c3 => ?_)
  · exact absurd c3 (by omega)
  · refine q_ild_n cx dX10_isCharge_5 rfl (lv_at hl 0 rfl) ?_
    refine q_sipush cx dX10_isCharge_6 rfl ?_
    refine q_icgt (tgt := 16) cx ⟨by omega, by omega⟩ ⟨by decide, by decide⟩ dX10_isCharge_9 (by decide) (fun c4 => ?_) (fun c4 => ?_)
    · exact absurd c4 (by omega)
    · refine q_iconst cx dX10_isCharge_12 ?_
      refine lv_goto (tgt := 17) cx.1 cx.2.1 dX10_isCharge_13 (by decide) ?_
      refine q_zret cx hr hlk hB dX10_isCharge_17 (by decide) (by decide) ?_
      exact ⟨rfl, rfl⟩
set_option maxHeartbeats 4000000 in
set_option maxRecDepth 100000 in
theorem f_isSending (l : Launch) (g : q_G) {K : Nat → Nat} {L : List Nat} (hN : L.Nodup) {f : Nat → va_E} (hT : q_Ty g K L f) (p0 : Int) (lp0 : 0 ≤ p0) (up0 : p0 ≤ 9) (p1 : Int) (lp1 : 0 ≤ p1) (up1 : p1 ≤ 9) (p2 : Int) (lp2 : 1 ≤ p2) (up2 : p2 ≤ 999) : q_Ct l g K L yX10_isSending cX10_isSending 3 (some .boolean) 0 0 [.int (q_i p0), .int (q_i p1), .int (q_i p2)] f [] (q_Pi (fun (z : Int) (f1 : Nat → va_E) => (f = f1 ∧ z = 1 ∧ (p0 ≠ p1)) ∨ (f = f1 ∧ z = 0 ∧ (p0 = p1)))) := by
  refine q_ofb (by decide +kernel) hN hT (Nat.le_of_ble_eq_true rfl) ?_
  intro p e s m below meth c ls cx hr hlk hB hl
  have hl : lv_has ls 3 [(0, .int (q_i p0)), (1, .int (q_i p1)), (2, .int (q_i p2))] := hl
  obtain ⟨H, hH⟩ : ∃ H : Heap, H = s.heap := ⟨_, rfl⟩
  obtain ⟨locs, hlocs⟩ : ∃ z : List Loc, z = [] := ⟨_, rfl⟩
  rw [← hH, ← hlocs] at hB
  rw [← hH, ← hlocs]
  refine q_ild_n cx dX10_isSending_0 rfl (lv_at hl 0 rfl) ?_
  refine q_ild_n cx dX10_isSending_1 rfl (lv_at hl 1 rfl) ?_
  refine q_iceq (tgt := 21) cx ⟨by omega, by omega⟩ ⟨by omega, by omega⟩ dX10_isSending_2 (by decide) (fun c4 => ?_) (fun c4 => ?_)
  · refine q_iconst cx dX10_isSending_21 ?_
    refine q_zret cx hr hlk hB dX10_isSending_22 (by decide) (by decide) ?_
    exact (Or.inr ⟨rfl, rfl, (by omega)⟩)
  · refine q_ild_n cx dX10_isSending_5 rfl (lv_at hl 2 rfl) ?_
    refine q_iconst cx dX10_isSending_6 ?_
    refine q_iclt (tgt := 21) cx ⟨by omega, by omega⟩ ⟨by decide, by decide⟩ dX10_isSending_7 (by decide) (fun c5 => ?_) (fun c5 => ?_)
    · exact absurd c5 (by omega)
    · refine q_ild_n cx dX10_isSending_10 rfl (lv_at hl 2 rfl) ?_
      refine q_sipush cx dX10_isSending_11 rfl ?_
      refine q_icgt (tgt := 21) cx ⟨by omega, by omega⟩ ⟨by decide, by decide⟩ dX10_isSending_14 (by decide) (fun c6 => ?_) (fun c6 => ?_)
      · exact absurd c6 (by omega)
      · refine q_iconst cx dX10_isSending_17 ?_
        refine lv_goto (tgt := 22) cx.1 cx.2.1 dX10_isSending_18 (by decide) ?_
        refine q_zret cx hr hlk hB dX10_isSending_22 (by decide) (by decide) ?_
        exact (Or.inl ⟨rfl, rfl, (by omega)⟩)
set_option maxHeartbeats 4000000 in
set_option maxRecDepth 100000 in
theorem f_hasTimeFor (l : Launch) (g : q_G) {K : Nat → Nat} {L : List Nat} (hN : L.Nodup) {f : Nat → va_E} (hT : q_Ty g K L f) (v0 : Nat) (hv0 : v0 ∈ L) (kv0 : K v0 = 10) (p0 : Int) (lp0 : 1 ≤ p0) (up0 : p0 ≤ 99) (tm : Int) (ltm : 0 ≤ tm) (utm : tm ≤ 9000) (hf0 : q_is (q_z f v0 11) tm) : q_Ct l g K L yX10_hasTimeFor cX10_hasTimeFor 2 (some .boolean) 0 0 [.ref v0, .int (q_i p0)] f [] (q_Pi (fun (z : Int) (f1 : Nat → va_E) => f = f1 ∧ z = 1)) := by
  refine q_ofb (by decide +kernel) hN hT (Nat.le_of_ble_eq_true rfl) ?_
  intro p e s m below meth c ls cx hr hlk hB hl
  have hl : lv_has ls 2 [(0, .ref v0), (1, .int (q_i p0))] := hl
  obtain ⟨H, hH⟩ : ∃ H : Heap, H = s.heap := ⟨_, rfl⟩
  obtain ⟨locs, hlocs⟩ : ∃ z : List Loc, z = [] := ⟨_, rfl⟩
  rw [← hH, ← hlocs] at hB
  rw [← hH, ← hlocs]
  refine q_ald_n cx dX10_hasTimeFor_0 rfl (lv_at hl 0 rfl) ?_
  refine q_gX10_60 cx hB hv0 kv0 hf0 dX10_hasTimeFor_1 (fun lb3 ub3 => ?_)
  refine q_ild_n cx dX10_hasTimeFor_4 rfl (lv_at hl 1 rfl) ?_
  refine q_iadd cx dX10_hasTimeFor_5 ?_
  refine q_sipush cx dX10_hasTimeFor_6 rfl ?_
  refine q_icgt (tgt := 16) cx ⟨by omega, by omega⟩ ⟨by decide, by decide⟩ dX10_hasTimeFor_9 (by decide) (fun c4 => ?_) (fun c4 => ?_)
  · exact absurd c4 (by omega)
  · refine q_iconst cx dX10_hasTimeFor_12 ?_
    refine lv_goto (tgt := 17) cx.1 cx.2.1 dX10_hasTimeFor_13 (by decide) ?_
    refine q_zret cx hr hlk hB dX10_hasTimeFor_17 (by decide) (by decide) ?_
    exact ⟨rfl, rfl⟩
set_option maxHeartbeats 4000000 in
set_option maxRecDepth 100000 in
theorem f_isDay (l : Launch) (g : q_G) {K : Nat → Nat} {L : List Nat} (hN : L.Nodup) {f : Nat → va_E} (hT : q_Ty g K L f) (v0 : Nat) (hv0 : v0 ∈ L) (kv0 : K v0 = 10) (p0 : Int) (lp0 : 0 ≤ p0) (up0 : p0 ≤ 59) (yr : Int) (lyr : 4 ≤ yr) (uyr : yr ≤ 60) (hf0 : q_is (q_z f v0 6) yr) (hp0 : p0 < yr) : q_Ct l g K L yX10_isDay cX10_isDay 2 (some .boolean) 0 0 [.ref v0, .int (q_i p0)] f [] (q_Pi (fun (z : Int) (f1 : Nat → va_E) => f = f1 ∧ z = 1)) := by
  refine q_ofb (by decide +kernel) hN hT (Nat.le_of_ble_eq_true rfl) ?_
  intro p e s m below meth c ls cx hr hlk hB hl
  have hl : lv_has ls 2 [(0, .ref v0), (1, .int (q_i p0))] := hl
  obtain ⟨H, hH⟩ : ∃ H : Heap, H = s.heap := ⟨_, rfl⟩
  obtain ⟨locs, hlocs⟩ : ∃ z : List Loc, z = [] := ⟨_, rfl⟩
  rw [← hH, ← hlocs] at hB
  rw [← hH, ← hlocs]
  refine q_ild_n cx dX10_isDay_0 rfl (lv_at hl 1 rfl) ?_
  refine q_iflt (tgt := 16) cx ⟨by omega, by omega⟩ dX10_isDay_1 (by decide) (fun c4 => ?_) (fun c4 => ?_)
  · exact absurd c4 (by omega)
  · refine q_ild_n cx dX10_isDay_4 rfl (lv_at hl 1 rfl) ?_
    refine q_ald_n cx dX10_isDay_5 rfl (lv_at hl 0 rfl) ?_
    refine q_gX10_45 cx hB hv0 kv0 hf0 dX10_isDay_6 (fun lb5 ub5 => ?_)
    refine q_icge (tgt := 16) cx ⟨by omega, by omega⟩ ⟨by omega, by omega⟩ dX10_isDay_9 (by decide) (fun c6 => ?_) (fun c6 => ?_)
    · exact absurd c6 (by omega)
    · refine q_iconst cx dX10_isDay_12 ?_
      refine lv_goto (tgt := 17) cx.1 cx.2.1 dX10_isDay_13 (by decide) ?_
      refine q_zret cx hr hlk hB dX10_isDay_17 (by decide) (by decide) ?_
      exact ⟨rfl, rfl⟩
set_option maxHeartbeats 4000000 in
set_option maxRecDepth 100000 in
theorem f_trialArrival (l : Launch) (g : q_G) {K : Nat → Nat} {L : List Nat} (hN : L.Nodup) {f : Nat → va_E} (hT : q_Ty g K L f) (d3 : Nat → Nat) (s3 : tw_S) (fc : Nat) (hfc : fc ∈ L) (kfc : K fc = 1) (p0 : Int) (lp0 : 0 ≤ p0) (up0 : p0 ≤ 60) (p1 : Int) (lp1 : 200 ≤ p1) (up1 : p1 ≤ 200) (v3 : Nat) (hv3 : v3 ∈ L) (kv3 : K v3 = 15) (n3 : Nat) (hn3 : n3 ∈ L) (kn3 : K n3 = 113) (l3 : Nat) (hl3 : l3 ∈ L) (kl3 : K l3 = 123) (m3 : Nat) (hm3 : m3 ∈ L) (km3 : K m3 = 133) (tm : Int) (ltm : 0 ≤ tm) (utm : tm ≤ 14000) (nn : Int) (lnn : 0 ≤ nn) (unn : nn ≤ 10) (ln : Int) (lln : 0 ≤ ln) (uln : ln ≤ 16) (mn : Int) (lmn : 0 ≤ mn) (umn : mn ≤ 61) (hf0 : q_is (q_z f v3 11) tm) (hf1 : q_is (q_z f v3 3) nn) (hf2 : q_is (q_z f v3 4) ln) (hf3 : q_is (q_z f v3 5) mn) (hr0 : q_ir (q_r f fc 0) v3) (hr1 : q_ir (q_r f v3 0) n3) (hr2 : q_ir (q_r f v3 1) l3) (hr3 : q_ir (q_r f v3 2) m3) (hw3 : tw_vw K L 15 19 23 27 f v3 n3 l3 m3 d3 s3) (hz3 : tw_nw K L 19 f) : q_Ct l g K L yX1_trialArrival cX1_trialArrival 5 (some .int) 5 125 [.ref fc, .int (q_i p0), .int (q_i p1)] f [(15, 11, 15), (19, 3, 4), (19, 6, 9), (23, 2, 4), (27, 2, 3), (27, 5, 6)] (q_Pi (fun (z : Int) (f1 : Nat → va_E) => (-1) ≤ z ∧ z ≤ 200 ∧ (z = tw_ar s3 p0 200) ∧ (∃ s9 : tw_S, tw_vw K L 15 19 23 27 f1 v3 n3 l3 m3 d3 s9) ∧ (tw_nw K L 19 f1))) := by
  obtain rfl : p1 = 200 := by omega
  refine q_ofb (by decide +kernel) hN hT (Nat.le_of_ble_eq_true rfl) ?_
  intro p e s m below meth c ls cx hr hlk hB hl
  have hl : lv_has ls 5 [(0, .ref fc), (1, .int (q_i p0)), (2, .int (q_i 200))] := hl
  have J12 : ∀ (n : Nat) (f12 : Nat → va_E) (v12_2 : Int) (lv12_2 : 200 ≤ v12_2) (uv12_2 : v12_2 ≤ 200) (v12_3 : Nat) (hv12_3 : v12_3 ∈ L) (kv12_3 : K v12_3 = 27) (v12_4 : Int) (lv12_4 : 0 ≤ v12_4) (uv12_4 : v12_4 ≤ 201) (w12_v3_11 : Int) (lw12_v3_11 : 0 ≤ w12_v3_11) (uw12_v3_11 : w12_v3_11 ≤ 14201) (hj_v3_3 : q_is (q_z f12 v3 3) nn) (hj_v3_4 : q_is (q_z f12 v3 4) ln) (hj_v3_5 : q_is (q_z f12 v3 5) mn) (hj_v3_11 : q_is (q_z f12 v3 11) w12_v3_11) (hq_fc_0 : q_ir (q_r f12 fc 0) v3) (hq_v3_0 : q_ir (q_r f12 v3 0) n3) (hq_v3_1 : q_ir (q_r f12 v3 1) l3) (hq_v3_2 : q_ir (q_r f12 v3 2) m3) (hz312 : tw_nw K L 19 f12) (hrl12_0 : 0 ≤ 1 * tm + 1 * v12_4 + -1 * w12_v3_11 + 0 ∧ 1 * tm + 1 * v12_4 + -1 * w12_v3_11 + 0 ≤ 0) (hpv : v12_3 = d3 (27 + Int.toNat p0)) (hvw : tw_vw K L 15 19 23 27 f12 v3 n3 l3 m3 d3 (tw_tsl s3 (Int.toNat v12_4))) (har : tw_ar s3 p0 200 = tw_arl p0 200 (Int.toNat (200 + 1 - v12_4)) v12_4 (tw_tsl s3 (Int.toNat v12_4))) (hmu : (Int.toNat (300 - v12_4)) < n) (H : Heap) (locs : List Loc) (hB : q_B g K L (fun q => q ∈ L) [(15, 11, 15), (19, 3, 4), (19, 6, 9), (23, 2, 4), (27, 2, 3), (27, 5, 6)] f f12 s H locs) (ls : Array Slot) (hl : lv_has ls 5 [(0, .ref fc), (2, .int (q_i v12_2)), (3, .ref v12_3), (4, .int (q_i v12_4))]), W p l e { frames := 5, cells := 0, slots := 0, locals := 125 } s m ([.ref fc, .int (q_i p0), .int (q_i 200)] : List Value).toArray below meth c H locs 0 0 (MQ below (q_Q g K L [(15, 11, 15), (19, 3, 4), (19, 6, 9), (23, 2, 4), (27, 2, 3), (27, 5, 6)] f (q_Pi (fun (z : Int) (f1 : Nat → va_E) => (-1) ≤ z ∧ z ≤ 200 ∧ (z = tw_ar s3 p0 200) ∧ (∃ s9 : tw_S, tw_vw K L 15 19 23 27 f1 v3 n3 l3 m3 d3 s9) ∧ (tw_nw K L 19 f1)))) ([.ref fc, .int (q_i p0), .int (q_i 200)] : List Value).toArray s 0 0 (fun q => q ∈ L)) (F0 m 12 ls []) := by
    intro n
    induction n with
    | zero =>
      intro f12 v12_2 lv12_2 uv12_2 v12_3 hv12_3 kv12_3 v12_4 lv12_4 uv12_4 w12_v3_11 lw12_v3_11 uw12_v3_11 hj_v3_3 hj_v3_4 hj_v3_5 hj_v3_11 hq_fc_0 hq_v3_0 hq_v3_1 hq_v3_2 hz312 hrl12_0 hpv hvw har hmu
      exact absurd hmu (Nat.not_lt_zero _)
    | succ n ih12 =>
      intro f12 v12_2 lv12_2 uv12_2 v12_3 hv12_3 kv12_3 v12_4 lv12_4 uv12_4 w12_v3_11 lw12_v3_11 uw12_v3_11 hj_v3_3 hj_v3_4 hj_v3_5 hj_v3_11 hq_fc_0 hq_v3_0 hq_v3_1 hq_v3_2 hz312 hrl12_0 hpv hvw har hmu H locs hB ls hl
      refine lv_iload cx.1 cx.2.1 dX1_trialArrival_12 (lv_at hl 3 rfl) ?_
      refine q_ild_n cx dX1_trialArrival_14 rfl (lv_at hl 1 rfl) ?_
      refine q_icgt (tgt := 52) cx ⟨by omega, by omega⟩ ⟨by omega, by omega⟩ dX1_trialArrival_15 (by decide) (fun c54 => ?_) (fun c54 => ?_)
      · refine q_iconst cx dX1_trialArrival_52 ?_
        refine q_iret cx hr hlk hB dX1_trialArrival_53 ⟨by decide, by decide⟩ ?_
        exact ⟨(by decide), (by decide), (by skip; exact (har.trans (tw_arl_e (by omega))).symm), ⟨_, hvw⟩, hz312⟩
      · refine q_ald_n cx dX1_trialArrival_18 rfl (lv_at hl 2 rfl) ?_
        obtain ⟨x55, ex55⟩ : ∃ zz, q_is (q_z f12 v12_3 3) zz := ⟨_, q_isr _⟩
        obtain ⟨lx55, ux55⟩ := q_isb ex55 (q_fib hB.2.1 hv12_3 kv12_3 (by decide) rfl)
        obtain ⟨x56, ex56, nx56⟩ : ∃ zz, q_is (q_z f12 v12_3 3) zz ∧ zz = x55 := ⟨_, ex55, rfl⟩
        have sx56 : q_is x56 ((tw_tsl s3 (Int.toNat v12_4)) (27 + Int.toNat p0) 3) := tw_g hvw hpv (by omega) (by omega) ex56
        refine q_gX1_42_27 cx hB hv12_3 kv12_3 ex56 dX1_trialArrival_19 (fun lb57 ub57 => ?_)
        refine q_iconst cx dX1_trialArrival_22 ?_
        refine q_iceq (tgt := 52) cx ⟨by omega, by omega⟩ ⟨by decide, by decide⟩ dX1_trialArrival_23 (by decide) (fun c58 => ?_) (fun c58 => ?_)
        · refine q_iconst cx dX1_trialArrival_52 ?_
          refine q_iret cx hr hlk hB dX1_trialArrival_53 ⟨by decide, by decide⟩ ?_
          exact ⟨(by decide), (by decide), (by have t0_ : x56 = (tw_tsl s3 (Int.toNat v12_4)) (27 + Int.toNat p0) 3 := sx56; refine (har.trans ?_).symm; rw [tw_arl_s (by omega)]; (repeat' split) <;> first | rfl | (exfalso; omega)), ⟨_, hvw⟩, hz312⟩
        · refine q_ald_n cx dX1_trialArrival_26 rfl (lv_at hl 2 rfl) ?_
          obtain ⟨x59, ex59, nx59⟩ : ∃ zz, q_is (q_z f12 v12_3 3) zz ∧ zz = x55 := ⟨_, ex55, rfl⟩
          have sx59 : q_is x59 ((tw_tsl s3 (Int.toNat v12_4)) (27 + Int.toNat p0) 3) := tw_g hvw hpv (by omega) (by omega) ex59
          refine q_gX1_42_27 cx hB hv12_3 kv12_3 ex59 dX1_trialArrival_27 (fun lb60 ub60 => ?_)
          refine q_iconst cx dX1_trialArrival_30 ?_
          refine q_icne (tgt := 37) cx ⟨by omega, by omega⟩ ⟨by decide, by decide⟩ dX1_trialArrival_31 (by decide) (fun c61 => ?_) (fun c61 => ?_)
          · refine q_ald_n cx dX1_trialArrival_37 rfl (lv_at hl 0 rfl) ?_
            refine q_gX1_12 cx hB hfc kfc hq_fc_0 dX1_trialArrival_38 (fun hb62 kb62 => ?_)
            refine q_iconst cx dX1_trialArrival_41 ?_
            refine q_cVi (As := [.int (q_i 1)]) (rest := []) cx hB (fun _ h => h) hN hv3 kv3 (by decide) rfl (f_passTicks3 l g hN hB.2.1 d3 (tw_tsl s3 (Int.toNat v12_4)) v3 hv3 kv3 1 (by decide) (by decide) n3 hn3 kn3 l3 hl3 kl3 m3 hm3 km3 w12_v3_11 (by omega) (by omega) nn (by omega) (by omega) ln (by omega) (by omega) mn (by omega) (by omega) hj_v3_11 hj_v3_3 hj_v3_4 hj_v3_5 hq_v3_0 hq_v3_1 hq_v3_2 hvw hz312) q_cX1_48 q_dX10_passTicks (by decide) rfl rfl hl.1 rfl (Nat.le_of_ble_eq_true rfl) dX1_trialArrival_42 (fun y64 H locs f63 ry64 h65 hF hB => ?_)
            obtain ⟨ly64, uy64, z66, t67, g68, g69⟩ := h65
            have z70 : q_is (q_z f63 v3 3) nn := Eq.trans (hF.z hv3 (by rw [kv3]; rfl)) hj_v3_3
            have z71 : q_is (q_z f63 v3 4) ln := Eq.trans (hF.z hv3 (by rw [kv3]; rfl)) hj_v3_4
            have z72 : q_is (q_z f63 v3 5) mn := Eq.trans (hF.z hv3 (by rw [kv3]; rfl)) hj_v3_5
            have z73 : q_ir (q_r f63 fc 0) v3 := Eq.trans (hF.r hfc (by rw [kfc]; rfl)) hq_fc_0
            have z74 : q_ir (q_r f63 v3 0) n3 := Eq.trans (hF.r hv3 (by rw [kv3]; rfl)) hq_v3_0
            have z75 : q_ir (q_r f63 v3 1) l3 := Eq.trans (hF.r hv3 (by rw [kv3]; rfl)) hq_v3_1
            have z76 : q_ir (q_r f63 v3 2) m3 := Eq.trans (hF.r hv3 (by rw [kv3]; rfl)) hq_v3_2
            have g77 : tw_nw K L 19 f63 := tw_nw_tr hz312 (fun a9 h9 k9 => hF.j h9 (by rw [k9]; rfl))
            refine lv_pop cx.1 cx.2.1 dX1_trialArrival_45 rfl ?_
            refine q_iinc (lv' := [(4, .int (q_i (v12_4 + 1))), (0, .ref fc), (2, .int (q_i v12_2)), (3, .ref v12_3)]) cx dX1_trialArrival_46 hl (k := 3) rfl (by decide) rfl (fun ls hl => ?_)
            refine lv_goto (tgt := 12) cx.1 cx.2.1 dX1_trialArrival_49 (by decide) ?_
            exact ih12 f63 v12_2 (by omega) (by omega) v12_3 hv12_3 kv12_3 (v12_4 + 1) (by omega) (by omega) (w12_v3_11 + 1) (by omega) (by omega) z70 z71 z72 z66 z73 z74 z75 z76 g69 (by omega) hpv (tw_cg g68 (by rw [tw_tsl_s (by omega)]; rfl)) (by have t0_ : x56 = (tw_tsl s3 (Int.toNat v12_4)) (27 + Int.toNat p0) 3 := sx56; have t1_ : x59 = (tw_tsl s3 (Int.toNat v12_4)) (27 + Int.toNat p0) 3 := sx59; have t2_ : y64 = tw_tcl (tw_tsl s3 (Int.toNat v12_4)) (Int.toNat 1) := t67; refine har.trans ?_; rw [tw_arl_s (by omega), tw_tsl_s (by omega)]; (repeat' split) <;> first | rfl | (exfalso; omega)) (by omega) H locs hB ls (lv_sub hl [1, 2, 3, 0] rfl)
          · refine lv_iload cx.1 cx.2.1 dX1_trialArrival_34 (lv_at hl 3 rfl) ?_
            refine q_iret cx hr hlk hB dX1_trialArrival_36 ⟨by omega, by omega⟩ ?_
            exact ⟨(by omega), (by omega), (by have t0_ : x56 = (tw_tsl s3 (Int.toNat v12_4)) (27 + Int.toNat p0) 3 := sx56; have t1_ : x59 = (tw_tsl s3 (Int.toNat v12_4)) (27 + Int.toNat p0) 3 := sx59; refine (har.trans ?_).symm; rw [tw_arl_s (by omega)]; (repeat' split) <;> first | rfl | (exfalso; omega)), ⟨_, hvw⟩, hz312⟩
  obtain ⟨H, hH⟩ : ∃ H : Heap, H = s.heap := ⟨_, rfl⟩
  obtain ⟨locs, hlocs⟩ : ∃ z : List Loc, z = [] := ⟨_, rfl⟩
  rw [← hH, ← hlocs] at hB
  rw [← hH, ← hlocs]
  refine q_ald_n cx dX1_trialArrival_0 rfl (lv_at hl 0 rfl) ?_
  refine q_gX1_12 cx hB hfc kfc hr0 dX1_trialArrival_1 (fun hb78 kb78 => ?_)
  refine q_ild_n cx dX1_trialArrival_4 rfl (lv_at hl 1 rfl) ?_
  refine q_cVr (As := [.int (q_i p0)]) (rest := []) cx hB (fun _ h => h) hN hv3 kv3 (by decide) rfl (f_messageAt3 l g hN hB.2.1 d3 s3 v3 hv3 kv3 p0 (by omega) (by omega) n3 hn3 kn3 l3 hl3 kl3 m3 hm3 km3 hr1 hr2 hr3 hw3) q_cX1_38 q_dX10_messageAt (by decide) rfl rfl hl.1 rfl (Nat.le_of_ble_eq_true rfl) dX1_trialArrival_5 (fun y80 H locs f79 h81 hF hB => ?_)
  obtain ⟨rfl, hy80, ky80, t82⟩ := h81
  refine lv_astore_n (lv' := [(3, .ref y80), (0, .ref fc), (1, .int (q_i p0)), (2, .int (q_i 200))]) cx.1 cx.2.1 dX1_trialArrival_8 rfl hl (by decide) rfl (fun ls hl => ?_)
  refine q_iconst cx dX1_trialArrival_9 ?_
  refine lv_istore (lv' := [(4, .int (q_i 0)), (3, .ref y80), (0, .ref fc), (1, .int (q_i p0)), (2, .int (q_i 200))]) cx.1 cx.2.1 dX1_trialArrival_10 hl (by decide) rfl (fun ls hl => ?_)
  exact J12 ((Int.toNat (300 - 0)) + 1) f 200 (by decide) (by decide) y80 hy80 ky80 0 (by decide) (by decide) tm (by omega) (by omega) hf1 hf2 hf3 hf0 hr0 hr1 hr2 hr3 hz3 (by omega) t82 (tw_cg hw3 rfl) rfl (Nat.lt_succ_self _) H locs hB ls (lv_sub hl [2, 4, 1, 0] rfl)
set_option maxHeartbeats 4000000 in
set_option maxRecDepth 100000 in
theorem f_ticksToArrival (l : Launch) (g : q_G) {K : Nat → Nat} {L : List Nat} (hN : L.Nodup) {f : Nat → va_E} (hT : q_Ty g K L f) (d0 : Nat → Nat) (s0 : tw_S) (d3 : Nat → Nat) (fc : Nat) (hfc : fc ∈ L) (kfc : K fc = 1) (v0 : Nat) (hv0 : v0 ∈ L) (kv0 : K v0 = 10) (p1 : Int) (lp1 : 0 ≤ p1) (up1 : p1 ≤ 60) (v3 : Nat) (hv3 : v3 ∈ L) (kv3 : K v3 = 15) (n3 : Nat) (hn3 : n3 ∈ L) (kn3 : K n3 = 113) (l3 : Nat) (hl3 : l3 ∈ L) (kl3 : K l3 = 123) (m3 : Nat) (hm3 : m3 ∈ L) (km3 : K m3 = 133) (n0 : Nat) (hn0 : n0 ∈ L) (kn0 : K n0 = 110) (l0 : Nat) (hl0 : l0 ∈ L) (kl0 : K l0 = 120) (m0 : Nat) (hm0 : m0 ∈ L) (km0 : K m0 = 130) (tm : Int) (ltm : 0 ≤ tm) (utm : tm ≤ 9000) (nn : Int) (lnn : 0 ≤ nn) (unn : nn ≤ 10) (ln : Int) (lln : 0 ≤ ln) (uln : ln ≤ 16) (mn : Int) (lmn : 0 ≤ mn) (umn : mn ≤ 61) (hf0 : q_is (q_z f v0 11) tm) (hf1 : q_is (q_z f v0 3) nn) (hf2 : q_is (q_z f v0 4) ln) (hf3 : q_is (q_z f v0 5) mn) (hr0 : q_ir (q_r f fc 0) v3) (hr1 : q_ir (q_r f v3 0) n3) (hr2 : q_ir (q_r f v3 1) l3) (hr3 : q_ir (q_r f v3 2) m3) (hr4 : q_ir (q_r f v0 0) n0) (hr5 : q_ir (q_r f v0 1) l0) (hr6 : q_ir (q_r f v0 2) m0) (hw0 : tw_vw K L 10 5 3 4 f v0 n0 l0 m0 d0 s0) (hz0 : tw_nw K L 5 f) (he3 : ∃ s9 : tw_S, tw_vw K L 15 19 23 27 f v3 n3 l3 m3 d3 s9) (hz3 : tw_nw K L 19 f) : q_Ct l g K L yX1_ticksToArrival cX1_ticksToArrival 3 (some .int) 6 149 [.ref fc, .ref v0, .int (q_i p1)] f [(15, 3, 15), (19, 0, 9), (23, 0, 4), (27, 0, 7)] (q_Pi (fun (z : Int) (f1 : Nat → va_E) => (-1) ≤ z ∧ z ≤ 200 ∧ (∃ τ9 : tw_S, z = tw_ar (tw_cp τ9 s0) p1 200) ∧ (∃ s9 : tw_S, tw_vw K L 15 19 23 27 f1 v3 n3 l3 m3 d3 s9) ∧ (tw_nw K L 19 f1))) := by
  refine q_ofb (by decide +kernel) hN hT (Nat.le_of_ble_eq_true rfl) ?_
  intro p e s m below meth c ls cx hr hlk hB hl
  have hl : lv_has ls 3 [(0, .ref fc), (1, .ref v0), (2, .int (q_i p1))] := hl
  obtain ⟨H, hH⟩ : ∃ H : Heap, H = s.heap := ⟨_, rfl⟩
  obtain ⟨locs, hlocs⟩ : ∃ z : List Loc, z = [] := ⟨_, rfl⟩
  rw [← hH, ← hlocs] at hB
  rw [← hH, ← hlocs]
  obtain ⟨s3, hw3⟩ := he3
  refine q_ald_n cx dX1_ticksToArrival_0 rfl (lv_at hl 0 rfl) ?_
  refine q_gX1_12 cx hB hfc kfc hr0 dX1_ticksToArrival_1 (fun hb47 kb47 => ?_)
  refine q_ald_n cx dX1_ticksToArrival_4 rfl (lv_at hl 1 rfl) ?_
  refine q_cVv (As := [.ref v0]) (rest := []) cx hB (fun _ h => h) hN hv3 kv3 (by decide) rfl (f_vcopy30 l g hN hB.2.1 d3 s3 d0 s0 v3 hv3 kv3 v0 hv0 kv0 n3 hn3 kn3 l3 hl3 kl3 m3 hm3 km3 n0 hn0 kn0 l0 hl0 kl0 m0 hm0 km0 nn (by omega) (by omega) ln (by omega) (by omega) mn (by omega) (by omega) tm (by omega) (by omega) hf1 hf2 hf3 hf0 hr1 hr2 hr3 hr4 hr5 hr6 hw3 hw0 hz3 hz0) q_cX1_18 q_dX10_copyFrom (by decide) rfl rfl hl.1 rfl (Nat.le_of_ble_eq_true rfl) dX1_ticksToArrival_5 (fun H locs f48 h50 hF hB => ?_)
  obtain ⟨z51, z52, z53, z54, g55, g56⟩ := h50
  have z57 : q_is (q_z f48 v0 11) tm := Eq.trans (hF.z hv0 (by rw [kv0]; rfl)) hf0
  have z58 : q_is (q_z f48 v0 3) nn := Eq.trans (hF.z hv0 (by rw [kv0]; rfl)) hf1
  have z59 : q_is (q_z f48 v0 4) ln := Eq.trans (hF.z hv0 (by rw [kv0]; rfl)) hf2
  have z60 : q_is (q_z f48 v0 5) mn := Eq.trans (hF.z hv0 (by rw [kv0]; rfl)) hf3
  have z61 : q_ir (q_r f48 fc 0) v3 := Eq.trans (hF.r hfc (by rw [kfc]; rfl)) hr0
  have z62 : q_ir (q_r f48 v3 0) n3 := Eq.trans (hF.r hv3 (by rw [kv3]; rfl)) hr1
  have z63 : q_ir (q_r f48 v3 1) l3 := Eq.trans (hF.r hv3 (by rw [kv3]; rfl)) hr2
  have z64 : q_ir (q_r f48 v3 2) m3 := Eq.trans (hF.r hv3 (by rw [kv3]; rfl)) hr3
  have z65 : q_ir (q_r f48 v0 0) n0 := Eq.trans (hF.r hv0 (by rw [kv0]; rfl)) hr4
  have z66 : q_ir (q_r f48 v0 1) l0 := Eq.trans (hF.r hv0 (by rw [kv0]; rfl)) hr5
  have z67 : q_ir (q_r f48 v0 2) m0 := Eq.trans (hF.r hv0 (by rw [kv0]; rfl)) hr6
  have g68 : tw_vw K L 10 5 3 4 f48 v0 n0 l0 m0 d0 s0 := tw_vw_tr hw0 (fun a9 h9 k9 c9 => hF.z h9 (by rw [k9]; rfl)) (fun a9 h9 k9 c9 => hF.z h9 (by rw [k9]; rfl)) (fun a9 h9 k9 c9 => hF.z h9 (by rw [k9]; rfl)) (fun a9 h9 k9 c9 => hF.z h9 (by rw [k9]; rfl)) (fun i9 => hF.r hn0 (by rw [kn0]; rfl)) (fun i9 => hF.r hl0 (by rw [kl0]; rfl)) (fun i9 => hF.r hm0 (by rw [km0]; rfl))
  have g69 : tw_nw K L 5 f48 := tw_nw_tr hz0 (fun a9 h9 k9 => hF.j h9 (by rw [k9]; rfl))
  refine q_ald_n cx dX1_ticksToArrival_8 rfl (lv_at hl 0 rfl) ?_
  refine q_ild_n cx dX1_ticksToArrival_9 rfl (lv_at hl 2 rfl) ?_
  refine q_sipush cx dX1_ticksToArrival_10 rfl ?_
  refine q_cVi (As := [.int (q_i p1), .int (q_i 200)]) (rest := []) cx hB (fun _ h => h) hN hfc kfc (by decide) rfl (f_trialArrival l g hN hB.2.1 d3 (tw_cp s3 s0) fc hfc kfc p1 (by omega) (by omega) 200 (by decide) (by decide) v3 hv3 kv3 n3 hn3 kn3 l3 hl3 kl3 m3 hm3 km3 tm (by omega) (by omega) nn (by omega) (by omega) ln (by omega) (by omega) mn (by omega) (by omega) z54 z51 z52 z53 z61 z62 z63 z64 g55 g56) q_cX1_22 q_dX1_trialArrival (by decide) rfl rfl hl.1 rfl (Nat.le_of_ble_eq_true rfl) dX1_ticksToArrival_13 (fun y71 H locs f70 ry71 h72 hF hB => ?_)
  obtain ⟨ly71, uy71, t73, g74, g75⟩ := h72
  have z76 : q_is (q_z f70 v0 11) tm := Eq.trans (hF.z hv0 (by rw [kv0]; rfl)) z57
  have z77 : q_is (q_z f70 v0 3) nn := Eq.trans (hF.z hv0 (by rw [kv0]; rfl)) z58
  have z78 : q_is (q_z f70 v0 4) ln := Eq.trans (hF.z hv0 (by rw [kv0]; rfl)) z59
  have z79 : q_is (q_z f70 v0 5) mn := Eq.trans (hF.z hv0 (by rw [kv0]; rfl)) z60
  have z80 : q_is (q_z f70 v3 3) nn := Eq.trans (hF.z hv3 (by rw [kv3]; rfl)) z51
  have z81 : q_is (q_z f70 v3 4) ln := Eq.trans (hF.z hv3 (by rw [kv3]; rfl)) z52
  have z82 : q_is (q_z f70 v3 5) mn := Eq.trans (hF.z hv3 (by rw [kv3]; rfl)) z53
  have z83 : q_ir (q_r f70 fc 0) v3 := Eq.trans (hF.r hfc (by rw [kfc]; rfl)) z61
  have z84 : q_ir (q_r f70 v3 0) n3 := Eq.trans (hF.r hv3 (by rw [kv3]; rfl)) z62
  have z85 : q_ir (q_r f70 v3 1) l3 := Eq.trans (hF.r hv3 (by rw [kv3]; rfl)) z63
  have z86 : q_ir (q_r f70 v3 2) m3 := Eq.trans (hF.r hv3 (by rw [kv3]; rfl)) z64
  have z87 : q_ir (q_r f70 v0 0) n0 := Eq.trans (hF.r hv0 (by rw [kv0]; rfl)) z65
  have z88 : q_ir (q_r f70 v0 1) l0 := Eq.trans (hF.r hv0 (by rw [kv0]; rfl)) z66
  have z89 : q_ir (q_r f70 v0 2) m0 := Eq.trans (hF.r hv0 (by rw [kv0]; rfl)) z67
  have g90 : tw_vw K L 10 5 3 4 f70 v0 n0 l0 m0 d0 s0 := tw_vw_tr g68 (fun a9 h9 k9 c9 => hF.z h9 (by rw [k9]; rfl)) (fun a9 h9 k9 c9 => hF.z h9 (by rw [k9]; rfl)) (fun a9 h9 k9 c9 => hF.z h9 (by rw [k9]; rfl)) (fun a9 h9 k9 c9 => hF.z h9 (by rw [k9]; rfl)) (fun i9 => hF.r hn0 (by rw [kn0]; rfl)) (fun i9 => hF.r hl0 (by rw [kl0]; rfl)) (fun i9 => hF.r hm0 (by rw [km0]; rfl))
  have g91 : tw_nw K L 5 f70 := tw_nw_tr g69 (fun a9 h9 k9 => hF.j h9 (by rw [k9]; rfl))
  have g92 : tw_nw K L 19 f70 := tw_nw_tr g56 (fun a9 h9 k9 => hF.j h9 (by rw [k9]; rfl))
  refine q_iret cx hr hlk hB dX1_ticksToArrival_16 ⟨by omega, by omega⟩ ?_
  exact ⟨(by omega), (by omega), ⟨s3, (by have t0_ : y71 = tw_ar (tw_cp s3 s0) p1 200 := t73; (try simp only [t0_]); (repeat' split) <;> first | rfl | (exfalso; omega))⟩, g74, g75⟩
set_option maxHeartbeats 4000000 in
set_option maxRecDepth 100000 in
theorem f_sendInThought (l : Launch) (g : q_G) {K : Nat → Nat} {L : List Nat} (hN : L.Nodup) {f : Nat → va_E} (hT : q_Ty g K L f) (d0 : Nat → Nat) (s0 : tw_S) (d3 : Nat → Nat) (s3 : tw_S) (fc : Nat) (hfc : fc ∈ L) (kfc : K fc = 1) (v0 : Nat) (hv0 : v0 ∈ L) (kv0 : K v0 = 10) (p1 : Int) (lp1 : 0 ≤ p1) (up1 : p1 ≤ 9) (p2 : Int) (lp2 : 0 ≤ p2) (up2 : p2 ≤ 9) (p3 : Int) (lp3 : 0 ≤ p3) (up3 : p3 ≤ 1) (v3 : Nat) (hv3 : v3 ∈ L) (kv3 : K v3 = 15) (n3 : Nat) (hn3 : n3 ∈ L) (kn3 : K n3 = 113) (l3 : Nat) (hl3 : l3 ∈ L) (kl3 : K l3 = 123) (m3 : Nat) (hm3 : m3 ∈ L) (km3 : K m3 = 133) (n0 : Nat) (hn0 : n0 ∈ L) (kn0 : K n0 = 110) (l0 : Nat) (hl0 : l0 ∈ L) (kl0 : K l0 = 120) (m0 : Nat) (hm0 : m0 ∈ L) (km0 : K m0 = 130) (tm : Int) (ltm : 0 ≤ tm) (utm : tm ≤ 9000) (nn : Int) (lnn : 0 ≤ nn) (unn : nn ≤ 10) (ln : Int) (lln : 0 ≤ ln) (uln : ln ≤ 16) (mn : Int) (lmn : 0 ≤ mn) (umn : mn ≤ 60) (hf0 : q_is (q_z f v0 11) tm) (hf1 : q_is (q_z f v0 3) nn) (hf2 : q_is (q_z f v0 4) ln) (hf3 : q_is (q_z f v0 5) mn) (hr0 : q_ir (q_r f fc 0) v3) (hr1 : q_ir (q_r f v3 0) n3) (hr2 : q_ir (q_r f v3 1) l3) (hr3 : q_ir (q_r f v3 2) m3) (hr4 : q_ir (q_r f v0 0) n0) (hr5 : q_ir (q_r f v0 1) l0) (hr6 : q_ir (q_r f v0 2) m0) (hw0 : tw_vw K L 10 5 3 4 f v0 n0 l0 m0 d0 s0) (hz0 : tw_nw K L 5 f) (hw3 : tw_vw K L 15 19 23 27 f v3 n3 l3 m3 d3 s3) (hz3 : tw_nw K L 19 f) : q_Ct l g K L yX1_sendInThought cX1_sendInThought 5 (some .int) 2 46 [.ref fc, .ref v0, .int (q_i p1), .int (q_i p2), .int (q_i p3)] f [(15, 3, 12), (19, 0, 8), (23, 0, 4), (27, 0, 7)] (q_Pi (fun (z : Int) (f1 : Nat → va_E) => 0 ≤ z ∧ z ≤ 60 ∧ q_is (q_z f1 v3 3) nn ∧ q_is (q_z f1 v3 4) ln ∧ q_is (q_z f1 v3 5) (mn + 1) ∧ q_is (q_z f1 v3 11) tm ∧ (z = (tw_cp s3 s0) 0 5) ∧ (tw_vw K L 15 19 23 27 f1 v3 n3 l3 m3 d3 (tw_am (tw_cp s3 s0) p1 p2 1 p3)) ∧ (tw_nw K L 19 f1))) := by
  refine q_ofb (by decide +kernel) hN hT (Nat.le_of_ble_eq_true rfl) ?_
  intro p e s m below meth c ls cx hr hlk hB hl
  have hl : lv_has ls 5 [(0, .ref fc), (1, .ref v0), (2, .int (q_i p1)), (3, .int (q_i p2)), (4, .int (q_i p3))] := hl
  obtain ⟨H, hH⟩ : ∃ H : Heap, H = s.heap := ⟨_, rfl⟩
  obtain ⟨locs, hlocs⟩ : ∃ z : List Loc, z = [] := ⟨_, rfl⟩
  rw [← hH, ← hlocs] at hB
  rw [← hH, ← hlocs]
  refine q_ald_n cx dX1_sendInThought_0 rfl (lv_at hl 0 rfl) ?_
  refine q_gX1_12 cx hB hfc kfc hr0 dX1_sendInThought_1 (fun hb49 kb49 => ?_)
  refine q_ald_n cx dX1_sendInThought_4 rfl (lv_at hl 1 rfl) ?_
  refine q_cVv (As := [.ref v0]) (rest := []) cx hB (fun _ h => h) hN hv3 kv3 (by decide) rfl (f_vcopy30 l g hN hB.2.1 d3 s3 d0 s0 v3 hv3 kv3 v0 hv0 kv0 n3 hn3 kn3 l3 hl3 kl3 m3 hm3 km3 n0 hn0 kn0 l0 hl0 kl0 m0 hm0 km0 nn (by omega) (by omega) ln (by omega) (by omega) mn (by omega) (by omega) tm (by omega) (by omega) hf1 hf2 hf3 hf0 hr1 hr2 hr3 hr4 hr5 hr6 hw3 hw0 hz3 hz0) q_cX1_18 q_dX10_copyFrom (by decide) rfl rfl hl.1 rfl (Nat.le_of_ble_eq_true rfl) dX1_sendInThought_5 (fun H locs f50 h52 hF hB => ?_)
  obtain ⟨z53, z54, z55, z56, g57, g58⟩ := h52
  have z59 : q_is (q_z f50 v0 11) tm := Eq.trans (hF.z hv0 (by rw [kv0]; rfl)) hf0
  have z60 : q_is (q_z f50 v0 3) nn := Eq.trans (hF.z hv0 (by rw [kv0]; rfl)) hf1
  have z61 : q_is (q_z f50 v0 4) ln := Eq.trans (hF.z hv0 (by rw [kv0]; rfl)) hf2
  have z62 : q_is (q_z f50 v0 5) mn := Eq.trans (hF.z hv0 (by rw [kv0]; rfl)) hf3
  have z63 : q_ir (q_r f50 fc 0) v3 := Eq.trans (hF.r hfc (by rw [kfc]; rfl)) hr0
  have z64 : q_ir (q_r f50 v3 0) n3 := Eq.trans (hF.r hv3 (by rw [kv3]; rfl)) hr1
  have z65 : q_ir (q_r f50 v3 1) l3 := Eq.trans (hF.r hv3 (by rw [kv3]; rfl)) hr2
  have z66 : q_ir (q_r f50 v3 2) m3 := Eq.trans (hF.r hv3 (by rw [kv3]; rfl)) hr3
  have z67 : q_ir (q_r f50 v0 0) n0 := Eq.trans (hF.r hv0 (by rw [kv0]; rfl)) hr4
  have z68 : q_ir (q_r f50 v0 1) l0 := Eq.trans (hF.r hv0 (by rw [kv0]; rfl)) hr5
  have z69 : q_ir (q_r f50 v0 2) m0 := Eq.trans (hF.r hv0 (by rw [kv0]; rfl)) hr6
  have g70 : tw_vw K L 10 5 3 4 f50 v0 n0 l0 m0 d0 s0 := tw_vw_tr hw0 (fun a9 h9 k9 c9 => hF.z h9 (by rw [k9]; rfl)) (fun a9 h9 k9 c9 => hF.z h9 (by rw [k9]; rfl)) (fun a9 h9 k9 c9 => hF.z h9 (by rw [k9]; rfl)) (fun a9 h9 k9 c9 => hF.z h9 (by rw [k9]; rfl)) (fun i9 => hF.r hn0 (by rw [kn0]; rfl)) (fun i9 => hF.r hl0 (by rw [kl0]; rfl)) (fun i9 => hF.r hm0 (by rw [km0]; rfl))
  have g71 : tw_nw K L 5 f50 := tw_nw_tr hz0 (fun a9 h9 k9 => hF.j h9 (by rw [k9]; rfl))
  refine q_ald_n cx dX1_sendInThought_8 rfl (lv_at hl 0 rfl) ?_
  refine q_gX1_12 cx hB hfc kfc z63 dX1_sendInThought_9 (fun hb72 kb72 => ?_)
  refine q_ild_n cx dX1_sendInThought_12 rfl (lv_at hl 2 rfl) ?_
  refine q_ild_n cx dX1_sendInThought_13 rfl (lv_at hl 3 rfl) ?_
  refine q_iconst cx dX1_sendInThought_14 ?_
  refine lv_iload cx.1 cx.2.1 dX1_sendInThought_15 (lv_at hl 4 rfl) ?_
  refine q_cVi (As := [.int (q_i p1), .int (q_i p2), .int (q_i 1), .int (q_i p3)]) (rest := []) cx hB (fun _ h => h) hN hv3 kv3 (by decide) rfl (f_addMessage3 l g hN hB.2.1 d3 (tw_cp s3 s0) v3 hv3 kv3 p1 (by omega) (by omega) p2 (by omega) (by omega) 1 (by decide) (by decide) p3 (by omega) (by omega) n3 hn3 kn3 l3 hl3 kl3 m3 hm3 km3 mn (by omega) (by omega) tm (by omega) (by omega) z55 z56 z64 z65 z66 g57) q_cX1_34 q_dX10_addMessage (by decide) rfl rfl hl.1 rfl (Nat.le_of_ble_eq_true rfl) dX1_sendInThought_17 (fun y74 H locs f73 ry74 h75 hF hB => ?_)
  obtain ⟨ly74, uy74, z76, t77, t78, g79⟩ := h75
  have z80 : q_is (q_z f73 v0 11) tm := Eq.trans (hF.z hv0 (by rw [kv0]; rfl)) z59
  have z81 : q_is (q_z f73 v0 3) nn := Eq.trans (hF.z hv0 (by rw [kv0]; rfl)) z60
  have z82 : q_is (q_z f73 v0 4) ln := Eq.trans (hF.z hv0 (by rw [kv0]; rfl)) z61
  have z83 : q_is (q_z f73 v0 5) mn := Eq.trans (hF.z hv0 (by rw [kv0]; rfl)) z62
  have z84 : q_is (q_z f73 v3 3) nn := Eq.trans (hF.z hv3 (by rw [kv3]; rfl)) z53
  have z85 : q_is (q_z f73 v3 4) ln := Eq.trans (hF.z hv3 (by rw [kv3]; rfl)) z54
  have z86 : q_is (q_z f73 v3 11) tm := Eq.trans (hF.z hv3 (by rw [kv3]; rfl)) z56
  have z87 : q_ir (q_r f73 fc 0) v3 := Eq.trans (hF.r hfc (by rw [kfc]; rfl)) z63
  have z88 : q_ir (q_r f73 v3 0) n3 := Eq.trans (hF.r hv3 (by rw [kv3]; rfl)) z64
  have z89 : q_ir (q_r f73 v3 1) l3 := Eq.trans (hF.r hv3 (by rw [kv3]; rfl)) z65
  have z90 : q_ir (q_r f73 v3 2) m3 := Eq.trans (hF.r hv3 (by rw [kv3]; rfl)) z66
  have z91 : q_ir (q_r f73 v0 0) n0 := Eq.trans (hF.r hv0 (by rw [kv0]; rfl)) z67
  have z92 : q_ir (q_r f73 v0 1) l0 := Eq.trans (hF.r hv0 (by rw [kv0]; rfl)) z68
  have z93 : q_ir (q_r f73 v0 2) m0 := Eq.trans (hF.r hv0 (by rw [kv0]; rfl)) z69
  have g94 : tw_vw K L 10 5 3 4 f73 v0 n0 l0 m0 d0 s0 := tw_vw_tr g70 (fun a9 h9 k9 c9 => hF.z h9 (by rw [k9]; rfl)) (fun a9 h9 k9 c9 => hF.z h9 (by rw [k9]; rfl)) (fun a9 h9 k9 c9 => hF.z h9 (by rw [k9]; rfl)) (fun a9 h9 k9 c9 => hF.z h9 (by rw [k9]; rfl)) (fun i9 => hF.r hn0 (by rw [kn0]; rfl)) (fun i9 => hF.r hl0 (by rw [kl0]; rfl)) (fun i9 => hF.r hm0 (by rw [km0]; rfl))
  have g95 : tw_nw K L 5 f73 := tw_nw_tr g71 (fun a9 h9 k9 => hF.j h9 (by rw [k9]; rfl))
  have g96 : tw_nw K L 19 f73 := tw_nw_tr g58 (fun a9 h9 k9 => hF.j h9 (by rw [k9]; rfl))
  refine q_iret cx hr hlk hB dX1_sendInThought_20 ⟨by omega, by omega⟩ ?_
  exact ⟨(by omega), (by omega), z84, z85, z76, z86, (by have t0_ : y74 = (tw_cp s3 s0) 0 5 := t77; (try simp only [t0_]); (repeat' split) <;> first | rfl | (exfalso; omega)), g79, g96⟩
