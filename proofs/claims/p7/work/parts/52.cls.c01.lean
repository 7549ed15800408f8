set_option maxHeartbeats 4000000 in
set_option maxRecDepth 100000 in
theorem g_X5_copyFrom_20 (l : Launch) (g : q_G) {K : Nat → Nat} {L : List Nat} (hN : L.Nodup) {f : Nat → va_E} (hT : q_Ty g K L f) (v : Nat) (hv : v ∈ L) (kv : K v = 18) (p0 : Nat) (hp0 : p0 ∈ L) (kp0 : K p0 = 5) : q_Ct l g K L yX5_copyFrom cX5_copyFrom 2 none 0 0 [.ref v, .ref p0] f [(18, 0, 8)] (q_Pv (fun (f1 : Nat → va_E) => True)) := by
  refine q_ofb (by decide +kernel) hN hT (Nat.le_of_ble_eq_true rfl) ?_
  intro p e s m below meth c ls cx hr hlk hB hl
  have hl : lv_has ls 2 [(0, .ref v), (1, .ref p0)] := hl
  obtain ⟨H, hH⟩ : ∃ H : Heap, H = s.heap := ⟨_, rfl⟩
  obtain ⟨locs, hlocs⟩ : ∃ z : List Loc, z = [] := ⟨_, rfl⟩
  rw [← hH, ← hlocs] at hB
  rw [← hH, ← hlocs]
  refine q_ald_n cx dX5_copyFrom_0 rfl (lv_at hl 0 rfl) ?_
  refine q_ald_n cx dX5_copyFrom_1 rfl (lv_at hl 1 rfl) ?_
  obtain ⟨j84, ej84⟩ : ∃ zz, q_j f p0 0 = zz := ⟨_, rfl⟩
  refine q_gX5_7 cx hB hp0 kp0 ej84 dX5_copyFrom_2 ?_
  refine q_pX5_7_18 cx hB hv kv rfl dX5_copyFrom_5 (fun H locs f85 ef85 z86 hB => ?_)
  refine q_ald_n cx dX5_copyFrom_8 rfl (lv_at hl 0 rfl) ?_
  refine q_ald_n cx dX5_copyFrom_9 rfl (lv_at hl 1 rfl) ?_
  obtain ⟨j87, ej87⟩ : ∃ zz, q_j f85 p0 1 = zz := ⟨_, rfl⟩
  refine q_gX5_13 cx hB hp0 kp0 ej87 dX5_copyFrom_10 ?_
  refine q_pX5_13_18 cx hB hv kv rfl dX5_copyFrom_13 (fun H locs f88 ef88 z89 hB => ?_)
  refine q_ald_n cx dX5_copyFrom_16 rfl (lv_at hl 0 rfl) ?_
  refine q_ald_n cx dX5_copyFrom_17 rfl (lv_at hl 1 rfl) ?_
  obtain ⟨x90, ex90⟩ : ∃ zz, q_is (q_z f88 p0 2) zz := ⟨_, q_isr _⟩
  refine q_gX5_16 cx hB hp0 kp0 ex90 dX5_copyFrom_18 (fun lb91 ub91 => ?_)
  refine q_pX5_16_18 cx hB hv kv ⟨by omega, by omega⟩ (by omega) (by omega) rfl dX5_copyFrom_21 (fun H locs f92 ef92 z93 hB => ?_)
  have z94 : q_is (q_z f92 p0 2) x90 := by rw [ef92, q_setz (Or.inl (fun q => by rw [q, kv] at kp0; exact absurd kp0 (by decide)))]; exact ex90
  refine q_ald_n cx dX5_copyFrom_24 rfl (lv_at hl 0 rfl) ?_
  refine q_ald_n cx dX5_copyFrom_25 rfl (lv_at hl 1 rfl) ?_
  obtain ⟨x95, ex95⟩ : ∃ zz, q_is (q_z f92 p0 3) zz := ⟨_, q_isr _⟩
  refine q_gX5_20 cx hB hp0 kp0 ex95 dX5_copyFrom_26 (fun lb96 ub96 => ?_)
  refine q_pX5_20_18 cx hB hv kv ⟨by omega, by omega⟩ (by omega) (by omega) rfl dX5_copyFrom_29 (fun H locs f97 ef97 z98 hB => ?_)
  have z99 : q_is (q_z f97 p0 2) x90 := by rw [ef97, q_setz (Or.inr (by decide))]; exact z94
  have z100 : q_is (q_z f97 v 2) x90 := by rw [ef97, q_setz (Or.inr (by decide))]; exact z93
  have z101 : q_is (q_z f97 p0 3) x95 := by rw [ef97, q_setz (Or.inl (fun q => by rw [q, kv] at kp0; exact absurd kp0 (by decide)))]; exact ex95
  refine q_ald_n cx dX5_copyFrom_32 rfl (lv_at hl 0 rfl) ?_
  refine q_ald_n cx dX5_copyFrom_33 rfl (lv_at hl 1 rfl) ?_
  obtain ⟨x102, ex102⟩ : ∃ zz, q_is (q_z f97 p0 4) zz := ⟨_, q_isr _⟩
  refine q_gX5_23 cx hB hp0 kp0 ex102 dX5_copyFrom_34 (fun lb103 ub103 => ?_)
  refine q_pX5_23_18 cx hB hv kv ⟨by omega, by omega⟩ (by omega) (by omega) rfl dX5_copyFrom_37 (fun H locs f104 ef104 z105 hB => ?_)
  have z106 : q_is (q_z f104 p0 2) x90 := by rw [ef104, q_setz (Or.inr (by decide))]; exact z99
  have z107 : q_is (q_z f104 v 2) x90 := by rw [ef104, q_setz (Or.inr (by decide))]; exact z100
  have z108 : q_is (q_z f104 p0 3) x95 := by rw [ef104, q_setz (Or.inr (by decide))]; exact z101
  have z109 : q_is (q_z f104 v 3) x95 := by rw [ef104, q_setz (Or.inr (by decide))]; exact z98
  have z110 : q_is (q_z f104 p0 4) x102 := by rw [ef104, q_setz (Or.inl (fun q => by rw [q, kv] at kp0; exact absurd kp0 (by decide)))]; exact ex102
  refine q_ald_n cx dX5_copyFrom_40 rfl (lv_at hl 0 rfl) ?_
  refine q_ald_n cx dX5_copyFrom_41 rfl (lv_at hl 1 rfl) ?_
  obtain ⟨x111, ex111⟩ : ∃ zz, q_is (q_z f104 p0 5) zz := ⟨_, q_isr _⟩
  refine q_gX5_26 cx hB hp0 kp0 ex111 dX5_copyFrom_42 (fun lb112 ub112 => ?_)
  refine q_pX5_26_18 cx hB hv kv ⟨by omega, by omega⟩ (by omega) (by omega) rfl dX5_copyFrom_45 (fun H locs f113 ef113 z114 hB => ?_)
  have z115 : q_is (q_z f113 p0 2) x90 := by rw [ef113, q_setz (Or.inr (by decide))]; exact z106
  have z116 : q_is (q_z f113 v 2) x90 := by rw [ef113, q_setz (Or.inr (by decide))]; exact z107
  have z117 : q_is (q_z f113 p0 3) x95 := by rw [ef113, q_setz (Or.inr (by decide))]; exact z108
  have z118 : q_is (q_z f113 v 3) x95 := by rw [ef113, q_setz (Or.inr (by decide))]; exact z109
  have z119 : q_is (q_z f113 p0 4) x102 := by rw [ef113, q_setz (Or.inr (by decide))]; exact z110
  have z120 : q_is (q_z f113 v 4) x102 := by rw [ef113, q_setz (Or.inr (by decide))]; exact z105
  have z121 : q_is (q_z f113 p0 5) x111 := by rw [ef113, q_setz (Or.inl (fun q => by rw [q, kv] at kp0; exact absurd kp0 (by decide)))]; exact ex111
  refine q_ald_n cx dX5_copyFrom_48 rfl (lv_at hl 0 rfl) ?_
  refine q_ald_n cx dX5_copyFrom_49 rfl (lv_at hl 1 rfl) ?_
  obtain ⟨x122, ex122⟩ : ∃ zz, q_is (q_z f113 p0 6) zz := ⟨_, q_isr _⟩
  refine q_gX5_29 cx hB hp0 kp0 ex122 dX5_copyFrom_50 (fun lb123 ub123 => ?_)
  refine q_pX5_29_18 cx hB hv kv ⟨by omega, by omega⟩ (by omega) (by omega) rfl dX5_copyFrom_53 (fun H locs f124 ef124 z125 hB => ?_)
  have z126 : q_is (q_z f124 p0 2) x90 := by rw [ef124, q_setz (Or.inr (by decide))]; exact z115
  have z127 : q_is (q_z f124 v 2) x90 := by rw [ef124, q_setz (Or.inr (by decide))]; exact z116
  have z128 : q_is (q_z f124 p0 3) x95 := by rw [ef124, q_setz (Or.inr (by decide))]; exact z117
  have z129 : q_is (q_z f124 v 3) x95 := by rw [ef124, q_setz (Or.inr (by decide))]; exact z118
  have z130 : q_is (q_z f124 p0 4) x102 := by rw [ef124, q_setz (Or.inr (by decide))]; exact z119
  have z131 : q_is (q_z f124 v 4) x102 := by rw [ef124, q_setz (Or.inr (by decide))]; exact z120
  have z132 : q_is (q_z f124 p0 5) x111 := by rw [ef124, q_setz (Or.inr (by decide))]; exact z121
  have z133 : q_is (q_z f124 v 5) x111 := by rw [ef124, q_setz (Or.inr (by decide))]; exact z114
  have z134 : q_is (q_z f124 p0 6) x122 := by rw [ef124, q_setz (Or.inl (fun q => by rw [q, kv] at kp0; exact absurd kp0 (by decide)))]; exact ex122
  refine q_ald_n cx dX5_copyFrom_56 rfl (lv_at hl 0 rfl) ?_
  refine q_ald_n cx dX5_copyFrom_57 rfl (lv_at hl 1 rfl) ?_
  obtain ⟨x135, ex135⟩ : ∃ zz, q_is (q_z f124 p0 7) zz := ⟨_, q_isr _⟩
  refine q_gX5_32 cx hB hp0 kp0 ex135 dX5_copyFrom_58 (fun lb136 ub136 => ?_)
  refine q_pX5_32_18 cx hB hv kv ⟨by omega, by omega⟩ (by omega) (by omega) rfl dX5_copyFrom_61 (fun H locs f137 ef137 z138 hB => ?_)
  have z139 : q_is (q_z f137 p0 2) x90 := by rw [ef137, q_setz (Or.inr (by decide))]; exact z126
  have z140 : q_is (q_z f137 v 2) x90 := by rw [ef137, q_setz (Or.inr (by decide))]; exact z127
  have z141 : q_is (q_z f137 p0 3) x95 := by rw [ef137, q_setz (Or.inr (by decide))]; exact z128
  have z142 : q_is (q_z f137 v 3) x95 := by rw [ef137, q_setz (Or.inr (by decide))]; exact z129
  have z143 : q_is (q_z f137 p0 4) x102 := by rw [ef137, q_setz (Or.inr (by decide))]; exact z130
  have z144 : q_is (q_z f137 v 4) x102 := by rw [ef137, q_setz (Or.inr (by decide))]; exact z131
  have z145 : q_is (q_z f137 p0 5) x111 := by rw [ef137, q_setz (Or.inr (by decide))]; exact z132
  have z146 : q_is (q_z f137 v 5) x111 := by rw [ef137, q_setz (Or.inr (by decide))]; exact z133
  have z147 : q_is (q_z f137 p0 6) x122 := by rw [ef137, q_setz (Or.inr (by decide))]; exact z134
  have z148 : q_is (q_z f137 v 6) x122 := by rw [ef137, q_setz (Or.inr (by decide))]; exact z125
  have z149 : q_is (q_z f137 p0 7) x135 := by rw [ef137, q_setz (Or.inl (fun q => by rw [q, kv] at kp0; exact absurd kp0 (by decide)))]; exact ex135
  refine q_ald_n cx dX5_copyFrom_64 rfl (lv_at hl 0 rfl) ?_
  refine q_ald_n cx dX5_copyFrom_65 rfl (lv_at hl 1 rfl) ?_
  obtain ⟨x150, ex150⟩ : ∃ zz, q_is (q_z f137 p0 8) zz := ⟨_, q_isr _⟩
  refine q_gX5_35 cx hB hp0 kp0 ex150 dX5_copyFrom_66 (fun lb151 ub151 => ?_)
  refine q_pX5_35_18 cx hB hv kv ⟨by omega, by omega⟩ (by omega) (by omega) rfl dX5_copyFrom_69 (fun H locs f152 ef152 z153 hB => ?_)
  have z154 : q_is (q_z f152 p0 2) x90 := by rw [ef152, q_setz (Or.inr (by decide))]; exact z139
  have z155 : q_is (q_z f152 v 2) x90 := by rw [ef152, q_setz (Or.inr (by decide))]; exact z140
  have z156 : q_is (q_z f152 p0 3) x95 := by rw [ef152, q_setz (Or.inr (by decide))]; exact z141
  have z157 : q_is (q_z f152 v 3) x95 := by rw [ef152, q_setz (Or.inr (by decide))]; exact z142
  have z158 : q_is (q_z f152 p0 4) x102 := by rw [ef152, q_setz (Or.inr (by decide))]; exact z143
  have z159 : q_is (q_z f152 v 4) x102 := by rw [ef152, q_setz (Or.inr (by decide))]; exact z144
  have z160 : q_is (q_z f152 p0 5) x111 := by rw [ef152, q_setz (Or.inr (by decide))]; exact z145
  have z161 : q_is (q_z f152 v 5) x111 := by rw [ef152, q_setz (Or.inr (by decide))]; exact z146
  have z162 : q_is (q_z f152 p0 6) x122 := by rw [ef152, q_setz (Or.inr (by decide))]; exact z147
  have z163 : q_is (q_z f152 v 6) x122 := by rw [ef152, q_setz (Or.inr (by decide))]; exact z148
  have z164 : q_is (q_z f152 p0 7) x135 := by rw [ef152, q_setz (Or.inr (by decide))]; exact z149
  have z165 : q_is (q_z f152 v 7) x135 := by rw [ef152, q_setz (Or.inr (by decide))]; exact z138
  have z166 : q_is (q_z f152 p0 8) x150 := by rw [ef152, q_setz (Or.inl (fun q => by rw [q, kv] at kp0; exact absurd kp0 (by decide)))]; exact ex150
  refine q_vret cx hr hlk hB dX5_copyFrom_72 ?_
  trivial
set_option maxHeartbeats 4000000 in
set_option maxRecDepth 100000 in
theorem g_X5_copyFrom_30 (l : Launch) (g : q_G) {K : Nat → Nat} {L : List Nat} (hN : L.Nodup) {f : Nat → va_E} (hT : q_Ty g K L f) (v : Nat) (hv : v ∈ L) (kv : K v = 19) (p0 : Nat) (hp0 : p0 ∈ L) (kp0 : K p0 = 5) : q_Ct l g K L yX5_copyFrom cX5_copyFrom 2 none 0 0 [.ref v, .ref p0] f [(19, 0, 8)] (q_Pv (fun (f1 : Nat → va_E) => True)) := by
  refine q_ofb (by decide +kernel) hN hT (Nat.le_of_ble_eq_true rfl) ?_
  intro p e s m below meth c ls cx hr hlk hB hl
  have hl : lv_has ls 2 [(0, .ref v), (1, .ref p0)] := hl
  obtain ⟨H, hH⟩ : ∃ H : Heap, H = s.heap := ⟨_, rfl⟩
  obtain ⟨locs, hlocs⟩ : ∃ z : List Loc, z = [] := ⟨_, rfl⟩
  rw [← hH, ← hlocs] at hB
  rw [← hH, ← hlocs]
  refine q_ald_n cx dX5_copyFrom_0 rfl (lv_at hl 0 rfl) ?_
  refine q_ald_n cx dX5_copyFrom_1 rfl (lv_at hl 1 rfl) ?_
  obtain ⟨j84, ej84⟩ : ∃ zz, q_j f p0 0 = zz := ⟨_, rfl⟩
  refine q_gX5_7 cx hB hp0 kp0 ej84 dX5_copyFrom_2 ?_
  refine q_pX5_7_19 cx hB hv kv rfl dX5_copyFrom_5 (fun H locs f85 ef85 z86 hB => ?_)
  refine q_ald_n cx dX5_copyFrom_8 rfl (lv_at hl 0 rfl) ?_
  refine q_ald_n cx dX5_copyFrom_9 rfl (lv_at hl 1 rfl) ?_
  obtain ⟨j87, ej87⟩ : ∃ zz, q_j f85 p0 1 = zz := ⟨_, rfl⟩
  refine q_gX5_13 cx hB hp0 kp0 ej87 dX5_copyFrom_10 ?_
  refine q_pX5_13_19 cx hB hv kv rfl dX5_copyFrom_13 (fun H locs f88 ef88 z89 hB => ?_)
  refine q_ald_n cx dX5_copyFrom_16 rfl (lv_at hl 0 rfl) ?_
  refine q_ald_n cx dX5_copyFrom_17 rfl (lv_at hl 1 rfl) ?_
  obtain ⟨x90, ex90⟩ : ∃ zz, q_is (q_z f88 p0 2) zz := ⟨_, q_isr _⟩
  refine q_gX5_16 cx hB hp0 kp0 ex90 dX5_copyFrom_18 (fun lb91 ub91 => ?_)
  refine q_pX5_16_19 cx hB hv kv ⟨by omega, by omega⟩ (by omega) (by omega) rfl dX5_copyFrom_21 (fun H locs f92 ef92 z93 hB => ?_)
  have z94 : q_is (q_z f92 p0 2) x90 := by rw [ef92, q_setz (Or.inl (fun q => by rw [q, kv] at kp0; exact absurd kp0 (by decide)))]; exact ex90
  refine q_ald_n cx dX5_copyFrom_24 rfl (lv_at hl 0 rfl) ?_
  refine q_ald_n cx dX5_copyFrom_25 rfl (lv_at hl 1 rfl) ?_
  obtain ⟨x95, ex95⟩ : ∃ zz, q_is (q_z f92 p0 3) zz := ⟨_, q_isr _⟩
  refine q_gX5_20 cx hB hp0 kp0 ex95 dX5_copyFrom_26 (fun lb96 ub96 => ?_)
  refine q_pX5_20_19 cx hB hv kv ⟨by omega, by omega⟩ (by omega) (by omega) rfl dX5_copyFrom_29 (fun H locs f97 ef97 z98 hB => ?_)
  have z99 : q_is (q_z f97 p0 2) x90 := by rw [ef97, q_setz (Or.inr (by decide))]; exact z94
  have z100 : q_is (q_z f97 v 2) x90 := by rw [ef97, q_setz (Or.inr (by decide))]; exact z93
  have z101 : q_is (q_z f97 p0 3) x95 := by rw [ef97, q_setz (Or.inl (fun q => by rw [q, kv] at kp0; exact absurd kp0 (by decide)))]; exact ex95
  refine q_ald_n cx dX5_copyFrom_32 rfl (lv_at hl 0 rfl) ?_
  refine q_ald_n cx dX5_copyFrom_33 rfl (lv_at hl 1 rfl) ?_
  obtain ⟨x102, ex102⟩ : ∃ zz, q_is (q_z f97 p0 4) zz := ⟨_, q_isr _⟩
  refine q_gX5_23 cx hB hp0 kp0 ex102 dX5_copyFrom_34 (fun lb103 ub103 => ?_)
  refine q_pX5_23_19 cx hB hv kv ⟨by omega, by omega⟩ (by omega) (by omega) rfl dX5_copyFrom_37 (fun H locs f104 ef104 z105 hB => ?_)
  have z106 : q_is (q_z f104 p0 2) x90 := by rw [ef104, q_setz (Or.inr (by decide))]; exact z99
  have z107 : q_is (q_z f104 v 2) x90 := by rw [ef104, q_setz (Or.inr (by decide))]; exact z100
  have z108 : q_is (q_z f104 p0 3) x95 := by rw [ef104, q_setz (Or.inr (by decide))]; exact z101
  have z109 : q_is (q_z f104 v 3) x95 := by rw [ef104, q_setz (Or.inr (by decide))]; exact z98
  have z110 : q_is (q_z f104 p0 4) x102 := by rw [ef104, q_setz (Or.inl (fun q => by rw [q, kv] at kp0; exact absurd kp0 (by decide)))]; exact ex102
  refine q_ald_n cx dX5_copyFrom_40 rfl (lv_at hl 0 rfl) ?_
  refine q_ald_n cx dX5_copyFrom_41 rfl (lv_at hl 1 rfl) ?_
  obtain ⟨x111, ex111⟩ : ∃ zz, q_is (q_z f104 p0 5) zz := ⟨_, q_isr _⟩
  refine q_gX5_26 cx hB hp0 kp0 ex111 dX5_copyFrom_42 (fun lb112 ub112 => ?_)
  refine q_pX5_26_19 cx hB hv kv ⟨by omega, by omega⟩ (by omega) (by omega) rfl dX5_copyFrom_45 (fun H locs f113 ef113 z114 hB => ?_)
  have z115 : q_is (q_z f113 p0 2) x90 := by rw [ef113, q_setz (Or.inr (by decide))]; exact z106
  have z116 : q_is (q_z f113 v 2) x90 := by rw [ef113, q_setz (Or.inr (by decide))]; exact z107
  have z117 : q_is (q_z f113 p0 3) x95 := by rw [ef113, q_setz (Or.inr (by decide))]; exact z108
  have z118 : q_is (q_z f113 v 3) x95 := by rw [ef113, q_setz (Or.inr (by decide))]; exact z109
  have z119 : q_is (q_z f113 p0 4) x102 := by rw [ef113, q_setz (Or.inr (by decide))]; exact z110
  have z120 : q_is (q_z f113 v 4) x102 := by rw [ef113, q_setz (Or.inr (by decide))]; exact z105
  have z121 : q_is (q_z f113 p0 5) x111 := by rw [ef113, q_setz (Or.inl (fun q => by rw [q, kv] at kp0; exact absurd kp0 (by decide)))]; exact ex111
  refine q_ald_n cx dX5_copyFrom_48 rfl (lv_at hl 0 rfl) ?_
  refine q_ald_n cx dX5_copyFrom_49 rfl (lv_at hl 1 rfl) ?_
  obtain ⟨x122, ex122⟩ : ∃ zz, q_is (q_z f113 p0 6) zz := ⟨_, q_isr _⟩
  refine q_gX5_29 cx hB hp0 kp0 ex122 dX5_copyFrom_50 (fun lb123 ub123 => ?_)
  refine q_pX5_29_19 cx hB hv kv ⟨by omega, by omega⟩ (by omega) (by omega) rfl dX5_copyFrom_53 (fun H locs f124 ef124 z125 hB => ?_)
  have z126 : q_is (q_z f124 p0 2) x90 := by rw [ef124, q_setz (Or.inr (by decide))]; exact z115
  have z127 : q_is (q_z f124 v 2) x90 := by rw [ef124, q_setz (Or.inr (by decide))]; exact z116
  have z128 : q_is (q_z f124 p0 3) x95 := by rw [ef124, q_setz (Or.inr (by decide))]; exact z117
  have z129 : q_is (q_z f124 v 3) x95 := by rw [ef124, q_setz (Or.inr (by decide))]; exact z118
  have z130 : q_is (q_z f124 p0 4) x102 := by rw [ef124, q_setz (Or.inr (by decide))]; exact z119
  have z131 : q_is (q_z f124 v 4) x102 := by rw [ef124, q_setz (Or.inr (by decide))]; exact z120
  have z132 : q_is (q_z f124 p0 5) x111 := by rw [ef124, q_setz (Or.inr (by decide))]; exact z121
  have z133 : q_is (q_z f124 v 5) x111 := by rw [ef124, q_setz (Or.inr (by decide))]; exact z114
  have z134 : q_is (q_z f124 p0 6) x122 := by rw [ef124, q_setz (Or.inl (fun q => by rw [q, kv] at kp0; exact absurd kp0 (by decide)))]; exact ex122
  refine q_ald_n cx dX5_copyFrom_56 rfl (lv_at hl 0 rfl) ?_
  refine q_ald_n cx dX5_copyFrom_57 rfl (lv_at hl 1 rfl) ?_
  obtain ⟨x135, ex135⟩ : ∃ zz, q_is (q_z f124 p0 7) zz := ⟨_, q_isr _⟩
  refine q_gX5_32 cx hB hp0 kp0 ex135 dX5_copyFrom_58 (fun lb136 ub136 => ?_)
  refine q_pX5_32_19 cx hB hv kv ⟨by omega, by omega⟩ (by omega) (by omega) rfl dX5_copyFrom_61 (fun H locs f137 ef137 z138 hB => ?_)
  have z139 : q_is (q_z f137 p0 2) x90 := by rw [ef137, q_setz (Or.inr (by decide))]; exact z126
  have z140 : q_is (q_z f137 v 2) x90 := by rw [ef137, q_setz (Or.inr (by decide))]; exact z127
  have z141 : q_is (q_z f137 p0 3) x95 := by rw [ef137, q_setz (Or.inr (by decide))]; exact z128
  have z142 : q_is (q_z f137 v 3) x95 := by rw [ef137, q_setz (Or.inr (by decide))]; exact z129
  have z143 : q_is (q_z f137 p0 4) x102 := by rw [ef137, q_setz (Or.inr (by decide))]; exact z130
  have z144 : q_is (q_z f137 v 4) x102 := by rw [ef137, q_setz (Or.inr (by decide))]; exact z131
  have z145 : q_is (q_z f137 p0 5) x111 := by rw [ef137, q_setz (Or.inr (by decide))]; exact z132
  have z146 : q_is (q_z f137 v 5) x111 := by rw [ef137, q_setz (Or.inr (by decide))]; exact z133
  have z147 : q_is (q_z f137 p0 6) x122 := by rw [ef137, q_setz (Or.inr (by decide))]; exact z134
  have z148 : q_is (q_z f137 v 6) x122 := by rw [ef137, q_setz (Or.inr (by decide))]; exact z125
  have z149 : q_is (q_z f137 p0 7) x135 := by rw [ef137, q_setz (Or.inl (fun q => by rw [q, kv] at kp0; exact absurd kp0 (by decide)))]; exact ex135
  refine q_ald_n cx dX5_copyFrom_64 rfl (lv_at hl 0 rfl) ?_
  refine q_ald_n cx dX5_copyFrom_65 rfl (lv_at hl 1 rfl) ?_
  obtain ⟨x150, ex150⟩ : ∃ zz, q_is (q_z f137 p0 8) zz := ⟨_, q_isr _⟩
  refine q_gX5_35 cx hB hp0 kp0 ex150 dX5_copyFrom_66 (fun lb151 ub151 => ?_)
  refine q_pX5_35_19 cx hB hv kv ⟨by omega, by omega⟩ (by omega) (by omega) rfl dX5_copyFrom_69 (fun H locs f152 ef152 z153 hB => ?_)
  have z154 : q_is (q_z f152 p0 2) x90 := by rw [ef152, q_setz (Or.inr (by decide))]; exact z139
  have z155 : q_is (q_z f152 v 2) x90 := by rw [ef152, q_setz (Or.inr (by decide))]; exact z140
  have z156 : q_is (q_z f152 p0 3) x95 := by rw [ef152, q_setz (Or.inr (by decide))]; exact z141
  have z157 : q_is (q_z f152 v 3) x95 := by rw [ef152, q_setz (Or.inr (by decide))]; exact z142
  have z158 : q_is (q_z f152 p0 4) x102 := by rw [ef152, q_setz (Or.inr (by decide))]; exact z143
  have z159 : q_is (q_z f152 v 4) x102 := by rw [ef152, q_setz (Or.inr (by decide))]; exact z144
  have z160 : q_is (q_z f152 p0 5) x111 := by rw [ef152, q_setz (Or.inr (by decide))]; exact z145
  have z161 : q_is (q_z f152 v 5) x111 := by rw [ef152, q_setz (Or.inr (by decide))]; exact z146
  have z162 : q_is (q_z f152 p0 6) x122 := by rw [ef152, q_setz (Or.inr (by decide))]; exact z147
  have z163 : q_is (q_z f152 v 6) x122 := by rw [ef152, q_setz (Or.inr (by decide))]; exact z148
  have z164 : q_is (q_z f152 p0 7) x135 := by rw [ef152, q_setz (Or.inr (by decide))]; exact z149
  have z165 : q_is (q_z f152 v 7) x135 := by rw [ef152, q_setz (Or.inr (by decide))]; exact z138
  have z166 : q_is (q_z f152 p0 8) x150 := by rw [ef152, q_setz (Or.inl (fun q => by rw [q, kv] at kp0; exact absurd kp0 (by decide)))]; exact ex150
  refine q_vret cx hr hlk hB dX5_copyFrom_72 ?_
  trivial
set_option maxHeartbeats 4000000 in
set_option maxRecDepth 100000 in
theorem g_X5_copyFrom_40 (l : Launch) (g : q_G) {K : Nat → Nat} {L : List Nat} (hN : L.Nodup) {f : Nat → va_E} (hT : q_Ty g K L f) (v : Nat) (hv : v ∈ L) (kv : K v = 20) (p0 : Nat) (hp0 : p0 ∈ L) (kp0 : K p0 = 5) : q_Ct l g K L yX5_copyFrom cX5_copyFrom 2 none 0 0 [.ref v, .ref p0] f [(20, 0, 8)] (q_Pv (fun (f1 : Nat → va_E) => True)) := by
  refine q_ofb (by decide +kernel) hN hT (Nat.le_of_ble_eq_true rfl) ?_
  intro p e s m below meth c ls cx hr hlk hB hl
  have hl : lv_has ls 2 [(0, .ref v), (1, .ref p0)] := hl
  obtain ⟨H, hH⟩ : ∃ H : Heap, H = s.heap := ⟨_, rfl⟩
  obtain ⟨locs, hlocs⟩ : ∃ z : List Loc, z = [] := ⟨_, rfl⟩
  rw [← hH, ← hlocs] at hB
  rw [← hH, ← hlocs]
  refine q_ald_n cx dX5_copyFrom_0 rfl (lv_at hl 0 rfl) ?_
  refine q_ald_n cx dX5_copyFrom_1 rfl (lv_at hl 1 rfl) ?_
  obtain ⟨j84, ej84⟩ : ∃ zz, q_j f p0 0 = zz := ⟨_, rfl⟩
  refine q_gX5_7 cx hB hp0 kp0 ej84 dX5_copyFrom_2 ?_
  refine q_pX5_7_20 cx hB hv kv rfl dX5_copyFrom_5 (fun H locs f85 ef85 z86 hB => ?_)
  refine q_ald_n cx dX5_copyFrom_8 rfl (lv_at hl 0 rfl) ?_
  refine q_ald_n cx dX5_copyFrom_9 rfl (lv_at hl 1 rfl) ?_
  obtain ⟨j87, ej87⟩ : ∃ zz, q_j f85 p0 1 = zz := ⟨_, rfl⟩
  refine q_gX5_13 cx hB hp0 kp0 ej87 dX5_copyFrom_10 ?_
  refine q_pX5_13_20 cx hB hv kv rfl dX5_copyFrom_13 (fun H locs f88 ef88 z89 hB => ?_)
  refine q_ald_n cx dX5_copyFrom_16 rfl (lv_at hl 0 rfl) ?_
  refine q_ald_n cx dX5_copyFrom_17 rfl (lv_at hl 1 rfl) ?_
  obtain ⟨x90, ex90⟩ : ∃ zz, q_is (q_z f88 p0 2) zz := ⟨_, q_isr _⟩
  refine q_gX5_16 cx hB hp0 kp0 ex90 dX5_copyFrom_18 (fun lb91 ub91 => ?_)
  refine q_pX5_16_20 cx hB hv kv ⟨by omega, by omega⟩ (by omega) (by omega) rfl dX5_copyFrom_21 (fun H locs f92 ef92 z93 hB => ?_)
  have z94 : q_is (q_z f92 p0 2) x90 := by rw [ef92, q_setz (Or.inl (fun q => by rw [q, kv] at kp0; exact absurd kp0 (by decide)))]; exact ex90
  refine q_ald_n cx dX5_copyFrom_24 rfl (lv_at hl 0 rfl) ?_
  refine q_ald_n cx dX5_copyFrom_25 rfl (lv_at hl 1 rfl) ?_
  obtain ⟨x95, ex95⟩ : ∃ zz, q_is (q_z f92 p0 3) zz := ⟨_, q_isr _⟩
  refine q_gX5_20 cx hB hp0 kp0 ex95 dX5_copyFrom_26 (fun lb96 ub96 => ?_)
  refine q_pX5_20_20 cx hB hv kv ⟨by omega, by omega⟩ (by omega) (by omega) rfl dX5_copyFrom_29 (fun H locs f97 ef97 z98 hB => ?_)
  have z99 : q_is (q_z f97 p0 2) x90 := by rw [ef97, q_setz (Or.inr (by decide))]; exact z94
  have z100 : q_is (q_z f97 v 2) x90 := by rw [ef97, q_setz (Or.inr (by decide))]; exact z93
  have z101 : q_is (q_z f97 p0 3) x95 := by rw [ef97, q_setz (Or.inl (fun q => by rw [q, kv] at kp0; exact absurd kp0 (by decide)))]; exact ex95
  refine q_ald_n cx dX5_copyFrom_32 rfl (lv_at hl 0 rfl) ?_
  refine q_ald_n cx dX5_copyFrom_33 rfl (lv_at hl 1 rfl) ?_
  obtain ⟨x102, ex102⟩ : ∃ zz, q_is (q_z f97 p0 4) zz := ⟨_, q_isr _⟩
  refine q_gX5_23 cx hB hp0 kp0 ex102 dX5_copyFrom_34 (fun lb103 ub103 => ?_)
  refine q_pX5_23_20 cx hB hv kv ⟨by omega, by omega⟩ (by omega) (by omega) rfl dX5_copyFrom_37 (fun H locs f104 ef104 z105 hB => ?_)
  have z106 : q_is (q_z f104 p0 2) x90 := by rw [ef104, q_setz (Or.inr (by decide))]; exact z99
  have z107 : q_is (q_z f104 v 2) x90 := by rw [ef104, q_setz (Or.inr (by decide))]; exact z100
  have z108 : q_is (q_z f104 p0 3) x95 := by rw [ef104, q_setz (Or.inr (by decide))]; exact z101
  have z109 : q_is (q_z f104 v 3) x95 := by rw [ef104, q_setz (Or.inr (by decide))]; exact z98
  have z110 : q_is (q_z f104 p0 4) x102 := by rw [ef104, q_setz (Or.inl (fun q => by rw [q, kv] at kp0; exact absurd kp0 (by decide)))]; exact ex102
  refine q_ald_n cx dX5_copyFrom_40 rfl (lv_at hl 0 rfl) ?_
  refine q_ald_n cx dX5_copyFrom_41 rfl (lv_at hl 1 rfl) ?_
  obtain ⟨x111, ex111⟩ : ∃ zz, q_is (q_z f104 p0 5) zz := ⟨_, q_isr _⟩
  refine q_gX5_26 cx hB hp0 kp0 ex111 dX5_copyFrom_42 (fun lb112 ub112 => ?_)
  refine q_pX5_26_20 cx hB hv kv ⟨by omega, by omega⟩ (by omega) (by omega) rfl dX5_copyFrom_45 (fun H locs f113 ef113 z114 hB => ?_)
  have z115 : q_is (q_z f113 p0 2) x90 := by rw [ef113, q_setz (Or.inr (by decide))]; exact z106
  have z116 : q_is (q_z f113 v 2) x90 := by rw [ef113, q_setz (Or.inr (by decide))]; exact z107
  have z117 : q_is (q_z f113 p0 3) x95 := by rw [ef113, q_setz (Or.inr (by decide))]; exact z108
  have z118 : q_is (q_z f113 v 3) x95 := by rw [ef113, q_setz (Or.inr (by decide))]; exact z109
  have z119 : q_is (q_z f113 p0 4) x102 := by rw [ef113, q_setz (Or.inr (by decide))]; exact z110
  have z120 : q_is (q_z f113 v 4) x102 := by rw [ef113, q_setz (Or.inr (by decide))]; exact z105
  have z121 : q_is (q_z f113 p0 5) x111 := by rw [ef113, q_setz (Or.inl (fun q => by rw [q, kv] at kp0; exact absurd kp0 (by decide)))]; exact ex111
  refine q_ald_n cx dX5_copyFrom_48 rfl (lv_at hl 0 rfl) ?_
  refine q_ald_n cx dX5_copyFrom_49 rfl (lv_at hl 1 rfl) ?_
  obtain ⟨x122, ex122⟩ : ∃ zz, q_is (q_z f113 p0 6) zz := ⟨_, q_isr _⟩
  refine q_gX5_29 cx hB hp0 kp0 ex122 dX5_copyFrom_50 (fun lb123 ub123 => ?_)
  refine q_pX5_29_20 cx hB hv kv ⟨by omega, by omega⟩ (by omega) (by omega) rfl dX5_copyFrom_53 (fun H locs f124 ef124 z125 hB => ?_)
  have z126 : q_is (q_z f124 p0 2) x90 := by rw [ef124, q_setz (Or.inr (by decide))]; exact z115
  have z127 : q_is (q_z f124 v 2) x90 := by rw [ef124, q_setz (Or.inr (by decide))]; exact z116
  have z128 : q_is (q_z f124 p0 3) x95 := by rw [ef124, q_setz (Or.inr (by decide))]; exact z117
  have z129 : q_is (q_z f124 v 3) x95 := by rw [ef124, q_setz (Or.inr (by decide))]; exact z118
  have z130 : q_is (q_z f124 p0 4) x102 := by rw [ef124, q_setz (Or.inr (by decide))]; exact z119
  have z131 : q_is (q_z f124 v 4) x102 := by rw [ef124, q_setz (Or.inr (by decide))]; exact z120
  have z132 : q_is (q_z f124 p0 5) x111 := by rw [ef124, q_setz (Or.inr (by decide))]; exact z121
  have z133 : q_is (q_z f124 v 5) x111 := by rw [ef124, q_setz (Or.inr (by decide))]; exact z114
  have z134 : q_is (q_z f124 p0 6) x122 := by rw [ef124, q_setz (Or.inl (fun q => by rw [q, kv] at kp0; exact absurd kp0 (by decide)))]; exact ex122
  refine q_ald_n cx dX5_copyFrom_56 rfl (lv_at hl 0 rfl) ?_
  refine q_ald_n cx dX5_copyFrom_57 rfl (lv_at hl 1 rfl) ?_
  obtain ⟨x135, ex135⟩ : ∃ zz, q_is (q_z f124 p0 7) zz := ⟨_, q_isr _⟩
  refine q_gX5_32 cx hB hp0 kp0 ex135 dX5_copyFrom_58 (fun lb136 ub136 => ?_)
  refine q_pX5_32_20 cx hB hv kv ⟨by omega, by omega⟩ (by omega) (by omega) rfl dX5_copyFrom_61 (fun H locs f137 ef137 z138 hB => ?_)
  have z139 : q_is (q_z f137 p0 2) x90 := by rw [ef137, q_setz (Or.inr (by decide))]; exact z126
  have z140 : q_is (q_z f137 v 2) x90 := by rw [ef137, q_setz (Or.inr (by decide))]; exact z127
  have z141 : q_is (q_z f137 p0 3) x95 := by rw [ef137, q_setz (Or.inr (by decide))]; exact z128
  have z142 : q_is (q_z f137 v 3) x95 := by rw [ef137, q_setz (Or.inr (by decide))]; exact z129
  have z143 : q_is (q_z f137 p0 4) x102 := by rw [ef137, q_setz (Or.inr (by decide))]; exact z130
  have z144 : q_is (q_z f137 v 4) x102 := by rw [ef137, q_setz (Or.inr (by decide))]; exact z131
  have z145 : q_is (q_z f137 p0 5) x111 := by rw [ef137, q_setz (Or.inr (by decide))]; exact z132
  have z146 : q_is (q_z f137 v 5) x111 := by rw [ef137, q_setz (Or.inr (by decide))]; exact z133
  have z147 : q_is (q_z f137 p0 6) x122 := by rw [ef137, q_setz (Or.inr (by decide))]; exact z134
  have z148 : q_is (q_z f137 v 6) x122 := by rw [ef137, q_setz (Or.inr (by decide))]; exact z125
  have z149 : q_is (q_z f137 p0 7) x135 := by rw [ef137, q_setz (Or.inl (fun q => by rw [q, kv] at kp0; exact absurd kp0 (by decide)))]; exact ex135
  refine q_ald_n cx dX5_copyFrom_64 rfl (lv_at hl 0 rfl) ?_
  refine q_ald_n cx dX5_copyFrom_65 rfl (lv_at hl 1 rfl) ?_
  obtain ⟨x150, ex150⟩ : ∃ zz, q_is (q_z f137 p0 8) zz := ⟨_, q_isr _⟩
  refine q_gX5_35 cx hB hp0 kp0 ex150 dX5_copyFrom_66 (fun lb151 ub151 => ?_)
  refine q_pX5_35_20 cx hB hv kv ⟨by omega, by omega⟩ (by omega) (by omega) rfl dX5_copyFrom_69 (fun H locs f152 ef152 z153 hB => ?_)
  have z154 : q_is (q_z f152 p0 2) x90 := by rw [ef152, q_setz (Or.inr (by decide))]; exact z139
  have z155 : q_is (q_z f152 v 2) x90 := by rw [ef152, q_setz (Or.inr (by decide))]; exact z140
  have z156 : q_is (q_z f152 p0 3) x95 := by rw [ef152, q_setz (Or.inr (by decide))]; exact z141
  have z157 : q_is (q_z f152 v 3) x95 := by rw [ef152, q_setz (Or.inr (by decide))]; exact z142
  have z158 : q_is (q_z f152 p0 4) x102 := by rw [ef152, q_setz (Or.inr (by decide))]; exact z143
  have z159 : q_is (q_z f152 v 4) x102 := by rw [ef152, q_setz (Or.inr (by decide))]; exact z144
  have z160 : q_is (q_z f152 p0 5) x111 := by rw [ef152, q_setz (Or.inr (by decide))]; exact z145
  have z161 : q_is (q_z f152 v 5) x111 := by rw [ef152, q_setz (Or.inr (by decide))]; exact z146
  have z162 : q_is (q_z f152 p0 6) x122 := by rw [ef152, q_setz (Or.inr (by decide))]; exact z147
  have z163 : q_is (q_z f152 v 6) x122 := by rw [ef152, q_setz (Or.inr (by decide))]; exact z148
  have z164 : q_is (q_z f152 p0 7) x135 := by rw [ef152, q_setz (Or.inr (by decide))]; exact z149
  have z165 : q_is (q_z f152 v 7) x135 := by rw [ef152, q_setz (Or.inr (by decide))]; exact z138
  have z166 : q_is (q_z f152 p0 8) x150 := by rw [ef152, q_setz (Or.inl (fun q => by rw [q, kv] at kp0; exact absurd kp0 (by decide)))]; exact ex150
  refine q_vret cx hr hlk hB dX5_copyFrom_72 ?_
  trivial
set_option maxHeartbeats 4000000 in
set_option maxRecDepth 100000 in
theorem g_X10_linkAt (l : Launch) (g : q_G) {K : Nat → Nat} {L : List Nat} (hN : L.Nodup) {f : Nat → va_E} (hT : q_Ty g K L f) (v : Nat) (hv : v ∈ L) (kv : K v = 10) (p0 : Int) (lp0 : (-2147483648) ≤ p0) (up0 : p0 ≤ 2147483647) : q_Ct l g K L yX10_linkAt cX10_linkAt 2 (some (.object "WakeVillage$Link")) 0 0 [.ref v, .int (q_i p0)] f [] (q_Pr (fun (z : Nat) (f1 : Nat → va_E) => f = f1 ∧ z ∈ L ∧ K z = 3)) := by
  refine q_ofb (by decide +kernel) hN hT (Nat.le_of_ble_eq_true rfl) ?_
  intro p e s m below meth c ls cx hr hlk hB hl
  have hl : lv_has ls 2 [(0, .ref v), (1, .int (q_i p0))] := hl
  have J22 : ∀ (t22_0 : Int) (lt22_0 : 0 ≤ t22_0) (ut22_0 : t22_0 ≤ 15) (t22_1 : Nat) (ht22_1 : t22_1 ∈ L) (kt22_1 : K t22_1 = 120) (H : Heap) (locs : List Loc) (hB : q_B g K L (fun q => q ∈ L) [] f f s H locs) (ls : Array Slot) (hl : lv_has ls 2 []), W p l e { frames := 0, cells := 0, slots := 0, locals := 0 } s m ([.ref v, .int (q_i p0)] : List Value).toArray below meth c H locs 0 0 (MQ below (q_Q g K L [] f (q_Pr (fun (z : Nat) (f1 : Nat → va_E) => f = f1 ∧ z ∈ L ∧ K z = 3))) ([.ref v, .int (q_i p0)] : List Value).toArray s 0 0 (fun q => q ∈ L)) (F0 m 22 ls [.int (q_i t22_0), .ref t22_1]) := by
    intro t22_0 lt22_0 ut22_0 t22_1 ht22_1 kt22_1 H locs hB ls hl
    obtain ⟨p8, ep8⟩ : ∃ zz, q_ir (q_r f t22_1 (Int.toNat t22_0)) zz := ⟨_, q_irr _⟩
    refine q_aald (k2 := 3) (n := 16) cx hB ht22_1 kt22_1 (by decide) rfl 5 rfl (by decide) rfl (by omega) (by omega) (by decide) rfl ep8 dX10_linkAt_22 (fun hb9 kb9 => ?_)
    refine q_aret cx hr (Or.inl ⟨_, rfl⟩) hlk hB dX10_linkAt_23 ?_
    exact ⟨rfl, hb9, kb9⟩
  have J21 : ∀ (t21_0 : Nat) (ht21_0 : t21_0 ∈ L) (kt21_0 : K t21_0 = 120) (H : Heap) (locs : List Loc) (hB : q_B g K L (fun q => q ∈ L) [] f f s H locs) (ls : Array Slot) (hl : lv_has ls 2 []), W p l e { frames := 0, cells := 0, slots := 0, locals := 0 } s m ([.ref v, .int (q_i p0)] : List Value).toArray below meth c H locs 0 0 (MQ below (q_Q g K L [] f (q_Pr (fun (z : Nat) (f1 : Nat → va_E) => f = f1 ∧ z ∈ L ∧ K z = 3))) ([.ref v, .int (q_i p0)] : List Value).toArray s 0 0 (fun q => q ∈ L)) (F0 m 21 ls [.ref t21_0]) := by
    intro t21_0 ht21_0 kt21_0 H locs hB ls hl
    refine q_iconst cx dX10_linkAt_21 ?_
    exact J22 0 (by decide) (by decide) t21_0 ht21_0 kt21_0 H locs hB ls (lv_sub hl [] rfl)
  obtain ⟨H, hH⟩ : ∃ H : Heap, H = s.heap := ⟨_, rfl⟩
  obtain ⟨locs, hlocs⟩ : ∃ z : List Loc, z = [] := ⟨_, rfl⟩
  rw [← hH, ← hlocs] at hB
  rw [← hH, ← hlocs]
  refine q_ald_n cx dX10_linkAt_0 rfl (lv_at hl 0 rfl) ?_
  obtain ⟨p10, ep10⟩ : ∃ zz, q_ir (q_r f v 1) zz := ⟨_, q_irr _⟩
  refine q_gX10_19 cx hB hv kv ep10 dX10_linkAt_1 (fun hb11 kb11 => ?_)
  refine q_ild_n cx dX10_linkAt_4 rfl (lv_at hl 1 rfl) ?_
  refine q_iflt (tgt := 21) cx ⟨by omega, by omega⟩ dX10_linkAt_5 (by decide) (fun c12 => ?_) (fun c12 => ?_)
  · exact J21 p10 hb11 kb11 H locs hB ls (lv_sub hl [] rfl)
  · refine q_ild_n cx dX10_linkAt_8 rfl (lv_at hl 1 rfl) ?_
    refine q_ald_n cx dX10_linkAt_9 rfl (lv_at hl 0 rfl) ?_
    refine q_gX10_19 cx hB hv kv ep10 dX10_linkAt_10 (fun hb13 kb13 => ?_)
    refine q_alen (n := 16) cx hB hb11 kb11 (by decide) rfl 5 rfl rfl dX10_linkAt_13 ?_
    refine q_icge (tgt := 21) cx ⟨by omega, by omega⟩ ⟨by decide, by decide⟩ dX10_linkAt_14 (by decide) (fun c14 => ?_) (fun c14 => ?_)
    · exact J21 p10 hb11 kb11 H locs hB ls (lv_sub hl [] rfl)
    · refine q_ild_n cx dX10_linkAt_17 rfl (lv_at hl 1 rfl) ?_
      refine lv_goto (tgt := 22) cx.1 cx.2.1 dX10_linkAt_18 (by decide) ?_
      exact J22 p0 (by omega) (by omega) p10 hb11 kb11 H locs hB ls (lv_sub hl [] rfl)
set_option maxHeartbeats 4000000 in
set_option maxRecDepth 100000 in
theorem g_X10_linkAt_1 (l : Launch) (g : q_G) {K : Nat → Nat} {L : List Nat} (hN : L.Nodup) {f : Nat → va_E} (hT : q_Ty g K L f) (v : Nat) (hv : v ∈ L) (kv : K v = 13) (p0 : Int) (lp0 : (-2147483648) ≤ p0) (up0 : p0 ≤ 2147483647) : q_Ct l g K L yX10_linkAt cX10_linkAt 2 (some (.object "WakeVillage$Link")) 0 0 [.ref v, .int (q_i p0)] f [] (q_Pr (fun (z : Nat) (f1 : Nat → va_E) => f = f1 ∧ z ∈ L ∧ K z = 21)) := by
  refine q_ofb (by decide +kernel) hN hT (Nat.le_of_ble_eq_true rfl) ?_
  intro p e s m below meth c ls cx hr hlk hB hl
  have hl : lv_has ls 2 [(0, .ref v), (1, .int (q_i p0))] := hl
  have J22 : ∀ (t22_0 : Int) (lt22_0 : 0 ≤ t22_0) (ut22_0 : t22_0 ≤ 15) (t22_1 : Nat) (ht22_1 : t22_1 ∈ L) (kt22_1 : K t22_1 = 121) (H : Heap) (locs : List Loc) (hB : q_B g K L (fun q => q ∈ L) [] f f s H locs) (ls : Array Slot) (hl : lv_has ls 2 []), W p l e { frames := 0, cells := 0, slots := 0, locals := 0 } s m ([.ref v, .int (q_i p0)] : List Value).toArray below meth c H locs 0 0 (MQ below (q_Q g K L [] f (q_Pr (fun (z : Nat) (f1 : Nat → va_E) => f = f1 ∧ z ∈ L ∧ K z = 21))) ([.ref v, .int (q_i p0)] : List Value).toArray s 0 0 (fun q => q ∈ L)) (F0 m 22 ls [.int (q_i t22_0), .ref t22_1]) := by
    intro t22_0 lt22_0 ut22_0 t22_1 ht22_1 kt22_1 H locs hB ls hl
    obtain ⟨p8, ep8⟩ : ∃ zz, q_ir (q_r f t22_1 (Int.toNat t22_0)) zz := ⟨_, q_irr _⟩
    refine q_aald (k2 := 21) (n := 16) cx hB ht22_1 kt22_1 (by decide) rfl 5 rfl (by decide) rfl (by omega) (by omega) (by decide) rfl ep8 dX10_linkAt_22 (fun hb9 kb9 => ?_)
    refine q_aret cx hr (Or.inl ⟨_, rfl⟩) hlk hB dX10_linkAt_23 ?_
    exact ⟨rfl, hb9, kb9⟩
  have J21 : ∀ (t21_0 : Nat) (ht21_0 : t21_0 ∈ L) (kt21_0 : K t21_0 = 121) (H : Heap) (locs : List Loc) (hB : q_B g K L (fun q => q ∈ L) [] f f s H locs) (ls : Array Slot) (hl : lv_has ls 2 []), W p l e { frames := 0, cells := 0, slots := 0, locals := 0 } s m ([.ref v, .int (q_i p0)] : List Value).toArray below meth c H locs 0 0 (MQ below (q_Q g K L [] f (q_Pr (fun (z : Nat) (f1 : Nat → va_E) => f = f1 ∧ z ∈ L ∧ K z = 21))) ([.ref v, .int (q_i p0)] : List Value).toArray s 0 0 (fun q => q ∈ L)) (F0 m 21 ls [.ref t21_0]) := by
    intro t21_0 ht21_0 kt21_0 H locs hB ls hl
    refine q_iconst cx dX10_linkAt_21 ?_
    exact J22 0 (by decide) (by decide) t21_0 ht21_0 kt21_0 H locs hB ls (lv_sub hl [] rfl)
  obtain ⟨H, hH⟩ : ∃ H : Heap, H = s.heap := ⟨_, rfl⟩
  obtain ⟨locs, hlocs⟩ : ∃ z : List Loc, z = [] := ⟨_, rfl⟩
  rw [← hH, ← hlocs] at hB
  rw [← hH, ← hlocs]
  refine q_ald_n cx dX10_linkAt_0 rfl (lv_at hl 0 rfl) ?_
  obtain ⟨p10, ep10⟩ : ∃ zz, q_ir (q_r f v 1) zz := ⟨_, q_irr _⟩
  refine q_gX10_19_13 cx hB hv kv ep10 dX10_linkAt_1 (fun hb11 kb11 => ?_)
  refine q_ild_n cx dX10_linkAt_4 rfl (lv_at hl 1 rfl) ?_
  refine q_iflt (tgt := 21) cx ⟨by omega, by omega⟩ dX10_linkAt_5 (by decide) (fun c12 => ?_) (fun c12 => ?_)
  · exact J21 p10 hb11 kb11 H locs hB ls (lv_sub hl [] rfl)
  · refine q_ild_n cx dX10_linkAt_8 rfl (lv_at hl 1 rfl) ?_
    refine q_ald_n cx dX10_linkAt_9 rfl (lv_at hl 0 rfl) ?_
    refine q_gX10_19_13 cx hB hv kv ep10 dX10_linkAt_10 (fun hb13 kb13 => ?_)
    refine q_alen (n := 16) cx hB hb11 kb11 (by decide) rfl 5 rfl rfl dX10_linkAt_13 ?_
    refine q_icge (tgt := 21) cx ⟨by omega, by omega⟩ ⟨by decide, by decide⟩ dX10_linkAt_14 (by decide) (fun c14 => ?_) (fun c14 => ?_)
    · exact J21 p10 hb11 kb11 H locs hB ls (lv_sub hl [] rfl)
    · refine q_ild_n cx dX10_linkAt_17 rfl (lv_at hl 1 rfl) ?_
      refine lv_goto (tgt := 22) cx.1 cx.2.1 dX10_linkAt_18 (by decide) ?_
      exact J22 p0 (by omega) (by omega) p10 hb11 kb11 H locs hB ls (lv_sub hl [] rfl)
set_option maxHeartbeats 4000000 in
set_option maxRecDepth 100000 in
theorem g_X10_linkAt_2 (l : Launch) (g : q_G) {K : Nat → Nat} {L : List Nat} (hN : L.Nodup) {f : Nat → va_E} (hT : q_Ty g K L f) (v : Nat) (hv : v ∈ L) (kv : K v = 14) (p0 : Int) (lp0 : (-2147483648) ≤ p0) (up0 : p0 ≤ 2147483647) : q_Ct l g K L yX10_linkAt cX10_linkAt 2 (some (.object "WakeVillage$Link")) 0 0 [.ref v, .int (q_i p0)] f [] (q_Pr (fun (z : Nat) (f1 : Nat → va_E) => f = f1 ∧ z ∈ L ∧ K z = 22)) := by
  refine q_ofb (by decide +kernel) hN hT (Nat.le_of_ble_eq_true rfl) ?_
  intro p e s m below meth c ls cx hr hlk hB hl
  have hl : lv_has ls 2 [(0, .ref v), (1, .int (q_i p0))] := hl
  have J22 : ∀ (t22_0 : Int) (lt22_0 : 0 ≤ t22_0) (ut22_0 : t22_0 ≤ 15) (t22_1 : Nat) (ht22_1 : t22_1 ∈ L) (kt22_1 : K t22_1 = 122) (H : Heap) (locs : List Loc) (hB : q_B g K L (fun q => q ∈ L) [] f f s H locs) (ls : Array Slot) (hl : lv_has ls 2 []), W p l e { frames := 0, cells := 0, slots := 0, locals := 0 } s m ([.ref v, .int (q_i p0)] : List Value).toArray below meth c H locs 0 0 (MQ below (q_Q g K L [] f (q_Pr (fun (z : Nat) (f1 : Nat → va_E) => f = f1 ∧ z ∈ L ∧ K z = 22))) ([.ref v, .int (q_i p0)] : List Value).toArray s 0 0 (fun q => q ∈ L)) (F0 m 22 ls [.int (q_i t22_0), .ref t22_1]) := by
    intro t22_0 lt22_0 ut22_0 t22_1 ht22_1 kt22_1 H locs hB ls hl
    obtain ⟨p8, ep8⟩ : ∃ zz, q_ir (q_r f t22_1 (Int.toNat t22_0)) zz := ⟨_, q_irr _⟩
    refine q_aald (k2 := 22) (n := 16) cx hB ht22_1 kt22_1 (by decide) rfl 5 rfl (by decide) rfl (by omega) (by omega) (by decide) rfl ep8 dX10_linkAt_22 (fun hb9 kb9 => ?_)
    refine q_aret cx hr (Or.inl ⟨_, rfl⟩) hlk hB dX10_linkAt_23 ?_
    exact ⟨rfl, hb9, kb9⟩
  have J21 : ∀ (t21_0 : Nat) (ht21_0 : t21_0 ∈ L) (kt21_0 : K t21_0 = 122) (H : Heap) (locs : List Loc) (hB : q_B g K L (fun q => q ∈ L) [] f f s H locs) (ls : Array Slot) (hl : lv_has ls 2 []), W p l e { frames := 0, cells := 0, slots := 0, locals := 0 } s m ([.ref v, .int (q_i p0)] : List Value).toArray below meth c H locs 0 0 (MQ below (q_Q g K L [] f (q_Pr (fun (z : Nat) (f1 : Nat → va_E) => f = f1 ∧ z ∈ L ∧ K z = 22))) ([.ref v, .int (q_i p0)] : List Value).toArray s 0 0 (fun q => q ∈ L)) (F0 m 21 ls [.ref t21_0]) := by
    intro t21_0 ht21_0 kt21_0 H locs hB ls hl
    refine q_iconst cx dX10_linkAt_21 ?_
    exact J22 0 (by decide) (by decide) t21_0 ht21_0 kt21_0 H locs hB ls (lv_sub hl [] rfl)
  obtain ⟨H, hH⟩ : ∃ H : Heap, H = s.heap := ⟨_, rfl⟩
  obtain ⟨locs, hlocs⟩ : ∃ z : List Loc, z = [] := ⟨_, rfl⟩
  rw [← hH, ← hlocs] at hB
  rw [← hH, ← hlocs]
  refine q_ald_n cx dX10_linkAt_0 rfl (lv_at hl 0 rfl) ?_
  obtain ⟨p10, ep10⟩ : ∃ zz, q_ir (q_r f v 1) zz := ⟨_, q_irr _⟩
  refine q_gX10_19_14 cx hB hv kv ep10 dX10_linkAt_1 (fun hb11 kb11 => ?_)
  refine q_ild_n cx dX10_linkAt_4 rfl (lv_at hl 1 rfl) ?_
  refine q_iflt (tgt := 21) cx ⟨by omega, by omega⟩ dX10_linkAt_5 (by decide) (fun c12 => ?_) (fun c12 => ?_)
  · exact J21 p10 hb11 kb11 H locs hB ls (lv_sub hl [] rfl)
  · refine q_ild_n cx dX10_linkAt_8 rfl (lv_at hl 1 rfl) ?_
    refine q_ald_n cx dX10_linkAt_9 rfl (lv_at hl 0 rfl) ?_
    refine q_gX10_19_14 cx hB hv kv ep10 dX10_linkAt_10 (fun hb13 kb13 => ?_)
    refine q_alen (n := 16) cx hB hb11 kb11 (by decide) rfl 5 rfl rfl dX10_linkAt_13 ?_
    refine q_icge (tgt := 21) cx ⟨by omega, by omega⟩ ⟨by decide, by decide⟩ dX10_linkAt_14 (by decide) (fun c14 => ?_) (fun c14 => ?_)
    · exact J21 p10 hb11 kb11 H locs hB ls (lv_sub hl [] rfl)
    · refine q_ild_n cx dX10_linkAt_17 rfl (lv_at hl 1 rfl) ?_
      refine lv_goto (tgt := 22) cx.1 cx.2.1 dX10_linkAt_18 (by decide) ?_
      exact J22 p0 (by omega) (by omega) p10 hb11 kb11 H locs hB ls (lv_sub hl [] rfl)
set_option maxHeartbeats 4000000 in
set_option maxRecDepth 100000 in
theorem g_X10_linkAt_3 (l : Launch) (g : q_G) {K : Nat → Nat} {L : List Nat} (hN : L.Nodup) {f : Nat → va_E} (hT : q_Ty g K L f) (v : Nat) (hv : v ∈ L) (kv : K v = 15) (p0 : Int) (lp0 : (-2147483648) ≤ p0) (up0 : p0 ≤ 2147483647) : q_Ct l g K L yX10_linkAt cX10_linkAt 2 (some (.object "WakeVillage$Link")) 0 0 [.ref v, .int (q_i p0)] f [] (q_Pr (fun (z : Nat) (f1 : Nat → va_E) => f = f1 ∧ z ∈ L ∧ K z = 23)) := by
  refine q_ofb (by decide +kernel) hN hT (Nat.le_of_ble_eq_true rfl) ?_
  intro p e s m below meth c ls cx hr hlk hB hl
  have hl : lv_has ls 2 [(0, .ref v), (1, .int (q_i p0))] := hl
  have J22 : ∀ (t22_0 : Int) (lt22_0 : 0 ≤ t22_0) (ut22_0 : t22_0 ≤ 15) (t22_1 : Nat) (ht22_1 : t22_1 ∈ L) (kt22_1 : K t22_1 = 123) (H : Heap) (locs : List Loc) (hB : q_B g K L (fun q => q ∈ L) [] f f s H locs) (ls : Array Slot) (hl : lv_has ls 2 []), W p l e { frames := 0, cells := 0, slots := 0, locals := 0 } s m ([.ref v, .int (q_i p0)] : List Value).toArray below meth c H locs 0 0 (MQ below (q_Q g K L [] f (q_Pr (fun (z : Nat) (f1 : Nat → va_E) => f = f1 ∧ z ∈ L ∧ K z = 23))) ([.ref v, .int (q_i p0)] : List Value).toArray s 0 0 (fun q => q ∈ L)) (F0 m 22 ls [.int (q_i t22_0), .ref t22_1]) := by
    intro t22_0 lt22_0 ut22_0 t22_1 ht22_1 kt22_1 H locs hB ls hl
    obtain ⟨p8, ep8⟩ : ∃ zz, q_ir (q_r f t22_1 (Int.toNat t22_0)) zz := ⟨_, q_irr _⟩
    refine q_aald (k2 := 23) (n := 16) cx hB ht22_1 kt22_1 (by decide) rfl 5 rfl (by decide) rfl (by omega) (by omega) (by decide) rfl ep8 dX10_linkAt_22 (fun hb9 kb9 => ?_)
    refine q_aret cx hr (Or.inl ⟨_, rfl⟩) hlk hB dX10_linkAt_23 ?_
    exact ⟨rfl, hb9, kb9⟩
  have J21 : ∀ (t21_0 : Nat) (ht21_0 : t21_0 ∈ L) (kt21_0 : K t21_0 = 123) (H : Heap) (locs : List Loc) (hB : q_B g K L (fun q => q ∈ L) [] f f s H locs) (ls : Array Slot) (hl : lv_has ls 2 []), W p l e { frames := 0, cells := 0, slots := 0, locals := 0 } s m ([.ref v, .int (q_i p0)] : List Value).toArray below meth c H locs 0 0 (MQ below (q_Q g K L [] f (q_Pr (fun (z : Nat) (f1 : Nat → va_E) => f = f1 ∧ z ∈ L ∧ K z = 23))) ([.ref v, .int (q_i p0)] : List Value).toArray s 0 0 (fun q => q ∈ L)) (F0 m 21 ls [.ref t21_0]) := by
    intro t21_0 ht21_0 kt21_0 H locs hB ls hl
    refine q_iconst cx dX10_linkAt_21 ?_
    exact J22 0 (by decide) (by decide) t21_0 ht21_0 kt21_0 H locs hB ls (lv_sub hl [] rfl)
  obtain ⟨H, hH⟩ : ∃ H : Heap, H = s.heap := ⟨_, rfl⟩
  obtain ⟨locs, hlocs⟩ : ∃ z : List Loc, z = [] := ⟨_, rfl⟩
  rw [← hH, ← hlocs] at hB
  rw [← hH, ← hlocs]
  refine q_ald_n cx dX10_linkAt_0 rfl (lv_at hl 0 rfl) ?_
  obtain ⟨p10, ep10⟩ : ∃ zz, q_ir (q_r f v 1) zz := ⟨_, q_irr _⟩
  refine q_gX10_19_15 cx hB hv kv ep10 dX10_linkAt_1 (fun hb11 kb11 => ?_)
  refine q_ild_n cx dX10_linkAt_4 rfl (lv_at hl 1 rfl) ?_
  refine q_iflt (tgt := 21) cx ⟨by omega, by omega⟩ dX10_linkAt_5 (by decide) (fun c12 => ?_) (fun c12 => ?_)
  · exact J21 p10 hb11 kb11 H locs hB ls (lv_sub hl [] rfl)
  · refine q_ild_n cx dX10_linkAt_8 rfl (lv_at hl 1 rfl) ?_
    refine q_ald_n cx dX10_linkAt_9 rfl (lv_at hl 0 rfl) ?_
    refine q_gX10_19_15 cx hB hv kv ep10 dX10_linkAt_10 (fun hb13 kb13 => ?_)
    refine q_alen (n := 16) cx hB hb11 kb11 (by decide) rfl 5 rfl rfl dX10_linkAt_13 ?_
    refine q_icge (tgt := 21) cx ⟨by omega, by omega⟩ ⟨by decide, by decide⟩ dX10_linkAt_14 (by decide) (fun c14 => ?_) (fun c14 => ?_)
    · exact J21 p10 hb11 kb11 H locs hB ls (lv_sub hl [] rfl)
    · refine q_ild_n cx dX10_linkAt_17 rfl (lv_at hl 1 rfl) ?_
      refine lv_goto (tgt := 22) cx.1 cx.2.1 dX10_linkAt_18 (by decide) ?_
      exact J22 p0 (by omega) (by omega) p10 hb11 kb11 H locs hB ls (lv_sub hl [] rfl)
set_option maxHeartbeats 4000000 in
set_option maxRecDepth 100000 in
theorem g_X10_linkAt_4 (l : Launch) (g : q_G) {K : Nat → Nat} {L : List Nat} (hN : L.Nodup) {f : Nat → va_E} (hT : q_Ty g K L f) (v : Nat) (hv : v ∈ L) (kv : K v = 16) (p0 : Int) (lp0 : (-2147483648) ≤ p0) (up0 : p0 ≤ 2147483647) : q_Ct l g K L yX10_linkAt cX10_linkAt 2 (some (.object "WakeVillage$Link")) 0 0 [.ref v, .int (q_i p0)] f [] (q_Pr (fun (z : Nat) (f1 : Nat → va_E) => f = f1 ∧ z ∈ L ∧ K z = 24)) := by
  refine q_ofb (by decide +kernel) hN hT (Nat.le_of_ble_eq_true rfl) ?_
  intro p e s m below meth c ls cx hr hlk hB hl
  have hl : lv_has ls 2 [(0, .ref v), (1, .int (q_i p0))] := hl
  have J22 : ∀ (t22_0 : Int) (lt22_0 : 0 ≤ t22_0) (ut22_0 : t22_0 ≤ 15) (t22_1 : Nat) (ht22_1 : t22_1 ∈ L) (kt22_1 : K t22_1 = 124) (H : Heap) (locs : List Loc) (hB : q_B g K L (fun q => q ∈ L) [] f f s H locs) (ls : Array Slot) (hl : lv_has ls 2 []), W p l e { frames := 0, cells := 0, slots := 0, locals := 0 } s m ([.ref v, .int (q_i p0)] : List Value).toArray below meth c H locs 0 0 (MQ below (q_Q g K L [] f (q_Pr (fun (z : Nat) (f1 : Nat → va_E) => f = f1 ∧ z ∈ L ∧ K z = 24))) ([.ref v, .int (q_i p0)] : List Value).toArray s 0 0 (fun q => q ∈ L)) (F0 m 22 ls [.int (q_i t22_0), .ref t22_1]) := by
    intro t22_0 lt22_0 ut22_0 t22_1 ht22_1 kt22_1 H locs hB ls hl
    obtain ⟨p8, ep8⟩ : ∃ zz, q_ir (q_r f t22_1 (Int.toNat t22_0)) zz := ⟨_, q_irr _⟩
    refine q_aald (k2 := 24) (n := 16) cx hB ht22_1 kt22_1 (by decide) rfl 5 rfl (by decide) rfl (by omega) (by omega) (by decide) rfl ep8 dX10_linkAt_22 (fun hb9 kb9 => ?_)
    refine q_aret cx hr (Or.inl ⟨_, rfl⟩) hlk hB dX10_linkAt_23 ?_
    exact ⟨rfl, hb9, kb9⟩
  have J21 : ∀ (t21_0 : Nat) (ht21_0 : t21_0 ∈ L) (kt21_0 : K t21_0 = 124) (H : Heap) (locs : List Loc) (hB : q_B g K L (fun q => q ∈ L) [] f f s H locs) (ls : Array Slot) (hl : lv_has ls 2 []), W p l e { frames := 0, cells := 0, slots := 0, locals := 0 } s m ([.ref v, .int (q_i p0)] : List Value).toArray below meth c H locs 0 0 (MQ below (q_Q g K L [] f (q_Pr (fun (z : Nat) (f1 : Nat → va_E) => f = f1 ∧ z ∈ L ∧ K z = 24))) ([.ref v, .int (q_i p0)] : List Value).toArray s 0 0 (fun q => q ∈ L)) (F0 m 21 ls [.ref t21_0]) := by
    intro t21_0 ht21_0 kt21_0 H locs hB ls hl
    refine q_iconst cx dX10_linkAt_21 ?_
    exact J22 0 (by decide) (by decide) t21_0 ht21_0 kt21_0 H locs hB ls (lv_sub hl [] rfl)
  obtain ⟨H, hH⟩ : ∃ H : Heap, H = s.heap := ⟨_, rfl⟩
  obtain ⟨locs, hlocs⟩ : ∃ z : List Loc, z = [] := ⟨_, rfl⟩
  rw [← hH, ← hlocs] at hB
  rw [← hH, ← hlocs]
  refine q_ald_n cx dX10_linkAt_0 rfl (lv_at hl 0 rfl) ?_
  obtain ⟨p10, ep10⟩ : ∃ zz, q_ir (q_r f v 1) zz := ⟨_, q_irr _⟩
  refine q_gX10_19_16 cx hB hv kv ep10 dX10_linkAt_1 (fun hb11 kb11 => ?_)
  refine q_ild_n cx dX10_linkAt_4 rfl (lv_at hl 1 rfl) ?_
  refine q_iflt (tgt := 21) cx ⟨by omega, by omega⟩ dX10_linkAt_5 (by decide) (fun c12 => ?_) (fun c12 => ?_)
  · exact J21 p10 hb11 kb11 H locs hB ls (lv_sub hl [] rfl)
  · refine q_ild_n cx dX10_linkAt_8 rfl (lv_at hl 1 rfl) ?_
    refine q_ald_n cx dX10_linkAt_9 rfl (lv_at hl 0 rfl) ?_
    refine q_gX10_19_16 cx hB hv kv ep10 dX10_linkAt_10 (fun hb13 kb13 => ?_)
    refine q_alen (n := 16) cx hB hb11 kb11 (by decide) rfl 5 rfl rfl dX10_linkAt_13 ?_
    refine q_icge (tgt := 21) cx ⟨by omega, by omega⟩ ⟨by decide, by decide⟩ dX10_linkAt_14 (by decide) (fun c14 => ?_) (fun c14 => ?_)
    · exact J21 p10 hb11 kb11 H locs hB ls (lv_sub hl [] rfl)
    · refine q_ild_n cx dX10_linkAt_17 rfl (lv_at hl 1 rfl) ?_
      refine lv_goto (tgt := 22) cx.1 cx.2.1 dX10_linkAt_18 (by decide) ?_
      exact J22 p0 (by omega) (by omega) p10 hb11 kb11 H locs hB ls (lv_sub hl [] rfl)
set_option maxHeartbeats 4000000 in
set_option maxRecDepth 100000 in
theorem g_X3_copyFrom_01 (l : Launch) (g : q_G) {K : Nat → Nat} {L : List Nat} (hN : L.Nodup) {f : Nat → va_E} (hT : q_Ty g K L f) (v : Nat) (hv : v ∈ L) (kv : K v = 3) (p0 : Nat) (hp0 : p0 ∈ L) (kp0 : K p0 = 21) : q_Ct l g K L yX3_copyFrom cX3_copyFrom 2 none 0 0 [.ref v, .ref p0] f [(3, 0, 4)] (q_Pv (fun (f1 : Nat → va_E) => True)) := by
  refine q_ofb (by decide +kernel) hN hT (Nat.le_of_ble_eq_true rfl) ?_
  intro p e s m below meth c ls cx hr hlk hB hl
  have hl : lv_has ls 2 [(0, .ref v), (1, .ref p0)] := hl
  obtain ⟨H, hH⟩ : ∃ H : Heap, H = s.heap := ⟨_, rfl⟩
  obtain ⟨locs, hlocs⟩ : ∃ z : List Loc, z = [] := ⟨_, rfl⟩
  rw [← hH, ← hlocs] at hB
  rw [← hH, ← hlocs]
  refine q_ald_n cx dX3_copyFrom_0 rfl (lv_at hl 0 rfl) ?_
  refine q_ald_n cx dX3_copyFrom_1 rfl (lv_at hl 1 rfl) ?_
  obtain ⟨x46, ex46⟩ : ∃ zz, q_is (q_z f p0 0) zz := ⟨_, q_isr _⟩
  refine q_gX3_7_21 cx hB hp0 kp0 ex46 dX3_copyFrom_2 (fun lb47 ub47 => ?_)
  refine q_pX3_7 cx hB hv kv ⟨by omega, by omega⟩ (by omega) (by omega) rfl dX3_copyFrom_5 (fun H locs f48 ef48 z49 hB => ?_)
  have z50 : q_is (q_z f48 p0 0) x46 := by rw [ef48, q_setz (Or.inl (fun q => by rw [q, kv] at kp0; exact absurd kp0 (by decide)))]; exact ex46
  refine q_ald_n cx dX3_copyFrom_8 rfl (lv_at hl 0 rfl) ?_
  refine q_ald_n cx dX3_copyFrom_9 rfl (lv_at hl 1 rfl) ?_
  obtain ⟨x51, ex51⟩ : ∃ zz, q_is (q_z f48 p0 1) zz := ⟨_, q_isr _⟩
  refine q_gX3_13_21 cx hB hp0 kp0 ex51 dX3_copyFrom_10 (fun lb52 ub52 => ?_)
  refine q_pX3_13 cx hB hv kv ⟨by omega, by omega⟩ (by omega) (by omega) rfl dX3_copyFrom_13 (fun H locs f53 ef53 z54 hB => ?_)
  have z55 : q_is (q_z f53 p0 0) x46 := by rw [ef53, q_setz (Or.inr (by decide))]; exact z50
  have z56 : q_is (q_z f53 v 0) x46 := by rw [ef53, q_setz (Or.inr (by decide))]; exact z49
  have z57 : q_is (q_z f53 p0 1) x51 := by rw [ef53, q_setz (Or.inl (fun q => by rw [q, kv] at kp0; exact absurd kp0 (by decide)))]; exact ex51
  refine q_ald_n cx dX3_copyFrom_16 rfl (lv_at hl 0 rfl) ?_
  refine q_ald_n cx dX3_copyFrom_17 rfl (lv_at hl 1 rfl) ?_
  obtain ⟨x58, ex58⟩ : ∃ zz, q_is (q_z f53 p0 2) zz := ⟨_, q_isr _⟩
  refine q_gX3_16_21 cx hB hp0 kp0 ex58 dX3_copyFrom_18 (fun lb59 ub59 => ?_)
  refine q_pX3_16 cx hB hv kv ⟨by omega, by omega⟩ (by omega) (by omega) rfl dX3_copyFrom_21 (fun H locs f60 ef60 z61 hB => ?_)
  have z62 : q_is (q_z f60 p0 0) x46 := by rw [ef60, q_setz (Or.inr (by decide))]; exact z55
  have z63 : q_is (q_z f60 v 0) x46 := by rw [ef60, q_setz (Or.inr (by decide))]; exact z56
  have z64 : q_is (q_z f60 p0 1) x51 := by rw [ef60, q_setz (Or.inr (by decide))]; exact z57
  have z65 : q_is (q_z f60 v 1) x51 := by rw [ef60, q_setz (Or.inr (by decide))]; exact z54
  have z66 : q_is (q_z f60 p0 2) x58 := by rw [ef60, q_setz (Or.inl (fun q => by rw [q, kv] at kp0; exact absurd kp0 (by decide)))]; exact ex58
  refine q_ald_n cx dX3_copyFrom_24 rfl (lv_at hl 0 rfl) ?_
  refine q_ald_n cx dX3_copyFrom_25 rfl (lv_at hl 1 rfl) ?_
  obtain ⟨x67, ex67⟩ : ∃ zz, q_is (q_z f60 p0 3) zz := ⟨_, q_isr _⟩
  refine q_gX3_19_21 cx hB hp0 kp0 ex67 dX3_copyFrom_26 (fun lb68 ub68 => ?_)
  refine q_pX3_19 cx hB hv kv ⟨by omega, by omega⟩ (by omega) (by omega) rfl dX3_copyFrom_29 (fun H locs f69 ef69 z70 hB => ?_)
  have z71 : q_is (q_z f69 p0 0) x46 := by rw [ef69, q_setz (Or.inr (by decide))]; exact z62
  have z72 : q_is (q_z f69 v 0) x46 := by rw [ef69, q_setz (Or.inr (by decide))]; exact z63
  have z73 : q_is (q_z f69 p0 1) x51 := by rw [ef69, q_setz (Or.inr (by decide))]; exact z64
  have z74 : q_is (q_z f69 v 1) x51 := by rw [ef69, q_setz (Or.inr (by decide))]; exact z65
  have z75 : q_is (q_z f69 p0 2) x58 := by rw [ef69, q_setz (Or.inr (by decide))]; exact z66
  have z76 : q_is (q_z f69 v 2) x58 := by rw [ef69, q_setz (Or.inr (by decide))]; exact z61
  have z77 : q_is (q_z f69 p0 3) x67 := by rw [ef69, q_setz (Or.inl (fun q => by rw [q, kv] at kp0; exact absurd kp0 (by decide)))]; exact ex67
  refine q_ald_n cx dX3_copyFrom_32 rfl (lv_at hl 0 rfl) ?_
  refine q_ald_n cx dX3_copyFrom_33 rfl (lv_at hl 1 rfl) ?_
  obtain ⟨x78, ex78⟩ : ∃ zz, q_is (q_z f69 p0 4) zz := ⟨_, q_isr _⟩
  refine q_gX3_22_21 cx hB hp0 kp0 ex78 dX3_copyFrom_34 (fun lb79 ub79 => ?_)
  refine q_pX3_22 cx hB hv kv ⟨by omega, by omega⟩ (by omega) (by omega) rfl dX3_copyFrom_37 (fun H locs f80 ef80 z81 hB => ?_)
  have z82 : q_is (q_z f80 p0 0) x46 := by rw [ef80, q_setz (Or.inr (by decide))]; exact z71
  have z83 : q_is (q_z f80 v 0) x46 := by rw [ef80, q_setz (Or.inr (by decide))]; exact z72
  have z84 : q_is (q_z f80 p0 1) x51 := by rw [ef80, q_setz (Or.inr (by decide))]; exact z73
  have z85 : q_is (q_z f80 v 1) x51 := by rw [ef80, q_setz (Or.inr (by decide))]; exact z74
  have z86 : q_is (q_z f80 p0 2) x58 := by rw [ef80, q_setz (Or.inr (by decide))]; exact z75
  have z87 : q_is (q_z f80 v 2) x58 := by rw [ef80, q_setz (Or.inr (by decide))]; exact z76
  have z88 : q_is (q_z f80 p0 3) x67 := by rw [ef80, q_setz (Or.inr (by decide))]; exact z77
  have z89 : q_is (q_z f80 v 3) x67 := by rw [ef80, q_setz (Or.inr (by decide))]; exact z70
  have z90 : q_is (q_z f80 p0 4) x78 := by rw [ef80, q_setz (Or.inl (fun q => by rw [q, kv] at kp0; exact absurd kp0 (by decide)))]; exact ex78
  refine q_vret cx hr hlk hB dX3_copyFrom_40 ?_
  trivial
set_option maxHeartbeats 4000000 in
set_option maxRecDepth 100000 in
theorem g_X3_copyFrom_02 (l : Launch) (g : q_G) {K : Nat → Nat} {L : List Nat} (hN : L.Nodup) {f : Nat → va_E} (hT : q_Ty g K L f) (v : Nat) (hv : v ∈ L) (kv : K v = 3) (p0 : Nat) (hp0 : p0 ∈ L) (kp0 : K p0 = 22) : q_Ct l g K L yX3_copyFrom cX3_copyFrom 2 none 0 0 [.ref v, .ref p0] f [(3, 0, 4)] (q_Pv (fun (f1 : Nat → va_E) => True)) := by
  refine q_ofb (by decide +kernel) hN hT (Nat.le_of_ble_eq_true rfl) ?_
  intro p e s m below meth c ls cx hr hlk hB hl
  have hl : lv_has ls 2 [(0, .ref v), (1, .ref p0)] := hl
  obtain ⟨H, hH⟩ : ∃ H : Heap, H = s.heap := ⟨_, rfl⟩
  obtain ⟨locs, hlocs⟩ : ∃ z : List Loc, z = [] := ⟨_, rfl⟩
  rw [← hH, ← hlocs] at hB
  rw [← hH, ← hlocs]
  refine q_ald_n cx dX3_copyFrom_0 rfl (lv_at hl 0 rfl) ?_
  refine q_ald_n cx dX3_copyFrom_1 rfl (lv_at hl 1 rfl) ?_
  obtain ⟨x46, ex46⟩ : ∃ zz, q_is (q_z f p0 0) zz := ⟨_, q_isr _⟩
  refine q_gX3_7_22 cx hB hp0 kp0 ex46 dX3_copyFrom_2 (fun lb47 ub47 => ?_)
  refine q_pX3_7 cx hB hv kv ⟨by omega, by omega⟩ (by omega) (by omega) rfl dX3_copyFrom_5 (fun H locs f48 ef48 z49 hB => ?_)
  have z50 : q_is (q_z f48 p0 0) x46 := by rw [ef48, q_setz (Or.inl (fun q => by rw [q, kv] at kp0; exact absurd kp0 (by decide)))]; exact ex46
  refine q_ald_n cx dX3_copyFrom_8 rfl (lv_at hl 0 rfl) ?_
  refine q_ald_n cx dX3_copyFrom_9 rfl (lv_at hl 1 rfl) ?_
  obtain ⟨x51, ex51⟩ : ∃ zz, q_is (q_z f48 p0 1) zz := ⟨_, q_isr _⟩
  refine q_gX3_13_22 cx hB hp0 kp0 ex51 dX3_copyFrom_10 (fun lb52 ub52 => ?_)
  refine q_pX3_13 cx hB hv kv ⟨by omega, by omega⟩ (by omega) (by omega) rfl dX3_copyFrom_13 (fun H locs f53 ef53 z54 hB => ?_)
  have z55 : q_is (q_z f53 p0 0) x46 := by rw [ef53, q_setz (Or.inr (by decide))]; exact z50
  have z56 : q_is (q_z f53 v 0) x46 := by rw [ef53, q_setz (Or.inr (by decide))]; exact z49
  have z57 : q_is (q_z f53 p0 1) x51 := by rw [ef53, q_setz (Or.inl (fun q => by rw [q, kv] at kp0; exact absurd kp0 (by decide)))]; exact ex51
  refine q_ald_n cx dX3_copyFrom_16 rfl (lv_at hl 0 rfl) ?_
  refine q_ald_n cx dX3_copyFrom_17 rfl (lv_at hl 1 rfl) ?_
  obtain ⟨x58, ex58⟩ : ∃ zz, q_is (q_z f53 p0 2) zz := ⟨_, q_isr _⟩
  refine q_gX3_16_22 cx hB hp0 kp0 ex58 dX3_copyFrom_18 (fun lb59 ub59 => ?_)
  refine q_pX3_16 cx hB hv kv ⟨by omega, by omega⟩ (by omega) (by omega) rfl dX3_copyFrom_21 (fun H locs f60 ef60 z61 hB => ?_)
  have z62 : q_is (q_z f60 p0 0) x46 := by rw [ef60, q_setz (Or.inr (by decide))]; exact z55
  have z63 : q_is (q_z f60 v 0) x46 := by rw [ef60, q_setz (Or.inr (by decide))]; exact z56
  have z64 : q_is (q_z f60 p0 1) x51 := by rw [ef60, q_setz (Or.inr (by decide))]; exact z57
  have z65 : q_is (q_z f60 v 1) x51 := by rw [ef60, q_setz (Or.inr (by decide))]; exact z54
  have z66 : q_is (q_z f60 p0 2) x58 := by rw [ef60, q_setz (Or.inl (fun q => by rw [q, kv] at kp0; exact absurd kp0 (by decide)))]; exact ex58
  refine q_ald_n cx dX3_copyFrom_24 rfl (lv_at hl 0 rfl) ?_
  refine q_ald_n cx dX3_copyFrom_25 rfl (lv_at hl 1 rfl) ?_
  obtain ⟨x67, ex67⟩ : ∃ zz, q_is (q_z f60 p0 3) zz := ⟨_, q_isr _⟩
  refine q_gX3_19_22 cx hB hp0 kp0 ex67 dX3_copyFrom_26 (fun lb68 ub68 => ?_)
  refine q_pX3_19 cx hB hv kv ⟨by omega, by omega⟩ (by omega) (by omega) rfl dX3_copyFrom_29 (fun H locs f69 ef69 z70 hB => ?_)
  have z71 : q_is (q_z f69 p0 0) x46 := by rw [ef69, q_setz (Or.inr (by decide))]; exact z62
  have z72 : q_is (q_z f69 v 0) x46 := by rw [ef69, q_setz (Or.inr (by decide))]; exact z63
  have z73 : q_is (q_z f69 p0 1) x51 := by rw [ef69, q_setz (Or.inr (by decide))]; exact z64
  have z74 : q_is (q_z f69 v 1) x51 := by rw [ef69, q_setz (Or.inr (by decide))]; exact z65
  have z75 : q_is (q_z f69 p0 2) x58 := by rw [ef69, q_setz (Or.inr (by decide))]; exact z66
  have z76 : q_is (q_z f69 v 2) x58 := by rw [ef69, q_setz (Or.inr (by decide))]; exact z61
  have z77 : q_is (q_z f69 p0 3) x67 := by rw [ef69, q_setz (Or.inl (fun q => by rw [q, kv] at kp0; exact absurd kp0 (by decide)))]; exact ex67
  refine q_ald_n cx dX3_copyFrom_32 rfl (lv_at hl 0 rfl) ?_
  refine q_ald_n cx dX3_copyFrom_33 rfl (lv_at hl 1 rfl) ?_
  obtain ⟨x78, ex78⟩ : ∃ zz, q_is (q_z f69 p0 4) zz := ⟨_, q_isr _⟩
  refine q_gX3_22_22 cx hB hp0 kp0 ex78 dX3_copyFrom_34 (fun lb79 ub79 => ?_)
  refine q_pX3_22 cx hB hv kv ⟨by omega, by omega⟩ (by omega) (by omega) rfl dX3_copyFrom_37 (fun H locs f80 ef80 z81 hB => ?_)
  have z82 : q_is (q_z f80 p0 0) x46 := by rw [ef80, q_setz (Or.inr (by decide))]; exact z71
  have z83 : q_is (q_z f80 v 0) x46 := by rw [ef80, q_setz (Or.inr (by decide))]; exact z72
  have z84 : q_is (q_z f80 p0 1) x51 := by rw [ef80, q_setz (Or.inr (by decide))]; exact z73
  have z85 : q_is (q_z f80 v 1) x51 := by rw [ef80, q_setz (Or.inr (by decide))]; exact z74
  have z86 : q_is (q_z f80 p0 2) x58 := by rw [ef80, q_setz (Or.inr (by decide))]; exact z75
  have z87 : q_is (q_z f80 v 2) x58 := by rw [ef80, q_setz (Or.inr (by decide))]; exact z76
  have z88 : q_is (q_z f80 p0 3) x67 := by rw [ef80, q_setz (Or.inr (by decide))]; exact z77
  have z89 : q_is (q_z f80 v 3) x67 := by rw [ef80, q_setz (Or.inr (by decide))]; exact z70
  have z90 : q_is (q_z f80 p0 4) x78 := by rw [ef80, q_setz (Or.inl (fun q => by rw [q, kv] at kp0; exact absurd kp0 (by decide)))]; exact ex78
  refine q_vret cx hr hlk hB dX3_copyFrom_40 ?_
  trivial
set_option maxHeartbeats 4000000 in
set_option maxRecDepth 100000 in
theorem g_X3_copyFrom_04 (l : Launch) (g : q_G) {K : Nat → Nat} {L : List Nat} (hN : L.Nodup) {f : Nat → va_E} (hT : q_Ty g K L f) (v : Nat) (hv : v ∈ L) (kv : K v = 3) (p0 : Nat) (hp0 : p0 ∈ L) (kp0 : K p0 = 24) : q_Ct l g K L yX3_copyFrom cX3_copyFrom 2 none 0 0 [.ref v, .ref p0] f [(3, 0, 4)] (q_Pv (fun (f1 : Nat → va_E) => True)) := by
  refine q_ofb (by decide +kernel) hN hT (Nat.le_of_ble_eq_true rfl) ?_
  intro p e s m below meth c ls cx hr hlk hB hl
  have hl : lv_has ls 2 [(0, .ref v), (1, .ref p0)] := hl
  obtain ⟨H, hH⟩ : ∃ H : Heap, H = s.heap := ⟨_, rfl⟩
  obtain ⟨locs, hlocs⟩ : ∃ z : List Loc, z = [] := ⟨_, rfl⟩
  rw [← hH, ← hlocs] at hB
  rw [← hH, ← hlocs]
  refine q_ald_n cx dX3_copyFrom_0 rfl (lv_at hl 0 rfl) ?_
  refine q_ald_n cx dX3_copyFrom_1 rfl (lv_at hl 1 rfl) ?_
  obtain ⟨x46, ex46⟩ : ∃ zz, q_is (q_z f p0 0) zz := ⟨_, q_isr _⟩
  refine q_gX3_7_24 cx hB hp0 kp0 ex46 dX3_copyFrom_2 (fun lb47 ub47 => ?_)
  refine q_pX3_7 cx hB hv kv ⟨by omega, by omega⟩ (by omega) (by omega) rfl dX3_copyFrom_5 (fun H locs f48 ef48 z49 hB => ?_)
  have z50 : q_is (q_z f48 p0 0) x46 := by rw [ef48, q_setz (Or.inl (fun q => by rw [q, kv] at kp0; exact absurd kp0 (by decide)))]; exact ex46
  refine q_ald_n cx dX3_copyFrom_8 rfl (lv_at hl 0 rfl) ?_
  refine q_ald_n cx dX3_copyFrom_9 rfl (lv_at hl 1 rfl) ?_
  obtain ⟨x51, ex51⟩ : ∃ zz, q_is (q_z f48 p0 1) zz := ⟨_, q_isr _⟩
  refine q_gX3_13_24 cx hB hp0 kp0 ex51 dX3_copyFrom_10 (fun lb52 ub52 => ?_)
  refine q_pX3_13 cx hB hv kv ⟨by omega, by omega⟩ (by omega) (by omega) rfl dX3_copyFrom_13 (fun H locs f53 ef53 z54 hB => ?_)
  have z55 : q_is (q_z f53 p0 0) x46 := by rw [ef53, q_setz (Or.inr (by decide))]; exact z50
  have z56 : q_is (q_z f53 v 0) x46 := by rw [ef53, q_setz (Or.inr (by decide))]; exact z49
  have z57 : q_is (q_z f53 p0 1) x51 := by rw [ef53, q_setz (Or.inl (fun q => by rw [q, kv] at kp0; exact absurd kp0 (by decide)))]; exact ex51
  refine q_ald_n cx dX3_copyFrom_16 rfl (lv_at hl 0 rfl) ?_
  refine q_ald_n cx dX3_copyFrom_17 rfl (lv_at hl 1 rfl) ?_
  obtain ⟨x58, ex58⟩ : ∃ zz, q_is (q_z f53 p0 2) zz := ⟨_, q_isr _⟩
  refine q_gX3_16_24 cx hB hp0 kp0 ex58 dX3_copyFrom_18 (fun lb59 ub59 => ?_)
  refine q_pX3_16 cx hB hv kv ⟨by omega, by omega⟩ (by omega) (by omega) rfl dX3_copyFrom_21 (fun H locs f60 ef60 z61 hB => ?_)
  have z62 : q_is (q_z f60 p0 0) x46 := by rw [ef60, q_setz (Or.inr (by decide))]; exact z55
  have z63 : q_is (q_z f60 v 0) x46 := by rw [ef60, q_setz (Or.inr (by decide))]; exact z56
  have z64 : q_is (q_z f60 p0 1) x51 := by rw [ef60, q_setz (Or.inr (by decide))]; exact z57
  have z65 : q_is (q_z f60 v 1) x51 := by rw [ef60, q_setz (Or.inr (by decide))]; exact z54
  have z66 : q_is (q_z f60 p0 2) x58 := by rw [ef60, q_setz (Or.inl (fun q => by rw [q, kv] at kp0; exact absurd kp0 (by decide)))]; exact ex58
  refine q_ald_n cx dX3_copyFrom_24 rfl (lv_at hl 0 rfl) ?_
  refine q_ald_n cx dX3_copyFrom_25 rfl (lv_at hl 1 rfl) ?_
  obtain ⟨x67, ex67⟩ : ∃ zz, q_is (q_z f60 p0 3) zz := ⟨_, q_isr _⟩
  refine q_gX3_19_24 cx hB hp0 kp0 ex67 dX3_copyFrom_26 (fun lb68 ub68 => ?_)
  refine q_pX3_19 cx hB hv kv ⟨by omega, by omega⟩ (by omega) (by omega) rfl dX3_copyFrom_29 (fun H locs f69 ef69 z70 hB => ?_)
  have z71 : q_is (q_z f69 p0 0) x46 := by rw [ef69, q_setz (Or.inr (by decide))]; exact z62
  have z72 : q_is (q_z f69 v 0) x46 := by rw [ef69, q_setz (Or.inr (by decide))]; exact z63
  have z73 : q_is (q_z f69 p0 1) x51 := by rw [ef69, q_setz (Or.inr (by decide))]; exact z64
  have z74 : q_is (q_z f69 v 1) x51 := by rw [ef69, q_setz (Or.inr (by decide))]; exact z65
  have z75 : q_is (q_z f69 p0 2) x58 := by rw [ef69, q_setz (Or.inr (by decide))]; exact z66
  have z76 : q_is (q_z f69 v 2) x58 := by rw [ef69, q_setz (Or.inr (by decide))]; exact z61
  have z77 : q_is (q_z f69 p0 3) x67 := by rw [ef69, q_setz (Or.inl (fun q => by rw [q, kv] at kp0; exact absurd kp0 (by decide)))]; exact ex67
  refine q_ald_n cx dX3_copyFrom_32 rfl (lv_at hl 0 rfl) ?_
  refine q_ald_n cx dX3_copyFrom_33 rfl (lv_at hl 1 rfl) ?_
  obtain ⟨x78, ex78⟩ : ∃ zz, q_is (q_z f69 p0 4) zz := ⟨_, q_isr _⟩
  refine q_gX3_22_24 cx hB hp0 kp0 ex78 dX3_copyFrom_34 (fun lb79 ub79 => ?_)
  refine q_pX3_22 cx hB hv kv ⟨by omega, by omega⟩ (by omega) (by omega) rfl dX3_copyFrom_37 (fun H locs f80 ef80 z81 hB => ?_)
  have z82 : q_is (q_z f80 p0 0) x46 := by rw [ef80, q_setz (Or.inr (by decide))]; exact z71
  have z83 : q_is (q_z f80 v 0) x46 := by rw [ef80, q_setz (Or.inr (by decide))]; exact z72
  have z84 : q_is (q_z f80 p0 1) x51 := by rw [ef80, q_setz (Or.inr (by decide))]; exact z73
  have z85 : q_is (q_z f80 v 1) x51 := by rw [ef80, q_setz (Or.inr (by decide))]; exact z74
  have z86 : q_is (q_z f80 p0 2) x58 := by rw [ef80, q_setz (Or.inr (by decide))]; exact z75
  have z87 : q_is (q_z f80 v 2) x58 := by rw [ef80, q_setz (Or.inr (by decide))]; exact z76
  have z88 : q_is (q_z f80 p0 3) x67 := by rw [ef80, q_setz (Or.inr (by decide))]; exact z77
  have z89 : q_is (q_z f80 v 3) x67 := by rw [ef80, q_setz (Or.inr (by decide))]; exact z70
  have z90 : q_is (q_z f80 p0 4) x78 := by rw [ef80, q_setz (Or.inl (fun q => by rw [q, kv] at kp0; exact absurd kp0 (by decide)))]; exact ex78
  refine q_vret cx hr hlk hB dX3_copyFrom_40 ?_
  trivial
