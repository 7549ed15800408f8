set_option maxHeartbeats 4000000 in
set_option maxRecDepth 100000 in
theorem f_ncopy40 (l : Launch) (g : q_G) {K : Nat → Nat} {L : List Nat} (hN : L.Nodup) {f : Nat → va_E} (hT : q_Ty g K L f) (v : Nat) (hv : v ∈ L) (kv : K v = 20) (p0 : Nat) (hp0 : p0 ∈ L) (kp0 : K p0 = 5) : q_Ct l g K L yX5_copyFrom cX5_copyFrom 2 none 0 0 [.ref v, .ref p0] f [(20, 0, 8)] (q_Pv (fun (f1 : Nat → va_E) => (q_j f1 v 0 = q_j f p0 0) ∧ (∀ a9 : Nat, a9 ≠ v → q_j f1 a9 0 = q_j f a9 0))) := by
  refine q_ofb (by decide +kernel) hN hT (Nat.le_of_ble_eq_true rfl) ?_
  intro p e s m below meth c ls cx hr hlk hB hl
  have hl : lv_has ls 2 [(0, .ref v), (1, .ref p0)] := hl
  obtain ⟨H, hH⟩ : ∃ H : Heap, H = s.heap := ⟨_, rfl⟩
  obtain ⟨locs, hlocs⟩ : ∃ z : List Loc, z = [] := ⟨_, rfl⟩
  rw [← hH, ← hlocs] at hB
  rw [← hH, ← hlocs]
  have g109 : ∀ a9 : Nat, a9 ≠ v → q_j f a9 0 = q_j f a9 0 := fun _ _ => rfl
  refine q_ald_n cx dX5_copyFrom_0 rfl (lv_at hl 0 rfl) ?_
  refine q_ald_n cx dX5_copyFrom_1 rfl (lv_at hl 1 rfl) ?_
  obtain ⟨j110, ej110⟩ : ∃ zz, q_j f p0 0 = zz := ⟨_, rfl⟩
  refine q_gX5_7 cx hB hp0 kp0 ej110 dX5_copyFrom_2 ?_
  refine q_pX5_7_20 cx hB hv kv rfl dX5_copyFrom_5 (fun H locs f111 ef111 z112 hB => ?_)
  have g113 : ∀ a9 : Nat, a9 ≠ v → q_j f111 a9 0 = q_j f a9 0 := tk_on_tr g109 (fun a9 h9 => by rw [ef111, q_setj (Or.inl h9)])
  refine q_ald_n cx dX5_copyFrom_8 rfl (lv_at hl 0 rfl) ?_
  refine q_ald_n cx dX5_copyFrom_9 rfl (lv_at hl 1 rfl) ?_
  obtain ⟨j114, ej114⟩ : ∃ zz, q_j f111 p0 1 = zz := ⟨_, rfl⟩
  refine q_gX5_13 cx hB hp0 kp0 ej114 dX5_copyFrom_10 ?_
  refine q_pX5_13_20 cx hB hv kv rfl dX5_copyFrom_13 (fun H locs f115 ef115 z116 hB => ?_)
  have z117 : q_j f115 v 0 = j110 := by rw [ef115, q_setj (Or.inr (by decide))]; exact z112
  have g118 : ∀ a9 : Nat, a9 ≠ v → q_j f115 a9 0 = q_j f a9 0 := tk_on_tr g113 (fun a9 h9 => by rw [ef115, q_setj (Or.inl h9)])
  refine q_ald_n cx dX5_copyFrom_16 rfl (lv_at hl 0 rfl) ?_
  refine q_ald_n cx dX5_copyFrom_17 rfl (lv_at hl 1 rfl) ?_
  obtain ⟨x119, ex119⟩ : ∃ zz, q_is (q_z f115 p0 2) zz := ⟨_, q_isr _⟩
  refine q_gX5_16 cx hB hp0 kp0 ex119 dX5_copyFrom_18 (fun lb120 ub120 => ?_)
  refine q_pX5_16_20 cx hB hv kv ⟨by omega, by omega⟩ (by omega) (by omega) rfl dX5_copyFrom_21 (fun H locs f121 ef121 z122 hB => ?_)
  have z123 : q_is (q_z f121 p0 2) x119 := by rw [ef121, q_setz (Or.inl (fun q => by rw [q, kv] at kp0; exact absurd kp0 (by decide)))]; exact ex119
  have z124 : q_j f121 v 0 = j110 := by rw [ef121, q_setj (Or.inr (by decide))]; exact z117
  have z125 : q_j f121 v 1 = j114 := by rw [ef121, q_setj (Or.inr (by decide))]; exact z116
  have g126 : ∀ a9 : Nat, a9 ≠ v → q_j f121 a9 0 = q_j f a9 0 := tk_on_tr g118 (fun a9 h9 => by rw [ef121, q_setj (Or.inl h9)])
  refine q_ald_n cx dX5_copyFrom_24 rfl (lv_at hl 0 rfl) ?_
  refine q_ald_n cx dX5_copyFrom_25 rfl (lv_at hl 1 rfl) ?_
  obtain ⟨x127, ex127⟩ : ∃ zz, q_is (q_z f121 p0 3) zz := ⟨_, q_isr _⟩
  refine q_gX5_20 cx hB hp0 kp0 ex127 dX5_copyFrom_26 (fun lb128 ub128 => ?_)
  refine q_pX5_20_20 cx hB hv kv ⟨by omega, by omega⟩ (by omega) (by omega) rfl dX5_copyFrom_29 (fun H locs f129 ef129 z130 hB => ?_)
  have z131 : q_is (q_z f129 p0 2) x119 := by rw [ef129, q_setz (Or.inr (by decide))]; exact z123
  have z132 : q_is (q_z f129 v 2) x119 := by rw [ef129, q_setz (Or.inr (by decide))]; exact z122
  have z133 : q_is (q_z f129 p0 3) x127 := by rw [ef129, q_setz (Or.inl (fun q => by rw [q, kv] at kp0; exact absurd kp0 (by decide)))]; exact ex127
  have z134 : q_j f129 v 0 = j110 := by rw [ef129, q_setj (Or.inr (by decide))]; exact z124
  have z135 : q_j f129 v 1 = j114 := by rw [ef129, q_setj (Or.inr (by decide))]; exact z125
  have g136 : ∀ a9 : Nat, a9 ≠ v → q_j f129 a9 0 = q_j f a9 0 := tk_on_tr g126 (fun a9 h9 => by rw [ef129, q_setj (Or.inl h9)])
  refine q_ald_n cx dX5_copyFrom_32 rfl (lv_at hl 0 rfl) ?_
  refine q_ald_n cx dX5_copyFrom_33 rfl (lv_at hl 1 rfl) ?_
  obtain ⟨x137, ex137⟩ : ∃ zz, q_is (q_z f129 p0 4) zz := ⟨_, q_isr _⟩
  refine q_gX5_23 cx hB hp0 kp0 ex137 dX5_copyFrom_34 (fun lb138 ub138 => ?_)
  refine q_pX5_23_20 cx hB hv kv ⟨by omega, by omega⟩ (by omega) (by omega) rfl dX5_copyFrom_37 (fun H locs f139 ef139 z140 hB => ?_)
  have z141 : q_is (q_z f139 p0 2) x119 := by rw [ef139, q_setz (Or.inr (by decide))]; exact z131
  have z142 : q_is (q_z f139 v 2) x119 := by rw [ef139, q_setz (Or.inr (by decide))]; exact z132
  have z143 : q_is (q_z f139 p0 3) x127 := by rw [ef139, q_setz (Or.inr (by decide))]; exact z133
  have z144 : q_is (q_z f139 v 3) x127 := by rw [ef139, q_setz (Or.inr (by decide))]; exact z130
  have z145 : q_is (q_z f139 p0 4) x137 := by rw [ef139, q_setz (Or.inl (fun q => by rw [q, kv] at kp0; exact absurd kp0 (by decide)))]; exact ex137
  have z146 : q_j f139 v 0 = j110 := by rw [ef139, q_setj (Or.inr (by decide))]; exact z134
  have z147 : q_j f139 v 1 = j114 := by rw [ef139, q_setj (Or.inr (by decide))]; exact z135
  have g148 : ∀ a9 : Nat, a9 ≠ v → q_j f139 a9 0 = q_j f a9 0 := tk_on_tr g136 (fun a9 h9 => by rw [ef139, q_setj (Or.inl h9)])
  refine q_ald_n cx dX5_copyFrom_40 rfl (lv_at hl 0 rfl) ?_
  refine q_ald_n cx dX5_copyFrom_41 rfl (lv_at hl 1 rfl) ?_
  obtain ⟨x149, ex149⟩ : ∃ zz, q_is (q_z f139 p0 5) zz := ⟨_, q_isr _⟩
  refine q_gX5_26 cx hB hp0 kp0 ex149 dX5_copyFrom_42 (fun lb150 ub150 => ?_)
  refine q_pX5_26_20 cx hB hv kv ⟨by omega, by omega⟩ (by omega) (by omega) rfl dX5_copyFrom_45 (fun H locs f151 ef151 z152 hB => ?_)
  have z153 : q_is (q_z f151 p0 2) x119 := by rw [ef151, q_setz (Or.inr (by decide))]; exact z141
  have z154 : q_is (q_z f151 v 2) x119 := by rw [ef151, q_setz (Or.inr (by decide))]; exact z142
  have z155 : q_is (q_z f151 p0 3) x127 := by rw [ef151, q_setz (Or.inr (by decide))]; exact z143
  have z156 : q_is (q_z f151 v 3) x127 := by rw [ef151, q_setz (Or.inr (by decide))]; exact z144
  have z157 : q_is (q_z f151 p0 4) x137 := by rw [ef151, q_setz (Or.inr (by decide))]; exact z145
  have z158 : q_is (q_z f151 v 4) x137 := by rw [ef151, q_setz (Or.inr (by decide))]; exact z140
  have z159 : q_is (q_z f151 p0 5) x149 := by rw [ef151, q_setz (Or.inl (fun q => by rw [q, kv] at kp0; exact absurd kp0 (by decide)))]; exact ex149
  have z160 : q_j f151 v 0 = j110 := by rw [ef151, q_setj (Or.inr (by decide))]; exact z146
  have z161 : q_j f151 v 1 = j114 := by rw [ef151, q_setj (Or.inr (by decide))]; exact z147
  have g162 : ∀ a9 : Nat, a9 ≠ v → q_j f151 a9 0 = q_j f a9 0 := tk_on_tr g148 (fun a9 h9 => by rw [ef151, q_setj (Or.inl h9)])
  refine q_ald_n cx dX5_copyFrom_48 rfl (lv_at hl 0 rfl) ?_
  refine q_ald_n cx dX5_copyFrom_49 rfl (lv_at hl 1 rfl) ?_
  obtain ⟨x163, ex163⟩ : ∃ zz, q_is (q_z f151 p0 6) zz := ⟨_, q_isr _⟩
  refine q_gX5_29 cx hB hp0 kp0 ex163 dX5_copyFrom_50 (fun lb164 ub164 => ?_)
  refine q_pX5_29_20 cx hB hv kv ⟨by omega, by omega⟩ (by omega) (by omega) rfl dX5_copyFrom_53 (fun H locs f165 ef165 z166 hB => ?_)
  have z167 : q_is (q_z f165 p0 2) x119 := by rw [ef165, q_setz (Or.inr (by decide))]; exact z153
  have z168 : q_is (q_z f165 v 2) x119 := by rw [ef165, q_setz (Or.inr (by decide))]; exact z154
  have z169 : q_is (q_z f165 p0 3) x127 := by rw [ef165, q_setz (Or.inr (by decide))]; exact z155
  have z170 : q_is (q_z f165 v 3) x127 := by rw [ef165, q_setz (Or.inr (by decide))]; exact z156
  have z171 : q_is (q_z f165 p0 4) x137 := by rw [ef165, q_setz (Or.inr (by decide))]; exact z157
  have z172 : q_is (q_z f165 v 4) x137 := by rw [ef165, q_setz (Or.inr (by decide))]; exact z158
  have z173 : q_is (q_z f165 p0 5) x149 := by rw [ef165, q_setz (Or.inr (by decide))]; exact z159
  have z174 : q_is (q_z f165 v 5) x149 := by rw [ef165, q_setz (Or.inr (by decide))]; exact z152
  have z175 : q_is (q_z f165 p0 6) x163 := by rw [ef165, q_setz (Or.inl (fun q => by rw [q, kv] at kp0; exact absurd kp0 (by decide)))]; exact ex163
  have z176 : q_j f165 v 0 = j110 := by rw [ef165, q_setj (Or.inr (by decide))]; exact z160
  have z177 : q_j f165 v 1 = j114 := by rw [ef165, q_setj (Or.inr (by decide))]; exact z161
  have g178 : ∀ a9 : Nat, a9 ≠ v → q_j f165 a9 0 = q_j f a9 0 := tk_on_tr g162 (fun a9 h9 => by rw [ef165, q_setj (Or.inl h9)])
  refine q_ald_n cx dX5_copyFrom_56 rfl (lv_at hl 0 rfl) ?_
  refine q_ald_n cx dX5_copyFrom_57 rfl (lv_at hl 1 rfl) ?_
  obtain ⟨x179, ex179⟩ : ∃ zz, q_is (q_z f165 p0 7) zz := ⟨_, q_isr _⟩
  refine q_gX5_32 cx hB hp0 kp0 ex179 dX5_copyFrom_58 (fun lb180 ub180 => ?_)
  refine q_pX5_32_20 cx hB hv kv ⟨by omega, by omega⟩ (by omega) (by omega) rfl dX5_copyFrom_61 (fun H locs f181 ef181 z182 hB => ?_)
  have z183 : q_is (q_z f181 p0 2) x119 := by rw [ef181, q_setz (Or.inr (by decide))]; exact z167
  have z184 : q_is (q_z f181 v 2) x119 := by rw [ef181, q_setz (Or.inr (by decide))]; exact z168
  have z185 : q_is (q_z f181 p0 3) x127 := by rw [ef181, q_setz (Or.inr (by decide))]; exact z169
  have z186 : q_is (q_z f181 v 3) x127 := by rw [ef181, q_setz (Or.inr (by decide))]; exact z170
  have z187 : q_is (q_z f181 p0 4) x137 := by rw [ef181, q_setz (Or.inr (by decide))]; exact z171
  have z188 : q_is (q_z f181 v 4) x137 := by rw [ef181, q_setz (Or.inr (by decide))]; exact z172
  have z189 : q_is (q_z f181 p0 5) x149 := by rw [ef181, q_setz (Or.inr (by decide))]; exact z173
  have z190 : q_is (q_z f181 v 5) x149 := by rw [ef181, q_setz (Or.inr (by decide))]; exact z174
  have z191 : q_is (q_z f181 p0 6) x163 := by rw [ef181, q_setz (Or.inr (by decide))]; exact z175
  have z192 : q_is (q_z f181 v 6) x163 := by rw [ef181, q_setz (Or.inr (by decide))]; exact z166
  have z193 : q_is (q_z f181 p0 7) x179 := by rw [ef181, q_setz (Or.inl (fun q => by rw [q, kv] at kp0; exact absurd kp0 (by decide)))]; exact ex179
  have z194 : q_j f181 v 0 = j110 := by rw [ef181, q_setj (Or.inr (by decide))]; exact z176
  have z195 : q_j f181 v 1 = j114 := by rw [ef181, q_setj (Or.inr (by decide))]; exact z177
  have g196 : ∀ a9 : Nat, a9 ≠ v → q_j f181 a9 0 = q_j f a9 0 := tk_on_tr g178 (fun a9 h9 => by rw [ef181, q_setj (Or.inl h9)])
  refine q_ald_n cx dX5_copyFrom_64 rfl (lv_at hl 0 rfl) ?_
  refine q_ald_n cx dX5_copyFrom_65 rfl (lv_at hl 1 rfl) ?_
  obtain ⟨x197, ex197⟩ : ∃ zz, q_is (q_z f181 p0 8) zz := ⟨_, q_isr _⟩
  refine q_gX5_35 cx hB hp0 kp0 ex197 dX5_copyFrom_66 (fun lb198 ub198 => ?_)
  refine q_pX5_35_20 cx hB hv kv ⟨by omega, by omega⟩ (by omega) (by omega) rfl dX5_copyFrom_69 (fun H locs f199 ef199 z200 hB => ?_)
  have z201 : q_is (q_z f199 p0 2) x119 := by rw [ef199, q_setz (Or.inr (by decide))]; exact z183
  have z202 : q_is (q_z f199 v 2) x119 := by rw [ef199, q_setz (Or.inr (by decide))]; exact z184
  have z203 : q_is (q_z f199 p0 3) x127 := by rw [ef199, q_setz (Or.inr (by decide))]; exact z185
  have z204 : q_is (q_z f199 v 3) x127 := by rw [ef199, q_setz (Or.inr (by decide))]; exact z186
  have z205 : q_is (q_z f199 p0 4) x137 := by rw [ef199, q_setz (Or.inr (by decide))]; exact z187
  have z206 : q_is (q_z f199 v 4) x137 := by rw [ef199, q_setz (Or.inr (by decide))]; exact z188
  have z207 : q_is (q_z f199 p0 5) x149 := by rw [ef199, q_setz (Or.inr (by decide))]; exact z189
  have z208 : q_is (q_z f199 v 5) x149 := by rw [ef199, q_setz (Or.inr (by decide))]; exact z190
  have z209 : q_is (q_z f199 p0 6) x163 := by rw [ef199, q_setz (Or.inr (by decide))]; exact z191
  have z210 : q_is (q_z f199 v 6) x163 := by rw [ef199, q_setz (Or.inr (by decide))]; exact z192
  have z211 : q_is (q_z f199 p0 7) x179 := by rw [ef199, q_setz (Or.inr (by decide))]; exact z193
  have z212 : q_is (q_z f199 v 7) x179 := by rw [ef199, q_setz (Or.inr (by decide))]; exact z182
  have z213 : q_is (q_z f199 p0 8) x197 := by rw [ef199, q_setz (Or.inl (fun q => by rw [q, kv] at kp0; exact absurd kp0 (by decide)))]; exact ex197
  have z214 : q_j f199 v 0 = j110 := by rw [ef199, q_setj (Or.inr (by decide))]; exact z194
  have z215 : q_j f199 v 1 = j114 := by rw [ef199, q_setj (Or.inr (by decide))]; exact z195
  have g216 : ∀ a9 : Nat, a9 ≠ v → q_j f199 a9 0 = q_j f a9 0 := tk_on_tr g196 (fun a9 h9 => by rw [ef199, q_setj (Or.inl h9)])
  refine q_vret cx hr hlk hB dX5_copyFrom_72 ?_
  exact ⟨(Eq.trans z214 ej110.symm), g216⟩
set_option maxHeartbeats 4000000 in
set_option maxRecDepth 100000 in
theorem f_vcopy01 (l : Launch) (g : q_G) {K : Nat → Nat} {L : List Nat} (hN : L.Nodup) {f : Nat → va_E} (hT : q_Ty g K L f) (nl9 : List (List Int)) (v : Nat) (hv : v ∈ L) (kv : K v = 10) (u0 : Nat) (hu0 : u0 ∈ L) (ku0 : K u0 = 13) (ndv : Nat) (hndv : ndv ∈ L) (kndv : K ndv = 110) (ndp : Nat) (hndp : ndp ∈ L) (kndp : K ndp = 111) (nn : Int) (lnn : 0 ≤ nn) (unn : nn ≤ 10) (hf0 : q_is (q_z f u0 3) nn) (hr0 : q_ir (q_r f v 0) ndv) (hr1 : q_ir (q_r f u0 0) ndp) (hp0 : tk_vn K L 17 f u0 ndp nl9) (hp1 : tk_ik K L 5 f ndv) : q_Ct l g K L yX10_copyFrom cX10_copyFrom 3 none 1 21 [.ref v, .ref u0] f [(3, 0, 4), (4, 0, 7), (5, 0, 8), (10, 3, 12)] (q_Pv (fun (f1 : Nat → va_E) => q_is (q_z f1 v 3) nn ∧ (tk_vn K L 5 f1 v ndv nl9) ∧ (∀ u9 : Nat, u9 ∈ L → K u9 = 10 → u9 ≠ v → q_z f1 u9 3 = q_z f u9 3) ∧ (∀ a9 : Nat, a9 ∈ L → K a9 = 5 → (∀ i9 : Nat, i9 < 10 → a9 ≠ q_r f ndv i9) → q_j f1 a9 0 = q_j f a9 0))) := by
  refine q_ofb (by decide +kernel) hN hT (Nat.le_of_ble_eq_true rfl) ?_
  intro p e s m below meth c ls cx hr hlk hB hl
  have hl : lv_has ls 3 [(0, .ref v), (1, .ref u0)] := hl
  have J140 : ∀ (n : Nat) (f140 : Nat → va_E) (v140_2 : Int) (lv140_2 : 0 ≤ v140_2) (uv140_2 : v140_2 ≤ 61) (hj_u0_3 : q_is (q_z f140 u0 3) nn) (hj_v_3 : q_is (q_z f140 v 3) nn) (hq_v_0 : q_ir (q_r f140 v 0) ndv) (hq_u0_0 : q_ir (q_r f140 u0 0) ndp) (hiv140 : tk_ik K L 5 f140 ndv) (ho0140 : ∀ a9 : Nat, a9 ∈ L → K a9 = 5 → (∀ i9 : Nat, i9 < 10 → a9 ≠ q_r f ndv i9) → q_j f140 a9 0 = q_j f a9 0) (ho3140 : ∀ u9 : Nat, u9 ∈ L → K u9 = 10 → u9 ≠ v → q_z f140 u9 3 = q_z f u9 3) (hrv140 : ∀ i9 : Nat, q_r f140 ndv i9 = q_r f ndv i9) (hvp140 : tk_vn K L 17 f140 u0 ndp nl9) (hvq140 : tk_vn K L 5 f140 v ndv nl9) (hmu : (Int.toNat (2147483647 - v140_2)) < n) (H : Heap) (locs : List Loc) (hB : q_B g K L (fun q => q ∈ L) [(3, 0, 4), (4, 0, 7), (5, 0, 8), (10, 3, 12)] f f140 s H locs) (ls : Array Slot) (hl : lv_has ls 3 [(0, .ref v), (1, .ref u0), (2, .int (q_i v140_2))]), W p l e { frames := 1, cells := 0, slots := 0, locals := 21 } s m ([.ref v, .ref u0] : List Value).toArray below meth c H locs 0 0 (MQ below (q_Q g K L [(3, 0, 4), (4, 0, 7), (5, 0, 8), (10, 3, 12)] f (q_Pv (fun (f1 : Nat → va_E) => q_is (q_z f1 v 3) nn ∧ (tk_vn K L 5 f1 v ndv nl9) ∧ (∀ u9 : Nat, u9 ∈ L → K u9 = 10 → u9 ≠ v → q_z f1 u9 3 = q_z f u9 3) ∧ (∀ a9 : Nat, a9 ∈ L → K a9 = 5 → (∀ i9 : Nat, i9 < 10 → a9 ≠ q_r f ndv i9) → q_j f1 a9 0 = q_j f a9 0)))) ([.ref v, .ref u0] : List Value).toArray s 0 0 (fun q => q ∈ L)) (F0 m 140 ls []) := by
    intro n
    induction n with
    | zero =>
      intro f140 v140_2 lv140_2 uv140_2 hj_u0_3 hj_v_3 hq_v_0 hq_u0_0 hiv140 ho0140 ho3140 hrv140 hvp140 hvq140 hmu
      exact absurd hmu (Nat.not_lt_zero _)
    | succ n ih140 =>
      intro f140 v140_2 lv140_2 uv140_2 hj_u0_3 hj_v_3 hq_v_0 hq_u0_0 hiv140 ho0140 ho3140 hrv140 hvp140 hvq140 hmu H locs hB ls hl
      refine q_ild_n cx dX10_copyFrom_140 rfl (lv_at hl 2 rfl) ?_
      refine q_ald_n cx dX10_copyFrom_141 rfl (lv_at hl 0 rfl) ?_
      obtain ⟨x1250, ex1250⟩ : ∃ zz, q_is (q_z f140 v 5) zz := ⟨_, q_isr _⟩
      refine q_gX10_42 cx hB hv kv ex1250 dX10_copyFrom_142 (fun lb1251 ub1251 => ?_)
      refine q_icge (tgt := 167) cx ⟨by omega, by omega⟩ ⟨by omega, by omega⟩ dX10_copyFrom_145 (by decide) (fun c1252 => ?_) (fun c1252 => ?_)
      · refine q_vret cx hr hlk hB dX10_copyFrom_167 ?_
        exact ⟨hj_v_3, hvq140, ho3140, ho0140⟩
      · refine q_ald_n cx dX10_copyFrom_148 rfl (lv_at hl 0 rfl) ?_
        refine q_ild_n cx dX10_copyFrom_149 rfl (lv_at hl 2 rfl) ?_
        refine q_cVr (As := [.int (q_i v140_2)]) (rest := []) cx hB (fun _ h => h) hN hv kv (by decide) rfl (g_X10_messageAt l g hN hB.2.1 v hv kv v140_2 (by omega) (by omega)) q_cX10_81 q_dX10_messageAt (by decide) rfl rfl hl.1 rfl (Nat.le_of_ble_eq_true rfl) dX10_copyFrom_150 (fun y1254 H locs f1253 h1255 hF hB => ?_)
        obtain ⟨rfl, hy1254, ky1254⟩ := h1255
        refine q_ald_n cx dX10_copyFrom_153 rfl (lv_at hl 1 rfl) ?_
        refine q_ild_n cx dX10_copyFrom_154 rfl (lv_at hl 2 rfl) ?_
        refine q_cVr (As := [.int (q_i v140_2)]) (rest := [.ref y1254]) cx hB (fun _ h => h) hN hu0 ku0 (by decide) rfl (g_X10_messageAt_1 l g hN hB.2.1 u0 hu0 ku0 v140_2 (by omega) (by omega)) q_cX10_81 q_dX10_messageAt (by decide) rfl rfl hl.1 rfl (Nat.le_of_ble_eq_true rfl) dX10_copyFrom_155 (fun y1257 H locs f1256 h1258 hF hB => ?_)
        obtain ⟨rfl, hy1257, ky1257⟩ := h1258
        refine q_cVv (As := [.ref y1257]) (rest := []) cx hB (fun _ h => h) hN hy1254 ky1254 (by decide) rfl (g_X4_copyFrom_01 l g hN hB.2.1 y1254 hy1254 ky1254 y1257 hy1257 ky1257) q_cX10_85 q_dX4_copyFrom (by decide) rfl rfl hl.1 rfl (Nat.le_of_ble_eq_true rfl) dX10_copyFrom_158 (fun H locs f1259 h1261 hF hB => ?_)
        have z1262 : q_is (q_z f1259 u0 3) nn := Eq.trans (hF.z hu0 (by rw [ku0]; rfl)) hj_u0_3
        have z1263 : q_is (q_z f1259 v 3) nn := Eq.trans (hF.z hv (by rw [kv]; rfl)) hj_v_3
        have z1264 : q_is (q_z f1259 v 5) x1250 := Eq.trans (hF.z hv (by rw [kv]; rfl)) ex1250
        have z1265 : q_ir (q_r f1259 v 0) ndv := Eq.trans (hF.r hv (by rw [kv]; rfl)) hq_v_0
        have z1266 : q_ir (q_r f1259 u0 0) ndp := Eq.trans (hF.r hu0 (by rw [ku0]; rfl)) hq_u0_0
        have g1267 : tk_vn K L 17 f1259 u0 ndp nl9 := tk_vn_tr hvp140 (hF.z hu0 (by rw [ku0]; rfl)) (fun a9 h9 k9 => hF.j h9 (by rw [k9]; rfl)) (fun i9 => hF.r hndp (by rw [kndp]; rfl))
        have g1268 : tk_ik K L 5 f1259 ndv := tk_ik_tr hiv140 (fun i9 => hF.r hndv (by rw [kndv]; rfl))
        have g1269 : ∀ i9 : Nat, q_r f1259 ndv i9 = q_r f ndv i9 := tk_rv_tr hrv140 (fun i9 => hF.r hndv (by rw [kndv]; rfl))
        have g1270 : ∀ u9 : Nat, u9 ∈ L → K u9 = 10 → u9 ≠ v → q_z f1259 u9 3 = q_z f u9 3 := tk_o3_tr ho3140 (fun a9 h9 k9 n9 => hF.z h9 (by rw [k9]; rfl))
        have g1271 : ∀ a9 : Nat, a9 ∈ L → K a9 = 5 → (∀ i9 : Nat, i9 < 10 → a9 ≠ q_r f ndv i9) → q_j f1259 a9 0 = q_j f a9 0 := tk_o0_tr ho0140 (fun a9 h9 k9 => hF.j h9 (by rw [k9]; rfl))
        have g1272 : tk_vn K L 5 f1259 v ndv nl9 := tk_vn_tr hvq140 (hF.z hv (by rw [kv]; rfl)) (fun a9 h9 k9 => hF.j h9 (by rw [k9]; rfl)) (fun i9 => hF.r hndv (by rw [kndv]; rfl))
        refine q_iinc (lv' := [(2, .int (q_i (v140_2 + 1))), (0, .ref v), (1, .ref u0)]) cx dX10_copyFrom_161 hl (k := 2) rfl (by decide) rfl (fun ls hl => ?_)
        refine lv_goto (tgt := 140) cx.1 cx.2.1 dX10_copyFrom_164 (by decide) ?_
        exact ih140 f1259 (v140_2 + 1) (by omega) (by omega) z1262 z1263 z1265 z1266 g1268 g1271 g1270 g1269 g1267 g1272 (by omega) H locs hB ls (lv_sub hl [1, 2, 0] rfl)
  have J111 : ∀ (n : Nat) (f111 : Nat → va_E) (v111_2 : Int) (lv111_2 : 0 ≤ v111_2) (uv111_2 : v111_2 ≤ 16) (hj_u0_3 : q_is (q_z f111 u0 3) nn) (hj_v_3 : q_is (q_z f111 v 3) nn) (hq_v_0 : q_ir (q_r f111 v 0) ndv) (hq_u0_0 : q_ir (q_r f111 u0 0) ndp) (hiv111 : tk_ik K L 5 f111 ndv) (ho0111 : ∀ a9 : Nat, a9 ∈ L → K a9 = 5 → (∀ i9 : Nat, i9 < 10 → a9 ≠ q_r f ndv i9) → q_j f111 a9 0 = q_j f a9 0) (ho3111 : ∀ u9 : Nat, u9 ∈ L → K u9 = 10 → u9 ≠ v → q_z f111 u9 3 = q_z f u9 3) (hrv111 : ∀ i9 : Nat, q_r f111 ndv i9 = q_r f ndv i9) (hvp111 : tk_vn K L 17 f111 u0 ndp nl9) (hvq111 : tk_vn K L 5 f111 v ndv nl9) (hmu : (Int.toNat (2147483647 - v111_2)) < n) (H : Heap) (locs : List Loc) (hB : q_B g K L (fun q => q ∈ L) [(3, 0, 4), (4, 0, 7), (5, 0, 8), (10, 3, 12)] f f111 s H locs) (ls : Array Slot) (hl : lv_has ls 3 [(0, .ref v), (1, .ref u0), (2, .int (q_i v111_2))]), W p l e { frames := 1, cells := 0, slots := 0, locals := 21 } s m ([.ref v, .ref u0] : List Value).toArray below meth c H locs 0 0 (MQ below (q_Q g K L [(3, 0, 4), (4, 0, 7), (5, 0, 8), (10, 3, 12)] f (q_Pv (fun (f1 : Nat → va_E) => q_is (q_z f1 v 3) nn ∧ (tk_vn K L 5 f1 v ndv nl9) ∧ (∀ u9 : Nat, u9 ∈ L → K u9 = 10 → u9 ≠ v → q_z f1 u9 3 = q_z f u9 3) ∧ (∀ a9 : Nat, a9 ∈ L → K a9 = 5 → (∀ i9 : Nat, i9 < 10 → a9 ≠ q_r f ndv i9) → q_j f1 a9 0 = q_j f a9 0)))) ([.ref v, .ref u0] : List Value).toArray s 0 0 (fun q => q ∈ L)) (F0 m 111 ls []) := by
    intro n
    induction n with
    | zero =>
      intro f111 v111_2 lv111_2 uv111_2 hj_u0_3 hj_v_3 hq_v_0 hq_u0_0 hiv111 ho0111 ho3111 hrv111 hvp111 hvq111 hmu
      exact absurd hmu (Nat.not_lt_zero _)
    | succ n ih111 =>
      intro f111 v111_2 lv111_2 uv111_2 hj_u0_3 hj_v_3 hq_v_0 hq_u0_0 hiv111 ho0111 ho3111 hrv111 hvp111 hvq111 hmu H locs hB ls hl
      refine q_ild_n cx dX10_copyFrom_111 rfl (lv_at hl 2 rfl) ?_
      refine q_ald_n cx dX10_copyFrom_112 rfl (lv_at hl 0 rfl) ?_
      obtain ⟨x1273, ex1273⟩ : ∃ zz, q_is (q_z f111 v 4) zz := ⟨_, q_isr _⟩
      refine q_gX10_39 cx hB hv kv ex1273 dX10_copyFrom_113 (fun lb1274 ub1274 => ?_)
      refine q_icge (tgt := 138) cx ⟨by omega, by omega⟩ ⟨by omega, by omega⟩ dX10_copyFrom_116 (by decide) (fun c1275 => ?_) (fun c1275 => ?_)
      · refine q_iconst cx dX10_copyFrom_138 ?_
        refine lv_istore_n (lv' := [(2, .int (q_i 0)), (0, .ref v), (1, .ref u0)]) cx.1 cx.2.1 dX10_copyFrom_139 rfl hl (by decide) rfl (fun ls hl => ?_)
        exact J140 ((Int.toNat (2147483647 - 0)) + 1) f111 0 (by decide) (by decide) hj_u0_3 hj_v_3 hq_v_0 hq_u0_0 hiv111 ho0111 ho3111 hrv111 hvp111 hvq111 (Nat.lt_succ_self _) H locs hB ls (lv_sub hl [1, 2, 0] rfl)
      · refine q_ald_n cx dX10_copyFrom_119 rfl (lv_at hl 0 rfl) ?_
        refine q_ild_n cx dX10_copyFrom_120 rfl (lv_at hl 2 rfl) ?_
        refine q_cVr (As := [.int (q_i v111_2)]) (rest := []) cx hB (fun _ h => h) hN hv kv (by decide) rfl (g_X10_linkAt l g hN hB.2.1 v hv kv v111_2 (by omega) (by omega)) q_cX10_74 q_dX10_linkAt (by decide) rfl rfl hl.1 rfl (Nat.le_of_ble_eq_true rfl) dX10_copyFrom_121 (fun y1277 H locs f1276 h1278 hF hB => ?_)
        obtain ⟨rfl, hy1277, ky1277⟩ := h1278
        refine q_ald_n cx dX10_copyFrom_124 rfl (lv_at hl 1 rfl) ?_
        refine q_ild_n cx dX10_copyFrom_125 rfl (lv_at hl 2 rfl) ?_
        refine q_cVr (As := [.int (q_i v111_2)]) (rest := [.ref y1277]) cx hB (fun _ h => h) hN hu0 ku0 (by decide) rfl (g_X10_linkAt_1 l g hN hB.2.1 u0 hu0 ku0 v111_2 (by omega) (by omega)) q_cX10_74 q_dX10_linkAt (by decide) rfl rfl hl.1 rfl (Nat.le_of_ble_eq_true rfl) dX10_copyFrom_126 (fun y1280 H locs f1279 h1281 hF hB => ?_)
        obtain ⟨rfl, hy1280, ky1280⟩ := h1281
        refine q_cVv (As := [.ref y1280]) (rest := []) cx hB (fun _ h => h) hN hy1277 ky1277 (by decide) rfl (g_X3_copyFrom_01 l g hN hB.2.1 y1277 hy1277 ky1277 y1280 hy1280 ky1280) q_cX10_78 q_dX3_copyFrom (by decide) rfl rfl hl.1 rfl (Nat.le_of_ble_eq_true rfl) dX10_copyFrom_129 (fun H locs f1282 h1284 hF hB => ?_)
        have z1285 : q_is (q_z f1282 u0 3) nn := Eq.trans (hF.z hu0 (by rw [ku0]; rfl)) hj_u0_3
        have z1286 : q_is (q_z f1282 v 3) nn := Eq.trans (hF.z hv (by rw [kv]; rfl)) hj_v_3
        have z1287 : q_is (q_z f1282 v 4) x1273 := Eq.trans (hF.z hv (by rw [kv]; rfl)) ex1273
        have z1288 : q_ir (q_r f1282 v 0) ndv := Eq.trans (hF.r hv (by rw [kv]; rfl)) hq_v_0
        have z1289 : q_ir (q_r f1282 u0 0) ndp := Eq.trans (hF.r hu0 (by rw [ku0]; rfl)) hq_u0_0
        have g1290 : tk_vn K L 17 f1282 u0 ndp nl9 := tk_vn_tr hvp111 (hF.z hu0 (by rw [ku0]; rfl)) (fun a9 h9 k9 => hF.j h9 (by rw [k9]; rfl)) (fun i9 => hF.r hndp (by rw [kndp]; rfl))
        have g1291 : tk_ik K L 5 f1282 ndv := tk_ik_tr hiv111 (fun i9 => hF.r hndv (by rw [kndv]; rfl))
        have g1292 : ∀ i9 : Nat, q_r f1282 ndv i9 = q_r f ndv i9 := tk_rv_tr hrv111 (fun i9 => hF.r hndv (by rw [kndv]; rfl))
        have g1293 : ∀ u9 : Nat, u9 ∈ L → K u9 = 10 → u9 ≠ v → q_z f1282 u9 3 = q_z f u9 3 := tk_o3_tr ho3111 (fun a9 h9 k9 n9 => hF.z h9 (by rw [k9]; rfl))
        have g1294 : ∀ a9 : Nat, a9 ∈ L → K a9 = 5 → (∀ i9 : Nat, i9 < 10 → a9 ≠ q_r f ndv i9) → q_j f1282 a9 0 = q_j f a9 0 := tk_o0_tr ho0111 (fun a9 h9 k9 => hF.j h9 (by rw [k9]; rfl))
        have g1295 : tk_vn K L 5 f1282 v ndv nl9 := tk_vn_tr hvq111 (hF.z hv (by rw [kv]; rfl)) (fun a9 h9 k9 => hF.j h9 (by rw [k9]; rfl)) (fun i9 => hF.r hndv (by rw [kndv]; rfl))
        refine q_iinc (lv' := [(2, .int (q_i (v111_2 + 1))), (0, .ref v), (1, .ref u0)]) cx dX10_copyFrom_132 hl (k := 2) rfl (by decide) rfl (fun ls hl => ?_)
        refine lv_goto (tgt := 111) cx.1 cx.2.1 dX10_copyFrom_135 (by decide) ?_
        exact ih111 f1282 (v111_2 + 1) (by omega) (by omega) z1285 z1286 z1288 z1289 g1291 g1294 g1293 g1292 g1290 g1295 (by omega) H locs hB ls (lv_sub hl [1, 2, 0] rfl)
  have J82 : ∀ (n : Nat) (f82 : Nat → va_E) (v82_2 : Int) (lv82_2 : 0 ≤ v82_2) (uv82_2 : v82_2 ≤ 10) (hj_u0_3 : q_is (q_z f82 u0 3) nn) (hj_v_3 : q_is (q_z f82 v 3) nn) (hq_v_0 : q_ir (q_r f82 v 0) ndv) (hq_u0_0 : q_ir (q_r f82 u0 0) ndp) (hiv82 : tk_ik K L 5 f82 ndv) (ho082 : ∀ a9 : Nat, a9 ∈ L → K a9 = 5 → (∀ i9 : Nat, i9 < 10 → a9 ≠ q_r f ndv i9) → q_j f82 a9 0 = q_j f a9 0) (ho382 : ∀ u9 : Nat, u9 ∈ L → K u9 = 10 → u9 ≠ v → q_z f82 u9 3 = q_z f u9 3) (hrv82 : ∀ i9 : Nat, q_r f82 ndv i9 = q_r f ndv i9) (hvp82 : tk_vn K L 17 f82 u0 ndp nl9) (hcp : ∀ j : Nat, (j : Int) < v82_2 → q_j f82 (q_r f82 ndv j) 0 = tk_cw (nl9.getD j [])) (hmu : (Int.toNat (2147483647 - v82_2)) < n) (H : Heap) (locs : List Loc) (hB : q_B g K L (fun q => q ∈ L) [(3, 0, 4), (4, 0, 7), (5, 0, 8), (10, 3, 12)] f f82 s H locs) (ls : Array Slot) (hl : lv_has ls 3 [(0, .ref v), (1, .ref u0), (2, .int (q_i v82_2))]), W p l e { frames := 1, cells := 0, slots := 0, locals := 21 } s m ([.ref v, .ref u0] : List Value).toArray below meth c H locs 0 0 (MQ below (q_Q g K L [(3, 0, 4), (4, 0, 7), (5, 0, 8), (10, 3, 12)] f (q_Pv (fun (f1 : Nat → va_E) => q_is (q_z f1 v 3) nn ∧ (tk_vn K L 5 f1 v ndv nl9) ∧ (∀ u9 : Nat, u9 ∈ L → K u9 = 10 → u9 ≠ v → q_z f1 u9 3 = q_z f u9 3) ∧ (∀ a9 : Nat, a9 ∈ L → K a9 = 5 → (∀ i9 : Nat, i9 < 10 → a9 ≠ q_r f ndv i9) → q_j f1 a9 0 = q_j f a9 0)))) ([.ref v, .ref u0] : List Value).toArray s 0 0 (fun q => q ∈ L)) (F0 m 82 ls []) := by
    intro n
    induction n with
    | zero =>
      intro f82 v82_2 lv82_2 uv82_2 hj_u0_3 hj_v_3 hq_v_0 hq_u0_0 hiv82 ho082 ho382 hrv82 hvp82 hcp hmu
      exact absurd hmu (Nat.not_lt_zero _)
    | succ n ih82 =>
      intro f82 v82_2 lv82_2 uv82_2 hj_u0_3 hj_v_3 hq_v_0 hq_u0_0 hiv82 ho082 ho382 hrv82 hvp82 hcp hmu H locs hB ls hl
      refine q_ild_n cx dX10_copyFrom_82 rfl (lv_at hl 2 rfl) ?_
      refine q_ald_n cx dX10_copyFrom_83 rfl (lv_at hl 0 rfl) ?_
      refine q_gX10_35 cx hB hv kv hj_v_3 dX10_copyFrom_84 (fun lb1296 ub1296 => ?_)
      refine q_icge (tgt := 109) cx ⟨by omega, by omega⟩ ⟨by omega, by omega⟩ dX10_copyFrom_87 (by decide) (fun c1297 => ?_) (fun c1297 => ?_)
      · have hvq9 : tk_vn K L 5 f82 v ndv nl9 := tk_vn_mk hiv82 hj_v_3 hvp82 hj_u0_3 hcp (by omega)
        refine q_iconst cx dX10_copyFrom_109 ?_
        refine lv_istore_n (lv' := [(2, .int (q_i 0)), (0, .ref v), (1, .ref u0)]) cx.1 cx.2.1 dX10_copyFrom_110 rfl hl (by decide) rfl (fun ls hl => ?_)
        exact J111 ((Int.toNat (2147483647 - 0)) + 1) f82 0 (by decide) (by decide) hj_u0_3 hj_v_3 hq_v_0 hq_u0_0 hiv82 ho082 ho382 hrv82 hvp82 hvq9 (Nat.lt_succ_self _) H locs hB ls (lv_sub hl [1, 2, 0] rfl)
      · refine q_ald_n cx dX10_copyFrom_90 rfl (lv_at hl 0 rfl) ?_
        refine q_ild_n cx dX10_copyFrom_91 rfl (lv_at hl 2 rfl) ?_
        refine q_cVr (As := [.int (q_i v82_2)]) (rest := []) cx hB (fun _ h => h) hN hv kv (by decide) rfl (f_nodeAt0 l g hN hB.2.1 v hv kv v82_2 (by omega) (by omega) ndv hndv kndv hq_v_0) q_cX10_66 q_dX10_nodeAt (by decide) rfl rfl hl.1 rfl (Nat.le_of_ble_eq_true rfl) dX10_copyFrom_92 (fun y1299 H locs f1298 h1300 hF hB => ?_)
        obtain ⟨rfl, hy1299, ky1299, t1301⟩ := h1300
        refine q_ald_n cx dX10_copyFrom_95 rfl (lv_at hl 1 rfl) ?_
        refine q_ild_n cx dX10_copyFrom_96 rfl (lv_at hl 2 rfl) ?_
        refine q_cVr (As := [.int (q_i v82_2)]) (rest := [.ref y1299]) cx hB (fun _ h => h) hN hu0 ku0 (by decide) rfl (f_nodeAt1 l g hN hB.2.1 u0 hu0 ku0 v82_2 (by omega) (by omega) ndp hndp kndp hq_u0_0) q_cX10_66 q_dX10_nodeAt (by decide) rfl rfl hl.1 rfl (Nat.le_of_ble_eq_true rfl) dX10_copyFrom_97 (fun y1303 H locs f1302 h1304 hF hB => ?_)
        obtain ⟨rfl, hy1303, ky1303, t1305⟩ := h1304
        refine q_cVv (As := [.ref y1303]) (rest := []) cx hB (fun _ h => h) hN hy1299 ky1299 (by decide) rfl (f_ncopy01 l g hN hB.2.1 y1299 hy1299 ky1299 y1303 hy1303 ky1303) q_cX10_70 q_dX5_copyFrom (by decide) rfl rfl hl.1 rfl (Nat.le_of_ble_eq_true rfl) dX10_copyFrom_100 (fun H locs f1306 h1308 hF hB => ?_)
        obtain ⟨t1309, t1310⟩ := h1308
        have z1311 : q_is (q_z f1306 u0 3) nn := Eq.trans (hF.z hu0 (by rw [ku0]; rfl)) hj_u0_3
        have z1312 : q_is (q_z f1306 v 3) nn := Eq.trans (hF.z hv (by rw [kv]; rfl)) hj_v_3
        have z1313 : q_ir (q_r f1306 v 0) ndv := Eq.trans (hF.r hv (by rw [kv]; rfl)) hq_v_0
        have z1314 : q_ir (q_r f1306 u0 0) ndp := Eq.trans (hF.r hu0 (by rw [ku0]; rfl)) hq_u0_0
        have g1315 : tk_vn K L 17 f1306 u0 ndp nl9 := tk_vn_tr hvp82 (hF.z hu0 (by rw [ku0]; rfl)) (fun a9 h9 k9 => hF.j h9 (by rw [k9]; rfl)) (fun i9 => hF.r hndp (by rw [kndp]; rfl))
        have g1316 : tk_ik K L 5 f1306 ndv := tk_ik_tr hiv82 (fun i9 => hF.r hndv (by rw [kndv]; rfl))
        have g1317 : ∀ i9 : Nat, q_r f1306 ndv i9 = q_r f ndv i9 := tk_rv_tr hrv82 (fun i9 => hF.r hndv (by rw [kndv]; rfl))
        have g1318 : ∀ u9 : Nat, u9 ∈ L → K u9 = 10 → u9 ≠ v → q_z f1306 u9 3 = q_z f u9 3 := tk_o3_tr ho382 (fun a9 h9 k9 n9 => hF.z h9 (by rw [k9]; rfl))
        have hcp9 := tk_cp_step hcp hvp82 hiv82 (by omega) (by have h7 := tk_vn_nn hvp82 hj_u0_3; omega) t1301 t1305 t1309 t1310 (fun i9 => hF.r hndv (by rw [kndv]; rfl))
        have ho09 : ∀ a9 : Nat, a9 ∈ L → K a9 = 5 → (∀ i9 : Nat, i9 < 10 → a9 ≠ q_r f ndv i9) → q_j f1306 a9 0 = q_j f a9 0 := tk_o0_st ho082 hrv82 (by omega) (by omega) t1301 t1310
        refine q_iinc (lv' := [(2, .int (q_i (v82_2 + 1))), (0, .ref v), (1, .ref u0)]) cx dX10_copyFrom_103 hl (k := 2) rfl (by decide) rfl (fun ls hl => ?_)
        refine lv_goto (tgt := 82) cx.1 cx.2.1 dX10_copyFrom_106 (by decide) ?_
        exact ih82 f1306 (v82_2 + 1) (by omega) (by omega) z1311 z1312 z1313 z1314 g1316 ho09 g1318 g1317 g1315 hcp9 (by omega) H locs hB ls (lv_sub hl [1, 2, 0] rfl)
  obtain ⟨H, hH⟩ : ∃ H : Heap, H = s.heap := ⟨_, rfl⟩
  obtain ⟨locs, hlocs⟩ : ∃ z : List Loc, z = [] := ⟨_, rfl⟩
  rw [← hH, ← hlocs] at hB
  rw [← hH, ← hlocs]
  have g1319 : tk_vn K L 17 f u0 ndp nl9 := hp0
  have g1320 : tk_ik K L 5 f ndv := hp1
  have g1321 : ∀ i9 : Nat, q_r f ndv i9 = q_r f ndv i9 := fun _ => rfl
  have g1322 : ∀ u9 : Nat, u9 ∈ L → K u9 = 10 → u9 ≠ v → q_z f u9 3 = q_z f u9 3 := fun _ _ _ _ => rfl
  have g1323 : ∀ a9 : Nat, a9 ∈ L → K a9 = 5 → (∀ i9 : Nat, i9 < 10 → a9 ≠ q_r f ndv i9) → q_j f a9 0 = q_j f a9 0 := fun _ _ _ _ => rfl
  refine q_ald_n cx dX10_copyFrom_0 rfl (lv_at hl 0 rfl) ?_
  refine q_ald_n cx dX10_copyFrom_1 rfl (lv_at hl 1 rfl) ?_
  refine q_gX10_35_13 cx hB hu0 ku0 hf0 dX10_copyFrom_2 (fun lb1324 ub1324 => ?_)
  refine q_pX10_35 cx hB hv kv ⟨by omega, by omega⟩ (by omega) (by omega) rfl dX10_copyFrom_5 (fun H locs f1325 ef1325 z1326 hB => ?_)
  have z1327 : q_is (q_z f1325 u0 3) nn := by rw [ef1325, q_setz (Or.inl (fun q => by rw [q, kv] at ku0; exact absurd ku0 (by decide)))]; exact hf0
  have z1328 : q_ir (q_r f1325 v 0) ndv := by rw [ef1325, q_setr (Or.inr (by decide))]; exact hr0
  have z1329 : q_ir (q_r f1325 u0 0) ndp := by rw [ef1325, q_setr (Or.inr (by decide))]; exact hr1
  have g1330 : tk_vn K L 17 f1325 u0 ndp nl9 := tk_vn_tr g1319 (by rw [ef1325, q_setz (Or.inl (fun q => by rw [q, kv] at ku0; exact absurd ku0 (by decide)))]) (fun a9 h9 k9 => by rw [ef1325, q_setj (Or.inl (fun q => by rw [q, kv] at k9; exact absurd k9 (by decide)))]) (fun i9 => by rw [ef1325, q_setr (Or.inl (fun q => by rw [q, kv] at kndp; exact absurd kndp (by decide)))])
  have g1331 : tk_ik K L 5 f1325 ndv := tk_ik_tr g1320 (fun i9 => by rw [ef1325, q_setr (Or.inl (fun q => by rw [q, kv] at kndv; exact absurd kndv (by decide)))])
  have g1332 : ∀ i9 : Nat, q_r f1325 ndv i9 = q_r f ndv i9 := tk_rv_tr g1321 (fun i9 => by rw [ef1325, q_setr (Or.inl (fun q => by rw [q, kv] at kndv; exact absurd kndv (by decide)))])
  have g1333 : ∀ u9 : Nat, u9 ∈ L → K u9 = 10 → u9 ≠ v → q_z f1325 u9 3 = q_z f u9 3 := tk_o3_tr g1322 (fun a9 h9 k9 n9 => by rw [ef1325, q_setz (Or.inl n9)])
  have g1334 : ∀ a9 : Nat, a9 ∈ L → K a9 = 5 → (∀ i9 : Nat, i9 < 10 → a9 ≠ q_r f ndv i9) → q_j f1325 a9 0 = q_j f a9 0 := tk_o0_tr g1323 (fun a9 h9 k9 => by rw [ef1325, q_setj (Or.inl (fun q => by rw [q, kv] at k9; exact absurd k9 (by decide)))])
  refine q_ald_n cx dX10_copyFrom_8 rfl (lv_at hl 0 rfl) ?_
  refine q_ald_n cx dX10_copyFrom_9 rfl (lv_at hl 1 rfl) ?_
  obtain ⟨x1335, ex1335⟩ : ∃ zz, q_is (q_z f1325 u0 4) zz := ⟨_, q_isr _⟩
  refine q_gX10_39_13 cx hB hu0 ku0 ex1335 dX10_copyFrom_10 (fun lb1336 ub1336 => ?_)
  refine q_pX10_39 cx hB hv kv ⟨by omega, by omega⟩ (by omega) (by omega) rfl dX10_copyFrom_13 (fun H locs f1337 ef1337 z1338 hB => ?_)
  have z1339 : q_is (q_z f1337 u0 3) nn := by rw [ef1337, q_setz (Or.inr (by decide))]; exact z1327
  have z1340 : q_is (q_z f1337 v 3) nn := by rw [ef1337, q_setz (Or.inr (by decide))]; exact z1326
  have z1341 : q_is (q_z f1337 u0 4) x1335 := by rw [ef1337, q_setz (Or.inl (fun q => by rw [q, kv] at ku0; exact absurd ku0 (by decide)))]; exact ex1335
  have z1342 : q_ir (q_r f1337 v 0) ndv := by rw [ef1337, q_setr (Or.inr (by decide))]; exact z1328
  have z1343 : q_ir (q_r f1337 u0 0) ndp := by rw [ef1337, q_setr (Or.inr (by decide))]; exact z1329
  have g1344 : tk_vn K L 17 f1337 u0 ndp nl9 := tk_vn_tr g1330 (by rw [ef1337, q_setz (Or.inr (by decide))]) (fun a9 h9 k9 => by rw [ef1337, q_setj (Or.inl (fun q => by rw [q, kv] at k9; exact absurd k9 (by decide)))]) (fun i9 => by rw [ef1337, q_setr (Or.inl (fun q => by rw [q, kv] at kndp; exact absurd kndp (by decide)))])
  have g1345 : tk_ik K L 5 f1337 ndv := tk_ik_tr g1331 (fun i9 => by rw [ef1337, q_setr (Or.inl (fun q => by rw [q, kv] at kndv; exact absurd kndv (by decide)))])
  have g1346 : ∀ i9 : Nat, q_r f1337 ndv i9 = q_r f ndv i9 := tk_rv_tr g1332 (fun i9 => by rw [ef1337, q_setr (Or.inl (fun q => by rw [q, kv] at kndv; exact absurd kndv (by decide)))])
  have g1347 : ∀ u9 : Nat, u9 ∈ L → K u9 = 10 → u9 ≠ v → q_z f1337 u9 3 = q_z f u9 3 := tk_o3_tr g1333 (fun a9 h9 k9 n9 => by rw [ef1337, q_setz (Or.inr (by decide))])
  have g1348 : ∀ a9 : Nat, a9 ∈ L → K a9 = 5 → (∀ i9 : Nat, i9 < 10 → a9 ≠ q_r f ndv i9) → q_j f1337 a9 0 = q_j f a9 0 := tk_o0_tr g1334 (fun a9 h9 k9 => by rw [ef1337, q_setj (Or.inl (fun q => by rw [q, kv] at k9; exact absurd k9 (by decide)))])
  refine q_ald_n cx dX10_copyFrom_16 rfl (lv_at hl 0 rfl) ?_
  refine q_ald_n cx dX10_copyFrom_17 rfl (lv_at hl 1 rfl) ?_
  obtain ⟨x1349, ex1349⟩ : ∃ zz, q_is (q_z f1337 u0 5) zz := ⟨_, q_isr _⟩
  refine q_gX10_42_13 cx hB hu0 ku0 ex1349 dX10_copyFrom_18 (fun lb1350 ub1350 => ?_)
  refine q_pX10_42 cx hB hv kv ⟨by omega, by omega⟩ (by omega) (by omega) rfl dX10_copyFrom_21 (fun H locs f1351 ef1351 z1352 hB => ?_)
  have z1353 : q_is (q_z f1351 u0 3) nn := by rw [ef1351, q_setz (Or.inr (by decide))]; exact z1339
  have z1354 : q_is (q_z f1351 v 3) nn := by rw [ef1351, q_setz (Or.inr (by decide))]; exact z1340
  have z1355 : q_is (q_z f1351 u0 4) x1335 := by rw [ef1351, q_setz (Or.inr (by decide))]; exact z1341
  have z1356 : q_is (q_z f1351 v 4) x1335 := by rw [ef1351, q_setz (Or.inr (by decide))]; exact z1338
  have z1357 : q_is (q_z f1351 u0 5) x1349 := by rw [ef1351, q_setz (Or.inl (fun q => by rw [q, kv] at ku0; exact absurd ku0 (by decide)))]; exact ex1349
  have z1358 : q_ir (q_r f1351 v 0) ndv := by rw [ef1351, q_setr (Or.inr (by decide))]; exact z1342
  have z1359 : q_ir (q_r f1351 u0 0) ndp := by rw [ef1351, q_setr (Or.inr (by decide))]; exact z1343
  have g1360 : tk_vn K L 17 f1351 u0 ndp nl9 := tk_vn_tr g1344 (by rw [ef1351, q_setz (Or.inr (by decide))]) (fun a9 h9 k9 => by rw [ef1351, q_setj (Or.inl (fun q => by rw [q, kv] at k9; exact absurd k9 (by decide)))]) (fun i9 => by rw [ef1351, q_setr (Or.inl (fun q => by rw [q, kv] at kndp; exact absurd kndp (by decide)))])
  have g1361 : tk_ik K L 5 f1351 ndv := tk_ik_tr g1345 (fun i9 => by rw [ef1351, q_setr (Or.inl (fun q => by rw [q, kv] at kndv; exact absurd kndv (by decide)))])
  have g1362 : ∀ i9 : Nat, q_r f1351 ndv i9 = q_r f ndv i9 := tk_rv_tr g1346 (fun i9 => by rw [ef1351, q_setr (Or.inl (fun q => by rw [q, kv] at kndv; exact absurd kndv (by decide)))])
  have g1363 : ∀ u9 : Nat, u9 ∈ L → K u9 = 10 → u9 ≠ v → q_z f1351 u9 3 = q_z f u9 3 := tk_o3_tr g1347 (fun a9 h9 k9 n9 => by rw [ef1351, q_setz (Or.inr (by decide))])
  have g1364 : ∀ a9 : Nat, a9 ∈ L → K a9 = 5 → (∀ i9 : Nat, i9 < 10 → a9 ≠ q_r f ndv i9) → q_j f1351 a9 0 = q_j f a9 0 := tk_o0_tr g1348 (fun a9 h9 k9 => by rw [ef1351, q_setj (Or.inl (fun q => by rw [q, kv] at k9; exact absurd k9 (by decide)))])
  refine q_ald_n cx dX10_copyFrom_24 rfl (lv_at hl 0 rfl) ?_
  refine q_ald_n cx dX10_copyFrom_25 rfl (lv_at hl 1 rfl) ?_
  obtain ⟨x1365, ex1365⟩ : ∃ zz, q_is (q_z f1351 u0 6) zz := ⟨_, q_isr _⟩
  refine q_gX10_45_13 cx hB hu0 ku0 ex1365 dX10_copyFrom_26 (fun lb1366 ub1366 => ?_)
  refine q_pX10_45 cx hB hv kv ⟨by omega, by omega⟩ (by omega) (by omega) rfl dX10_copyFrom_29 (fun H locs f1367 ef1367 z1368 hB => ?_)
  have z1369 : q_is (q_z f1367 u0 3) nn := by rw [ef1367, q_setz (Or.inr (by decide))]; exact z1353
  have z1370 : q_is (q_z f1367 v 3) nn := by rw [ef1367, q_setz (Or.inr (by decide))]; exact z1354
  have z1371 : q_is (q_z f1367 u0 4) x1335 := by rw [ef1367, q_setz (Or.inr (by decide))]; exact z1355
  have z1372 : q_is (q_z f1367 v 4) x1335 := by rw [ef1367, q_setz (Or.inr (by decide))]; exact z1356
  have z1373 : q_is (q_z f1367 u0 5) x1349 := by rw [ef1367, q_setz (Or.inr (by decide))]; exact z1357
  have z1374 : q_is (q_z f1367 v 5) x1349 := by rw [ef1367, q_setz (Or.inr (by decide))]; exact z1352
  have z1375 : q_is (q_z f1367 u0 6) x1365 := by rw [ef1367, q_setz (Or.inl (fun q => by rw [q, kv] at ku0; exact absurd ku0 (by decide)))]; exact ex1365
  have z1376 : q_ir (q_r f1367 v 0) ndv := by rw [ef1367, q_setr (Or.inr (by decide))]; exact z1358
  have z1377 : q_ir (q_r f1367 u0 0) ndp := by rw [ef1367, q_setr (Or.inr (by decide))]; exact z1359
  have g1378 : tk_vn K L 17 f1367 u0 ndp nl9 := tk_vn_tr g1360 (by rw [ef1367, q_setz (Or.inr (by decide))]) (fun a9 h9 k9 => by rw [ef1367, q_setj (Or.inl (fun q => by rw [q, kv] at k9; exact absurd k9 (by decide)))]) (fun i9 => by rw [ef1367, q_setr (Or.inl (fun q => by rw [q, kv] at kndp; exact absurd kndp (by decide)))])
  have g1379 : tk_ik K L 5 f1367 ndv := tk_ik_tr g1361 (fun i9 => by rw [ef1367, q_setr (Or.inl (fun q => by rw [q, kv] at kndv; exact absurd kndv (by decide)))])
  have g1380 : ∀ i9 : Nat, q_r f1367 ndv i9 = q_r f ndv i9 := tk_rv_tr g1362 (fun i9 => by rw [ef1367, q_setr (Or.inl (fun q => by rw [q, kv] at kndv; exact absurd kndv (by decide)))])
  have g1381 : ∀ u9 : Nat, u9 ∈ L → K u9 = 10 → u9 ≠ v → q_z f1367 u9 3 = q_z f u9 3 := tk_o3_tr g1363 (fun a9 h9 k9 n9 => by rw [ef1367, q_setz (Or.inr (by decide))])
  have g1382 : ∀ a9 : Nat, a9 ∈ L → K a9 = 5 → (∀ i9 : Nat, i9 < 10 → a9 ≠ q_r f ndv i9) → q_j f1367 a9 0 = q_j f a9 0 := tk_o0_tr g1364 (fun a9 h9 k9 => by rw [ef1367, q_setj (Or.inl (fun q => by rw [q, kv] at k9; exact absurd k9 (by decide)))])
  refine q_ald_n cx dX10_copyFrom_32 rfl (lv_at hl 0 rfl) ?_
  refine q_ald_n cx dX10_copyFrom_33 rfl (lv_at hl 1 rfl) ?_
  obtain ⟨x1383, ex1383⟩ : ∃ zz, q_is (q_z f1367 u0 7) zz := ⟨_, q_isr _⟩
  refine q_gX10_48_13 cx hB hu0 ku0 ex1383 dX10_copyFrom_34 (fun lb1384 ub1384 => ?_)
  refine q_pX10_48 cx hB hv kv ⟨by omega, by omega⟩ (by omega) (by omega) rfl dX10_copyFrom_37 (fun H locs f1385 ef1385 z1386 hB => ?_)
  have z1387 : q_is (q_z f1385 u0 3) nn := by rw [ef1385, q_setz (Or.inr (by decide))]; exact z1369
  have z1388 : q_is (q_z f1385 v 3) nn := by rw [ef1385, q_setz (Or.inr (by decide))]; exact z1370
  have z1389 : q_is (q_z f1385 u0 4) x1335 := by rw [ef1385, q_setz (Or.inr (by decide))]; exact z1371
  have z1390 : q_is (q_z f1385 v 4) x1335 := by rw [ef1385, q_setz (Or.inr (by decide))]; exact z1372
  have z1391 : q_is (q_z f1385 u0 5) x1349 := by rw [ef1385, q_setz (Or.inr (by decide))]; exact z1373
  have z1392 : q_is (q_z f1385 v 5) x1349 := by rw [ef1385, q_setz (Or.inr (by decide))]; exact z1374
  have z1393 : q_is (q_z f1385 u0 6) x1365 := by rw [ef1385, q_setz (Or.inr (by decide))]; exact z1375
  have z1394 : q_is (q_z f1385 v 6) x1365 := by rw [ef1385, q_setz (Or.inr (by decide))]; exact z1368
  have z1395 : q_is (q_z f1385 u0 7) x1383 := by rw [ef1385, q_setz (Or.inl (fun q => by rw [q, kv] at ku0; exact absurd ku0 (by decide)))]; exact ex1383
  have z1396 : q_ir (q_r f1385 v 0) ndv := by rw [ef1385, q_setr (Or.inr (by decide))]; exact z1376
  have z1397 : q_ir (q_r f1385 u0 0) ndp := by rw [ef1385, q_setr (Or.inr (by decide))]; exact z1377
  have g1398 : tk_vn K L 17 f1385 u0 ndp nl9 := tk_vn_tr g1378 (by rw [ef1385, q_setz (Or.inr (by decide))]) (fun a9 h9 k9 => by rw [ef1385, q_setj (Or.inl (fun q => by rw [q, kv] at k9; exact absurd k9 (by decide)))]) (fun i9 => by rw [ef1385, q_setr (Or.inl (fun q => by rw [q, kv] at kndp; exact absurd kndp (by decide)))])
  have g1399 : tk_ik K L 5 f1385 ndv := tk_ik_tr g1379 (fun i9 => by rw [ef1385, q_setr (Or.inl (fun q => by rw [q, kv] at kndv; exact absurd kndv (by decide)))])
  have g1400 : ∀ i9 : Nat, q_r f1385 ndv i9 = q_r f ndv i9 := tk_rv_tr g1380 (fun i9 => by rw [ef1385, q_setr (Or.inl (fun q => by rw [q, kv] at kndv; exact absurd kndv (by decide)))])
  have g1401 : ∀ u9 : Nat, u9 ∈ L → K u9 = 10 → u9 ≠ v → q_z f1385 u9 3 = q_z f u9 3 := tk_o3_tr g1381 (fun a9 h9 k9 n9 => by rw [ef1385, q_setz (Or.inr (by decide))])
  have g1402 : ∀ a9 : Nat, a9 ∈ L → K a9 = 5 → (∀ i9 : Nat, i9 < 10 → a9 ≠ q_r f ndv i9) → q_j f1385 a9 0 = q_j f a9 0 := tk_o0_tr g1382 (fun a9 h9 k9 => by rw [ef1385, q_setj (Or.inl (fun q => by rw [q, kv] at k9; exact absurd k9 (by decide)))])
  refine q_ald_n cx dX10_copyFrom_40 rfl (lv_at hl 0 rfl) ?_
  refine q_ald_n cx dX10_copyFrom_41 rfl (lv_at hl 1 rfl) ?_
  obtain ⟨x1403, ex1403⟩ : ∃ zz, q_is (q_z f1385 u0 8) zz := ⟨_, q_isr _⟩
  refine q_gX10_51_13 cx hB hu0 ku0 ex1403 dX10_copyFrom_42 (fun lb1404 ub1404 => ?_)
  refine q_pX10_51 cx hB hv kv ⟨by omega, by omega⟩ (by omega) (by omega) rfl dX10_copyFrom_45 (fun H locs f1405 ef1405 z1406 hB => ?_)
  have z1407 : q_is (q_z f1405 u0 3) nn := by rw [ef1405, q_setz (Or.inr (by decide))]; exact z1387
  have z1408 : q_is (q_z f1405 v 3) nn := by rw [ef1405, q_setz (Or.inr (by decide))]; exact z1388
  have z1409 : q_is (q_z f1405 u0 4) x1335 := by rw [ef1405, q_setz (Or.inr (by decide))]; exact z1389
  have z1410 : q_is (q_z f1405 v 4) x1335 := by rw [ef1405, q_setz (Or.inr (by decide))]; exact z1390
  have z1411 : q_is (q_z f1405 u0 5) x1349 := by rw [ef1405, q_setz (Or.inr (by decide))]; exact z1391
  have z1412 : q_is (q_z f1405 v 5) x1349 := by rw [ef1405, q_setz (Or.inr (by decide))]; exact z1392
  have z1413 : q_is (q_z f1405 u0 6) x1365 := by rw [ef1405, q_setz (Or.inr (by decide))]; exact z1393
  have z1414 : q_is (q_z f1405 v 6) x1365 := by rw [ef1405, q_setz (Or.inr (by decide))]; exact z1394
  have z1415 : q_is (q_z f1405 u0 7) x1383 := by rw [ef1405, q_setz (Or.inr (by decide))]; exact z1395
  have z1416 : q_is (q_z f1405 v 7) x1383 := by rw [ef1405, q_setz (Or.inr (by decide))]; exact z1386
  have z1417 : q_is (q_z f1405 u0 8) x1403 := by rw [ef1405, q_setz (Or.inl (fun q => by rw [q, kv] at ku0; exact absurd ku0 (by decide)))]; exact ex1403
  have z1418 : q_ir (q_r f1405 v 0) ndv := by rw [ef1405, q_setr (Or.inr (by decide))]; exact z1396
  have z1419 : q_ir (q_r f1405 u0 0) ndp := by rw [ef1405, q_setr (Or.inr (by decide))]; exact z1397
  have g1420 : tk_vn K L 17 f1405 u0 ndp nl9 := tk_vn_tr g1398 (by rw [ef1405, q_setz (Or.inr (by decide))]) (fun a9 h9 k9 => by rw [ef1405, q_setj (Or.inl (fun q => by rw [q, kv] at k9; exact absurd k9 (by decide)))]) (fun i9 => by rw [ef1405, q_setr (Or.inl (fun q => by rw [q, kv] at kndp; exact absurd kndp (by decide)))])
  have g1421 : tk_ik K L 5 f1405 ndv := tk_ik_tr g1399 (fun i9 => by rw [ef1405, q_setr (Or.inl (fun q => by rw [q, kv] at kndv; exact absurd kndv (by decide)))])
  have g1422 : ∀ i9 : Nat, q_r f1405 ndv i9 = q_r f ndv i9 := tk_rv_tr g1400 (fun i9 => by rw [ef1405, q_setr (Or.inl (fun q => by rw [q, kv] at kndv; exact absurd kndv (by decide)))])
  have g1423 : ∀ u9 : Nat, u9 ∈ L → K u9 = 10 → u9 ≠ v → q_z f1405 u9 3 = q_z f u9 3 := tk_o3_tr g1401 (fun a9 h9 k9 n9 => by rw [ef1405, q_setz (Or.inr (by decide))])
  have g1424 : ∀ a9 : Nat, a9 ∈ L → K a9 = 5 → (∀ i9 : Nat, i9 < 10 → a9 ≠ q_r f ndv i9) → q_j f1405 a9 0 = q_j f a9 0 := tk_o0_tr g1402 (fun a9 h9 k9 => by rw [ef1405, q_setj (Or.inl (fun q => by rw [q, kv] at k9; exact absurd k9 (by decide)))])
  refine q_ald_n cx dX10_copyFrom_48 rfl (lv_at hl 0 rfl) ?_
  refine q_ald_n cx dX10_copyFrom_49 rfl (lv_at hl 1 rfl) ?_
  obtain ⟨x1425, ex1425⟩ : ∃ zz, q_is (q_z f1405 u0 9) zz := ⟨_, q_isr _⟩
  refine q_gX10_54_13 cx hB hu0 ku0 ex1425 dX10_copyFrom_50 (fun lb1426 ub1426 => ?_)
  refine q_pX10_54 cx hB hv kv ⟨by omega, by omega⟩ (by omega) (by omega) rfl dX10_copyFrom_53 (fun H locs f1427 ef1427 z1428 hB => ?_)
  have z1429 : q_is (q_z f1427 u0 3) nn := by rw [ef1427, q_setz (Or.inr (by decide))]; exact z1407
  have z1430 : q_is (q_z f1427 v 3) nn := by rw [ef1427, q_setz (Or.inr (by decide))]; exact z1408
  have z1431 : q_is (q_z f1427 u0 4) x1335 := by rw [ef1427, q_setz (Or.inr (by decide))]; exact z1409
  have z1432 : q_is (q_z f1427 v 4) x1335 := by rw [ef1427, q_setz (Or.inr (by decide))]; exact z1410
  have z1433 : q_is (q_z f1427 u0 5) x1349 := by rw [ef1427, q_setz (Or.inr (by decide))]; exact z1411
  have z1434 : q_is (q_z f1427 v 5) x1349 := by rw [ef1427, q_setz (Or.inr (by decide))]; exact z1412
  have z1435 : q_is (q_z f1427 u0 6) x1365 := by rw [ef1427, q_setz (Or.inr (by decide))]; exact z1413
  have z1436 : q_is (q_z f1427 v 6) x1365 := by rw [ef1427, q_setz (Or.inr (by decide))]; exact z1414
  have z1437 : q_is (q_z f1427 u0 7) x1383 := by rw [ef1427, q_setz (Or.inr (by decide))]; exact z1415
  have z1438 : q_is (q_z f1427 v 7) x1383 := by rw [ef1427, q_setz (Or.inr (by decide))]; exact z1416
  have z1439 : q_is (q_z f1427 u0 8) x1403 := by rw [ef1427, q_setz (Or.inr (by decide))]; exact z1417
  have z1440 : q_is (q_z f1427 v 8) x1403 := by rw [ef1427, q_setz (Or.inr (by decide))]; exact z1406
  have z1441 : q_is (q_z f1427 u0 9) x1425 := by rw [ef1427, q_setz (Or.inl (fun q => by rw [q, kv] at ku0; exact absurd ku0 (by decide)))]; exact ex1425
  have z1442 : q_ir (q_r f1427 v 0) ndv := by rw [ef1427, q_setr (Or.inr (by decide))]; exact z1418
  have z1443 : q_ir (q_r f1427 u0 0) ndp := by rw [ef1427, q_setr (Or.inr (by decide))]; exact z1419
  have g1444 : tk_vn K L 17 f1427 u0 ndp nl9 := tk_vn_tr g1420 (by rw [ef1427, q_setz (Or.inr (by decide))]) (fun a9 h9 k9 => by rw [ef1427, q_setj (Or.inl (fun q => by rw [q, kv] at k9; exact absurd k9 (by decide)))]) (fun i9 => by rw [ef1427, q_setr (Or.inl (fun q => by rw [q, kv] at kndp; exact absurd kndp (by decide)))])
  have g1445 : tk_ik K L 5 f1427 ndv := tk_ik_tr g1421 (fun i9 => by rw [ef1427, q_setr (Or.inl (fun q => by rw [q, kv] at kndv; exact absurd kndv (by decide)))])
  have g1446 : ∀ i9 : Nat, q_r f1427 ndv i9 = q_r f ndv i9 := tk_rv_tr g1422 (fun i9 => by rw [ef1427, q_setr (Or.inl (fun q => by rw [q, kv] at kndv; exact absurd kndv (by decide)))])
  have g1447 : ∀ u9 : Nat, u9 ∈ L → K u9 = 10 → u9 ≠ v → q_z f1427 u9 3 = q_z f u9 3 := tk_o3_tr g1423 (fun a9 h9 k9 n9 => by rw [ef1427, q_setz (Or.inr (by decide))])
  have g1448 : ∀ a9 : Nat, a9 ∈ L → K a9 = 5 → (∀ i9 : Nat, i9 < 10 → a9 ≠ q_r f ndv i9) → q_j f1427 a9 0 = q_j f a9 0 := tk_o0_tr g1424 (fun a9 h9 k9 => by rw [ef1427, q_setj (Or.inl (fun q => by rw [q, kv] at k9; exact absurd k9 (by decide)))])
  refine q_ald_n cx dX10_copyFrom_56 rfl (lv_at hl 0 rfl) ?_
  refine q_ald_n cx dX10_copyFrom_57 rfl (lv_at hl 1 rfl) ?_
  obtain ⟨x1449, ex1449⟩ : ∃ zz, q_is (q_z f1427 u0 10) zz := ⟨_, q_isr _⟩
  refine q_gX10_57_13 cx hB hu0 ku0 ex1449 dX10_copyFrom_58 (fun lb1450 ub1450 => ?_)
  refine q_pX10_57 cx hB hv kv ⟨by omega, by omega⟩ (by omega) (by omega) rfl dX10_copyFrom_61 (fun H locs f1451 ef1451 z1452 hB => ?_)
  have z1453 : q_is (q_z f1451 u0 3) nn := by rw [ef1451, q_setz (Or.inr (by decide))]; exact z1429
  have z1454 : q_is (q_z f1451 v 3) nn := by rw [ef1451, q_setz (Or.inr (by decide))]; exact z1430
  have z1455 : q_is (q_z f1451 u0 4) x1335 := by rw [ef1451, q_setz (Or.inr (by decide))]; exact z1431
  have z1456 : q_is (q_z f1451 v 4) x1335 := by rw [ef1451, q_setz (Or.inr (by decide))]; exact z1432
  have z1457 : q_is (q_z f1451 u0 5) x1349 := by rw [ef1451, q_setz (Or.inr (by decide))]; exact z1433
  have z1458 : q_is (q_z f1451 v 5) x1349 := by rw [ef1451, q_setz (Or.inr (by decide))]; exact z1434
  have z1459 : q_is (q_z f1451 u0 6) x1365 := by rw [ef1451, q_setz (Or.inr (by decide))]; exact z1435
  have z1460 : q_is (q_z f1451 v 6) x1365 := by rw [ef1451, q_setz (Or.inr (by decide))]; exact z1436
  have z1461 : q_is (q_z f1451 u0 7) x1383 := by rw [ef1451, q_setz (Or.inr (by decide))]; exact z1437
  have z1462 : q_is (q_z f1451 v 7) x1383 := by rw [ef1451, q_setz (Or.inr (by decide))]; exact z1438
  have z1463 : q_is (q_z f1451 u0 8) x1403 := by rw [ef1451, q_setz (Or.inr (by decide))]; exact z1439
  have z1464 : q_is (q_z f1451 v 8) x1403 := by rw [ef1451, q_setz (Or.inr (by decide))]; exact z1440
  have z1465 : q_is (q_z f1451 u0 9) x1425 := by rw [ef1451, q_setz (Or.inr (by decide))]; exact z1441
  have z1466 : q_is (q_z f1451 v 9) x1425 := by rw [ef1451, q_setz (Or.inr (by decide))]; exact z1428
  have z1467 : q_is (q_z f1451 u0 10) x1449 := by rw [ef1451, q_setz (Or.inl (fun q => by rw [q, kv] at ku0; exact absurd ku0 (by decide)))]; exact ex1449
  have z1468 : q_ir (q_r f1451 v 0) ndv := by rw [ef1451, q_setr (Or.inr (by decide))]; exact z1442
  have z1469 : q_ir (q_r f1451 u0 0) ndp := by rw [ef1451, q_setr (Or.inr (by decide))]; exact z1443
  have g1470 : tk_vn K L 17 f1451 u0 ndp nl9 := tk_vn_tr g1444 (by rw [ef1451, q_setz (Or.inr (by decide))]) (fun a9 h9 k9 => by rw [ef1451, q_setj (Or.inl (fun q => by rw [q, kv] at k9; exact absurd k9 (by decide)))]) (fun i9 => by rw [ef1451, q_setr (Or.inl (fun q => by rw [q, kv] at kndp; exact absurd kndp (by decide)))])
  have g1471 : tk_ik K L 5 f1451 ndv := tk_ik_tr g1445 (fun i9 => by rw [ef1451, q_setr (Or.inl (fun q => by rw [q, kv] at kndv; exact absurd kndv (by decide)))])
  have g1472 : ∀ i9 : Nat, q_r f1451 ndv i9 = q_r f ndv i9 := tk_rv_tr g1446 (fun i9 => by rw [ef1451, q_setr (Or.inl (fun q => by rw [q, kv] at kndv; exact absurd kndv (by decide)))])
  have g1473 : ∀ u9 : Nat, u9 ∈ L → K u9 = 10 → u9 ≠ v → q_z f1451 u9 3 = q_z f u9 3 := tk_o3_tr g1447 (fun a9 h9 k9 n9 => by rw [ef1451, q_setz (Or.inr (by decide))])
  have g1474 : ∀ a9 : Nat, a9 ∈ L → K a9 = 5 → (∀ i9 : Nat, i9 < 10 → a9 ≠ q_r f ndv i9) → q_j f1451 a9 0 = q_j f a9 0 := tk_o0_tr g1448 (fun a9 h9 k9 => by rw [ef1451, q_setj (Or.inl (fun q => by rw [q, kv] at k9; exact absurd k9 (by decide)))])
  refine q_ald_n cx dX10_copyFrom_64 rfl (lv_at hl 0 rfl) ?_
  refine q_ald_n cx dX10_copyFrom_65 rfl (lv_at hl 1 rfl) ?_
  obtain ⟨x1475, ex1475⟩ : ∃ zz, q_is (q_z f1451 u0 11) zz := ⟨_, q_isr _⟩
  refine q_gX10_60_13 cx hB hu0 ku0 ex1475 dX10_copyFrom_66 (fun lb1476 ub1476 => ?_)
  refine q_pX10_60 cx hB hv kv ⟨by omega, by omega⟩ (by omega) (by omega) rfl dX10_copyFrom_69 (fun H locs f1477 ef1477 z1478 hB => ?_)
  have z1479 : q_is (q_z f1477 u0 3) nn := by rw [ef1477, q_setz (Or.inr (by decide))]; exact z1453
  have z1480 : q_is (q_z f1477 v 3) nn := by rw [ef1477, q_setz (Or.inr (by decide))]; exact z1454
  have z1481 : q_is (q_z f1477 u0 4) x1335 := by rw [ef1477, q_setz (Or.inr (by decide))]; exact z1455
  have z1482 : q_is (q_z f1477 v 4) x1335 := by rw [ef1477, q_setz (Or.inr (by decide))]; exact z1456
  have z1483 : q_is (q_z f1477 u0 5) x1349 := by rw [ef1477, q_setz (Or.inr (by decide))]; exact z1457
  have z1484 : q_is (q_z f1477 v 5) x1349 := by rw [ef1477, q_setz (Or.inr (by decide))]; exact z1458
  have z1485 : q_is (q_z f1477 u0 6) x1365 := by rw [ef1477, q_setz (Or.inr (by decide))]; exact z1459
  have z1486 : q_is (q_z f1477 v 6) x1365 := by rw [ef1477, q_setz (Or.inr (by decide))]; exact z1460
  have z1487 : q_is (q_z f1477 u0 7) x1383 := by rw [ef1477, q_setz (Or.inr (by decide))]; exact z1461
  have z1488 : q_is (q_z f1477 v 7) x1383 := by rw [ef1477, q_setz (Or.inr (by decide))]; exact z1462
  have z1489 : q_is (q_z f1477 u0 8) x1403 := by rw [ef1477, q_setz (Or.inr (by decide))]; exact z1463
  have z1490 : q_is (q_z f1477 v 8) x1403 := by rw [ef1477, q_setz (Or.inr (by decide))]; exact z1464
  have z1491 : q_is (q_z f1477 u0 9) x1425 := by rw [ef1477, q_setz (Or.inr (by decide))]; exact z1465
  have z1492 : q_is (q_z f1477 v 9) x1425 := by rw [ef1477, q_setz (Or.inr (by decide))]; exact z1466
  have z1493 : q_is (q_z f1477 u0 10) x1449 := by rw [ef1477, q_setz (Or.inr (by decide))]; exact z1467
  have z1494 : q_is (q_z f1477 v 10) x1449 := by rw [ef1477, q_setz (Or.inr (by decide))]; exact z1452
  have z1495 : q_is (q_z f1477 u0 11) x1475 := by rw [ef1477, q_setz (Or.inl (fun q => by rw [q, kv] at ku0; exact absurd ku0 (by decide)))]; exact ex1475
  have z1496 : q_ir (q_r f1477 v 0) ndv := by rw [ef1477, q_setr (Or.inr (by decide))]; exact z1468
  have z1497 : q_ir (q_r f1477 u0 0) ndp := by rw [ef1477, q_setr (Or.inr (by decide))]; exact z1469
  have g1498 : tk_vn K L 17 f1477 u0 ndp nl9 := tk_vn_tr g1470 (by rw [ef1477, q_setz (Or.inr (by decide))]) (fun a9 h9 k9 => by rw [ef1477, q_setj (Or.inl (fun q => by rw [q, kv] at k9; exact absurd k9 (by decide)))]) (fun i9 => by rw [ef1477, q_setr (Or.inl (fun q => by rw [q, kv] at kndp; exact absurd kndp (by decide)))])
  have g1499 : tk_ik K L 5 f1477 ndv := tk_ik_tr g1471 (fun i9 => by rw [ef1477, q_setr (Or.inl (fun q => by rw [q, kv] at kndv; exact absurd kndv (by decide)))])
  have g1500 : ∀ i9 : Nat, q_r f1477 ndv i9 = q_r f ndv i9 := tk_rv_tr g1472 (fun i9 => by rw [ef1477, q_setr (Or.inl (fun q => by rw [q, kv] at kndv; exact absurd kndv (by decide)))])
  have g1501 : ∀ u9 : Nat, u9 ∈ L → K u9 = 10 → u9 ≠ v → q_z f1477 u9 3 = q_z f u9 3 := tk_o3_tr g1473 (fun a9 h9 k9 n9 => by rw [ef1477, q_setz (Or.inr (by decide))])
  have g1502 : ∀ a9 : Nat, a9 ∈ L → K a9 = 5 → (∀ i9 : Nat, i9 < 10 → a9 ≠ q_r f ndv i9) → q_j f1477 a9 0 = q_j f a9 0 := tk_o0_tr g1474 (fun a9 h9 k9 => by rw [ef1477, q_setj (Or.inl (fun q => by rw [q, kv] at k9; exact absurd k9 (by decide)))])
  refine q_ald_n cx dX10_copyFrom_72 rfl (lv_at hl 0 rfl) ?_
  refine q_ald_n cx dX10_copyFrom_73 rfl (lv_at hl 1 rfl) ?_
  obtain ⟨x1503, ex1503⟩ : ∃ zz, q_is (q_z f1477 u0 12) zz := ⟨_, q_isr _⟩
  refine q_gX10_63_13 cx hB hu0 ku0 ex1503 dX10_copyFrom_74 (fun lb1504 ub1504 => ?_)
  refine q_pX10_63 cx hB hv kv ⟨by omega, by omega⟩ (by omega) (by omega) rfl dX10_copyFrom_77 (fun H locs f1505 ef1505 z1506 hB => ?_)
  have z1507 : q_is (q_z f1505 u0 3) nn := by rw [ef1505, q_setz (Or.inr (by decide))]; exact z1479
  have z1508 : q_is (q_z f1505 v 3) nn := by rw [ef1505, q_setz (Or.inr (by decide))]; exact z1480
  have z1509 : q_is (q_z f1505 u0 4) x1335 := by rw [ef1505, q_setz (Or.inr (by decide))]; exact z1481
  have z1510 : q_is (q_z f1505 v 4) x1335 := by rw [ef1505, q_setz (Or.inr (by decide))]; exact z1482
  have z1511 : q_is (q_z f1505 u0 5) x1349 := by rw [ef1505, q_setz (Or.inr (by decide))]; exact z1483
  have z1512 : q_is (q_z f1505 v 5) x1349 := by rw [ef1505, q_setz (Or.inr (by decide))]; exact z1484
  have z1513 : q_is (q_z f1505 u0 6) x1365 := by rw [ef1505, q_setz (Or.inr (by decide))]; exact z1485
  have z1514 : q_is (q_z f1505 v 6) x1365 := by rw [ef1505, q_setz (Or.inr (by decide))]; exact z1486
  have z1515 : q_is (q_z f1505 u0 7) x1383 := by rw [ef1505, q_setz (Or.inr (by decide))]; exact z1487
  have z1516 : q_is (q_z f1505 v 7) x1383 := by rw [ef1505, q_setz (Or.inr (by decide))]; exact z1488
  have z1517 : q_is (q_z f1505 u0 8) x1403 := by rw [ef1505, q_setz (Or.inr (by decide))]; exact z1489
  have z1518 : q_is (q_z f1505 v 8) x1403 := by rw [ef1505, q_setz (Or.inr (by decide))]; exact z1490
  have z1519 : q_is (q_z f1505 u0 9) x1425 := by rw [ef1505, q_setz (Or.inr (by decide))]; exact z1491
  have z1520 : q_is (q_z f1505 v 9) x1425 := by rw [ef1505, q_setz (Or.inr (by decide))]; exact z1492
  have z1521 : q_is (q_z f1505 u0 10) x1449 := by rw [ef1505, q_setz (Or.inr (by decide))]; exact z1493
  have z1522 : q_is (q_z f1505 v 10) x1449 := by rw [ef1505, q_setz (Or.inr (by decide))]; exact z1494
  have z1523 : q_is (q_z f1505 u0 11) x1475 := by rw [ef1505, q_setz (Or.inr (by decide))]; exact z1495
  have z1524 : q_is (q_z f1505 v 11) x1475 := by rw [ef1505, q_setz (Or.inr (by decide))]; exact z1478
  have z1525 : q_is (q_z f1505 u0 12) x1503 := by rw [ef1505, q_setz (Or.inl (fun q => by rw [q, kv] at ku0; exact absurd ku0 (by decide)))]; exact ex1503
  have z1526 : q_ir (q_r f1505 v 0) ndv := by rw [ef1505, q_setr (Or.inr (by decide))]; exact z1496
  have z1527 : q_ir (q_r f1505 u0 0) ndp := by rw [ef1505, q_setr (Or.inr (by decide))]; exact z1497
  have g1528 : tk_vn K L 17 f1505 u0 ndp nl9 := tk_vn_tr g1498 (by rw [ef1505, q_setz (Or.inr (by decide))]) (fun a9 h9 k9 => by rw [ef1505, q_setj (Or.inl (fun q => by rw [q, kv] at k9; exact absurd k9 (by decide)))]) (fun i9 => by rw [ef1505, q_setr (Or.inl (fun q => by rw [q, kv] at kndp; exact absurd kndp (by decide)))])
  have g1529 : tk_ik K L 5 f1505 ndv := tk_ik_tr g1499 (fun i9 => by rw [ef1505, q_setr (Or.inl (fun q => by rw [q, kv] at kndv; exact absurd kndv (by decide)))])
  have g1530 : ∀ i9 : Nat, q_r f1505 ndv i9 = q_r f ndv i9 := tk_rv_tr g1500 (fun i9 => by rw [ef1505, q_setr (Or.inl (fun q => by rw [q, kv] at kndv; exact absurd kndv (by decide)))])
  have g1531 : ∀ u9 : Nat, u9 ∈ L → K u9 = 10 → u9 ≠ v → q_z f1505 u9 3 = q_z f u9 3 := tk_o3_tr g1501 (fun a9 h9 k9 n9 => by rw [ef1505, q_setz (Or.inr (by decide))])
  have g1532 : ∀ a9 : Nat, a9 ∈ L → K a9 = 5 → (∀ i9 : Nat, i9 < 10 → a9 ≠ q_r f ndv i9) → q_j f1505 a9 0 = q_j f a9 0 := tk_o0_tr g1502 (fun a9 h9 k9 => by rw [ef1505, q_setj (Or.inl (fun q => by rw [q, kv] at k9; exact absurd k9 (by decide)))])
  refine q_iconst cx dX10_copyFrom_80 ?_
  refine lv_istore_n (lv' := [(2, .int (q_i 0)), (0, .ref v), (1, .ref u0)]) cx.1 cx.2.1 dX10_copyFrom_81 rfl hl (by decide) rfl (fun ls hl => ?_)
  exact J82 ((Int.toNat (2147483647 - 0)) + 1) f1505 0 (by decide) (by decide) z1507 z1508 z1526 z1527 g1529 g1532 g1531 g1530 g1528 (fun j hj => absurd hj (by omega)) (Nat.lt_succ_self _) H locs hB ls (lv_sub hl [1, 2, 0] rfl)
