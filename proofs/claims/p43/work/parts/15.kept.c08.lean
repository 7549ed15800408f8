set_option maxHeartbeats 4000000 in
set_option maxRecDepth 100000 in
theorem f_ncopy80 (l : Launch) (g : q_G) {K : Nat → Nat} {L : List Nat} (hN : L.Nodup) {f : Nat → va_E} (hT : q_Ty g K L f) (d8 : Nat → Nat) (s8 : tw_S) (d0 : Nat → Nat) (s0 : tw_S) (v : Nat) (hv : v ∈ L) (kv : K v = 60) (p0 : Nat) (hp0 : p0 ∈ L) (kp0 : K p0 = 5) (v8 : Nat) (hv8 : v8 ∈ L) (kv8 : K v8 = 54) (n8 : Nat) (hn8 : n8 ∈ L) (kn8 : K n8 = 204) (l8 : Nat) (hl8 : l8 ∈ L) (kl8 : K l8 = 210) (m8 : Nat) (hm8 : m8 ∈ L) (km8 : K m8 = 216) (v0 : Nat) (hv0 : v0 ∈ L) (kv0 : K v0 = 10) (n0 : Nat) (hn0 : n0 ∈ L) (kn0 : K n0 = 110) (l0 : Nat) (hl0 : l0 ∈ L) (kl0 : K l0 = 120) (m0 : Nat) (hm0 : m0 ∈ L) (km0 : K m0 = 130) (li : Int) (lli : 0 ≤ li) (uli : li ≤ 9) (lj : Int) (llj : 0 ≤ lj) (ulj : lj ≤ 9) (hp0 : v = d8 (1 + Int.toNat li)) (hp1 : p0 = d0 (1 + Int.toNat lj)) (hw8 : tw_vw K L 54 60 66 72 f v8 n8 l8 m8 d8 s8) (hw0 : tw_vw K L 10 5 3 4 f v0 n0 l0 m0 d0 s0) (hz8 : tw_nw K L 60 f) (hz0 : tw_nw K L 5 f) : q_Ct l g K L yX5_copyFrom cX5_copyFrom 2 none 0 0 [.ref v, .ref p0] f [(60, 0, 8)] (q_Pv (fun (f1 : Nat → va_E) => (tw_vw K L 54 60 66 72 f1 v8 n8 l8 m8 d8 (tw_cn s8 s0 (1 + Int.toNat li) (1 + Int.toNat lj))) ∧ (tw_nw K L 60 f1))) := by
  refine q_ofb (by decide +kernel) hN hT (Nat.le_of_ble_eq_true rfl) ?_
  intro p e s m below meth c ls cx hr hlk hB hl
  have hl : lv_has ls 2 [(0, .ref v), (1, .ref p0)] := hl
  obtain ⟨H, hH⟩ : ∃ H : Heap, H = s.heap := ⟨_, rfl⟩
  obtain ⟨locs, hlocs⟩ : ∃ z : List Loc, z = [] := ⟨_, rfl⟩
  rw [← hH, ← hlocs] at hB
  rw [← hH, ← hlocs]
  refine q_ald_n cx dX5_copyFrom_0 rfl (lv_at hl 0 rfl) ?_
  refine q_ald_n cx dX5_copyFrom_1 rfl (lv_at hl 1 rfl) ?_
  obtain ⟨j149, ej149⟩ : ∃ zz, q_j f p0 0 = zz := ⟨_, rfl⟩
  refine q_gX5_7 cx hB hp0 kp0 ej149 dX5_copyFrom_2 ?_
  refine q_pX5_7_60 cx hB hv kv rfl dX5_copyFrom_5 (fun H locs f150 ef150 z151 hB => ?_)
  have g152 : tw_vw K L 54 60 66 72 f150 v8 n8 l8 m8 d8 s8 := tw_vw_l hw8 hp0 (by omega) (by omega) (by decide) ef150 (fun i9 => by rw [ef150, q_setr (Or.inl (fun q => by rw [q, kv] at kn8; exact absurd kn8 (by decide)))]) (fun i9 => by rw [ef150, q_setr (Or.inl (fun q => by rw [q, kv] at kl8; exact absurd kl8 (by decide)))]) (fun i9 => by rw [ef150, q_setr (Or.inl (fun q => by rw [q, kv] at km8; exact absurd km8 (by decide)))])
  have g153 : tw_vw K L 10 5 3 4 f150 v0 n0 l0 m0 d0 s0 := tw_vw_tr hw0 (fun a9 h9 k9 c9 => by rw [ef150, q_setz (Or.inl (fun q => by rw [q, kv] at k9; exact absurd k9 (by decide)))]) (fun a9 h9 k9 c9 => by rw [ef150, q_setz (Or.inl (fun q => by rw [q, kv] at k9; exact absurd k9 (by decide)))]) (fun a9 h9 k9 c9 => by rw [ef150, q_setz (Or.inl (fun q => by rw [q, kv] at k9; exact absurd k9 (by decide)))]) (fun a9 h9 k9 c9 => by rw [ef150, q_setz (Or.inl (fun q => by rw [q, kv] at k9; exact absurd k9 (by decide)))]) (fun i9 => by rw [ef150, q_setr (Or.inl (fun q => by rw [q, kv] at kn0; exact absurd kn0 (by decide)))]) (fun i9 => by rw [ef150, q_setr (Or.inl (fun q => by rw [q, kv] at kl0; exact absurd kl0 (by decide)))]) (fun i9 => by rw [ef150, q_setr (Or.inl (fun q => by rw [q, kv] at km0; exact absurd km0 (by decide)))])
  have g154 : tw_nw K L 60 f150 := tw_nw_tr hz8 (fun a9 h9 k9 => by rw [ef150, q_setj (Or.inr (by decide))])
  have g155 : tw_nw K L 5 f150 := tw_nw_tr hz0 (fun a9 h9 k9 => by rw [ef150, q_setj (Or.inl (fun q => by rw [q, kv] at k9; exact absurd k9 (by decide)))])
  refine q_ald_n cx dX5_copyFrom_8 rfl (lv_at hl 0 rfl) ?_
  refine q_ald_n cx dX5_copyFrom_9 rfl (lv_at hl 1 rfl) ?_
  refine q_gX5_13 cx hB hp0 kp0 (hz0 p0 hp0 kp0) dX5_copyFrom_10 ?_
  refine q_pX5_13_60 cx hB hv kv rfl dX5_copyFrom_13 (fun H locs f156 ef156 z157 hB => ?_)
  have z158 : q_j f156 v 0 = j149 := by rw [ef156, q_setj (Or.inr (by decide))]; exact z151
  have z159 : q_j f156 p0 1 = (q_l 0) := by rw [ef156, q_setj (Or.inl (fun q => by rw [q, kv] at kp0; exact absurd kp0 (by decide)))]; exact (hz0 p0 hp0 kp0)
  have g160 : tw_vw K L 54 60 66 72 f156 v8 n8 l8 m8 d8 s8 := tw_vw_l g152 hp0 (by omega) (by omega) (by decide) ef156 (fun i9 => by rw [ef156, q_setr (Or.inl (fun q => by rw [q, kv] at kn8; exact absurd kn8 (by decide)))]) (fun i9 => by rw [ef156, q_setr (Or.inl (fun q => by rw [q, kv] at kl8; exact absurd kl8 (by decide)))]) (fun i9 => by rw [ef156, q_setr (Or.inl (fun q => by rw [q, kv] at km8; exact absurd km8 (by decide)))])
  have g161 : tw_vw K L 10 5 3 4 f156 v0 n0 l0 m0 d0 s0 := tw_vw_tr g153 (fun a9 h9 k9 c9 => by rw [ef156, q_setz (Or.inl (fun q => by rw [q, kv] at k9; exact absurd k9 (by decide)))]) (fun a9 h9 k9 c9 => by rw [ef156, q_setz (Or.inl (fun q => by rw [q, kv] at k9; exact absurd k9 (by decide)))]) (fun a9 h9 k9 c9 => by rw [ef156, q_setz (Or.inl (fun q => by rw [q, kv] at k9; exact absurd k9 (by decide)))]) (fun a9 h9 k9 c9 => by rw [ef156, q_setz (Or.inl (fun q => by rw [q, kv] at k9; exact absurd k9 (by decide)))]) (fun i9 => by rw [ef156, q_setr (Or.inl (fun q => by rw [q, kv] at kn0; exact absurd kn0 (by decide)))]) (fun i9 => by rw [ef156, q_setr (Or.inl (fun q => by rw [q, kv] at kl0; exact absurd kl0 (by decide)))]) (fun i9 => by rw [ef156, q_setr (Or.inl (fun q => by rw [q, kv] at km0; exact absurd km0 (by decide)))])
  have g162 : tw_nw K L 60 f156 := tw_nw_s g154 ef156 z157
  have g163 : tw_nw K L 5 f156 := tw_nw_tr g155 (fun a9 h9 k9 => by rw [ef156, q_setj (Or.inl (fun q => by rw [q, kv] at k9; exact absurd k9 (by decide)))])
  refine q_ald_n cx dX5_copyFrom_16 rfl (lv_at hl 0 rfl) ?_
  refine q_ald_n cx dX5_copyFrom_17 rfl (lv_at hl 1 rfl) ?_
  obtain ⟨x164, ex164⟩ : ∃ zz, q_is (q_z f156 p0 2) zz := ⟨_, q_isr _⟩
  obtain ⟨lx164, ux164⟩ := q_isb ex164 (q_fib hB.2.1 hp0 kp0 (by decide) rfl)
  obtain ⟨x165, ex165, nx165⟩ : ∃ zz, q_is (q_z f156 p0 2) zz ∧ zz = x164 := ⟨_, ex164, rfl⟩
  have sx165 : q_is x165 (s0 (1 + Int.toNat lj) 2) := tw_g g161 hp1 (by omega) (by omega) ex165
  refine q_gX5_16 cx hB hp0 kp0 ex165 dX5_copyFrom_18 (fun lb166 ub166 => ?_)
  refine q_pX5_16_60 cx hB hv kv ⟨by omega, by omega⟩ (by omega) (by omega) rfl dX5_copyFrom_21 (fun H locs f167 ef167 z168 hB => ?_)
  have z169 : q_is (q_z f167 p0 2) x164 := by rw [ef167, q_setz (Or.inl (fun q => by rw [q, kv] at kp0; exact absurd kp0 (by decide)))]; exact ex164
  have z170 : q_j f167 v 0 = j149 := by rw [ef167, q_setj (Or.inr (by decide))]; exact z158
  have z171 : q_j f167 p0 1 = (q_l 0) := by rw [ef167, q_setj (Or.inr (by decide))]; exact z159
  have z172 : q_j f167 v 1 = (q_l 0) := by rw [ef167, q_setj (Or.inr (by decide))]; exact z157
  have g173 : tw_vw K L 54 60 66 72 f167 v8 n8 l8 m8 d8 (tw_u s8 (1 + Int.toNat li) 2 x165) := tw_vw_s g160 hp0 (by omega) (by omega) ef167 z168 (fun i9 => by rw [ef167, q_setr (Or.inl (fun q => by rw [q, kv] at kn8; exact absurd kn8 (by decide)))]) (fun i9 => by rw [ef167, q_setr (Or.inl (fun q => by rw [q, kv] at kl8; exact absurd kl8 (by decide)))]) (fun i9 => by rw [ef167, q_setr (Or.inl (fun q => by rw [q, kv] at km8; exact absurd km8 (by decide)))])
  have g174 : tw_vw K L 10 5 3 4 f167 v0 n0 l0 m0 d0 s0 := tw_vw_tr g161 (fun a9 h9 k9 c9 => by rw [ef167, q_setz (Or.inl (fun q => by rw [q, kv] at k9; exact absurd k9 (by decide)))]) (fun a9 h9 k9 c9 => by rw [ef167, q_setz (Or.inl (fun q => by rw [q, kv] at k9; exact absurd k9 (by decide)))]) (fun a9 h9 k9 c9 => by rw [ef167, q_setz (Or.inl (fun q => by rw [q, kv] at k9; exact absurd k9 (by decide)))]) (fun a9 h9 k9 c9 => by rw [ef167, q_setz (Or.inl (fun q => by rw [q, kv] at k9; exact absurd k9 (by decide)))]) (fun i9 => by rw [ef167, q_setr (Or.inl (fun q => by rw [q, kv] at kn0; exact absurd kn0 (by decide)))]) (fun i9 => by rw [ef167, q_setr (Or.inl (fun q => by rw [q, kv] at kl0; exact absurd kl0 (by decide)))]) (fun i9 => by rw [ef167, q_setr (Or.inl (fun q => by rw [q, kv] at km0; exact absurd km0 (by decide)))])
  have g175 : tw_nw K L 60 f167 := tw_nw_tr g162 (fun a9 h9 k9 => by rw [ef167, q_setj (Or.inr (by decide))])
  have g176 : tw_nw K L 5 f167 := tw_nw_tr g163 (fun a9 h9 k9 => by rw [ef167, q_setj (Or.inl (fun q => by rw [q, kv] at k9; exact absurd k9 (by decide)))])
  refine q_ald_n cx dX5_copyFrom_24 rfl (lv_at hl 0 rfl) ?_
  refine q_ald_n cx dX5_copyFrom_25 rfl (lv_at hl 1 rfl) ?_
  obtain ⟨x177, ex177⟩ : ∃ zz, q_is (q_z f167 p0 3) zz := ⟨_, q_isr _⟩
  obtain ⟨lx177, ux177⟩ := q_isb ex177 (q_fib hB.2.1 hp0 kp0 (by decide) rfl)
  obtain ⟨x178, ex178, nx178⟩ : ∃ zz, q_is (q_z f167 p0 3) zz ∧ zz = x177 := ⟨_, ex177, rfl⟩
  have sx178 : q_is x178 (s0 (1 + Int.toNat lj) 3) := tw_g g174 hp1 (by omega) (by omega) ex178
  refine q_gX5_20 cx hB hp0 kp0 ex178 dX5_copyFrom_26 (fun lb179 ub179 => ?_)
  refine q_pX5_20_60 cx hB hv kv ⟨by omega, by omega⟩ (by omega) (by omega) rfl dX5_copyFrom_29 (fun H locs f180 ef180 z181 hB => ?_)
  have z182 : q_is (q_z f180 p0 2) x164 := by rw [ef180, q_setz (Or.inr (by decide))]; exact z169
  have z183 : q_is (q_z f180 v 2) x165 := by rw [ef180, q_setz (Or.inr (by decide))]; exact z168
  have z184 : q_is (q_z f180 p0 3) x177 := by rw [ef180, q_setz (Or.inl (fun q => by rw [q, kv] at kp0; exact absurd kp0 (by decide)))]; exact ex177
  have z185 : q_j f180 v 0 = j149 := by rw [ef180, q_setj (Or.inr (by decide))]; exact z170
  have z186 : q_j f180 p0 1 = (q_l 0) := by rw [ef180, q_setj (Or.inr (by decide))]; exact z171
  have z187 : q_j f180 v 1 = (q_l 0) := by rw [ef180, q_setj (Or.inr (by decide))]; exact z172
  have g188 : tw_vw K L 54 60 66 72 f180 v8 n8 l8 m8 d8 (tw_u (tw_u s8 (1 + Int.toNat li) 2 x165) (1 + Int.toNat li) 3 x178) := tw_vw_s g173 hp0 (by omega) (by omega) ef180 z181 (fun i9 => by rw [ef180, q_setr (Or.inl (fun q => by rw [q, kv] at kn8; exact absurd kn8 (by decide)))]) (fun i9 => by rw [ef180, q_setr (Or.inl (fun q => by rw [q, kv] at kl8; exact absurd kl8 (by decide)))]) (fun i9 => by rw [ef180, q_setr (Or.inl (fun q => by rw [q, kv] at km8; exact absurd km8 (by decide)))])
  have g189 : tw_vw K L 10 5 3 4 f180 v0 n0 l0 m0 d0 s0 := tw_vw_tr g174 (fun a9 h9 k9 c9 => by rw [ef180, q_setz (Or.inl (fun q => by rw [q, kv] at k9; exact absurd k9 (by decide)))]) (fun a9 h9 k9 c9 => by rw [ef180, q_setz (Or.inl (fun q => by rw [q, kv] at k9; exact absurd k9 (by decide)))]) (fun a9 h9 k9 c9 => by rw [ef180, q_setz (Or.inl (fun q => by rw [q, kv] at k9; exact absurd k9 (by decide)))]) (fun a9 h9 k9 c9 => by rw [ef180, q_setz (Or.inl (fun q => by rw [q, kv] at k9; exact absurd k9 (by decide)))]) (fun i9 => by rw [ef180, q_setr (Or.inl (fun q => by rw [q, kv] at kn0; exact absurd kn0 (by decide)))]) (fun i9 => by rw [ef180, q_setr (Or.inl (fun q => by rw [q, kv] at kl0; exact absurd kl0 (by decide)))]) (fun i9 => by rw [ef180, q_setr (Or.inl (fun q => by rw [q, kv] at km0; exact absurd km0 (by decide)))])
  have g190 : tw_nw K L 60 f180 := tw_nw_tr g175 (fun a9 h9 k9 => by rw [ef180, q_setj (Or.inr (by decide))])
  have g191 : tw_nw K L 5 f180 := tw_nw_tr g176 (fun a9 h9 k9 => by rw [ef180, q_setj (Or.inl (fun q => by rw [q, kv] at k9; exact absurd k9 (by decide)))])
  refine q_ald_n cx dX5_copyFrom_32 rfl (lv_at hl 0 rfl) ?_
  refine q_ald_n cx dX5_copyFrom_33 rfl (lv_at hl 1 rfl) ?_
  obtain ⟨x192, ex192⟩ : ∃ zz, q_is (q_z f180 p0 4) zz := ⟨_, q_isr _⟩
  obtain ⟨lx192, ux192⟩ := q_isb ex192 (q_fib hB.2.1 hp0 kp0 (by decide) rfl)
  obtain ⟨x193, ex193, nx193⟩ : ∃ zz, q_is (q_z f180 p0 4) zz ∧ zz = x192 := ⟨_, ex192, rfl⟩
  have sx193 : q_is x193 (s0 (1 + Int.toNat lj) 4) := tw_g g189 hp1 (by omega) (by omega) ex193
  refine q_gX5_23 cx hB hp0 kp0 ex193 dX5_copyFrom_34 (fun lb194 ub194 => ?_)
  refine q_pX5_23_60 cx hB hv kv ⟨by omega, by omega⟩ (by omega) (by omega) rfl dX5_copyFrom_37 (fun H locs f195 ef195 z196 hB => ?_)
  have z197 : q_is (q_z f195 p0 2) x164 := by rw [ef195, q_setz (Or.inr (by decide))]; exact z182
  have z198 : q_is (q_z f195 v 2) x165 := by rw [ef195, q_setz (Or.inr (by decide))]; exact z183
  have z199 : q_is (q_z f195 p0 3) x177 := by rw [ef195, q_setz (Or.inr (by decide))]; exact z184
  have z200 : q_is (q_z f195 v 3) x178 := by rw [ef195, q_setz (Or.inr (by decide))]; exact z181
  have z201 : q_is (q_z f195 p0 4) x192 := by rw [ef195, q_setz (Or.inl (fun q => by rw [q, kv] at kp0; exact absurd kp0 (by decide)))]; exact ex192
  have z202 : q_j f195 v 0 = j149 := by rw [ef195, q_setj (Or.inr (by decide))]; exact z185
  have z203 : q_j f195 p0 1 = (q_l 0) := by rw [ef195, q_setj (Or.inr (by decide))]; exact z186
  have z204 : q_j f195 v 1 = (q_l 0) := by rw [ef195, q_setj (Or.inr (by decide))]; exact z187
  have g205 : tw_vw K L 54 60 66 72 f195 v8 n8 l8 m8 d8 (tw_u (tw_u (tw_u s8 (1 + Int.toNat li) 2 x165) (1 + Int.toNat li) 3 x178) (1 + Int.toNat li) 4 x193) := tw_vw_s g188 hp0 (by omega) (by omega) ef195 z196 (fun i9 => by rw [ef195, q_setr (Or.inl (fun q => by rw [q, kv] at kn8; exact absurd kn8 (by decide)))]) (fun i9 => by rw [ef195, q_setr (Or.inl (fun q => by rw [q, kv] at kl8; exact absurd kl8 (by decide)))]) (fun i9 => by rw [ef195, q_setr (Or.inl (fun q => by rw [q, kv] at km8; exact absurd km8 (by decide)))])
  have g206 : tw_vw K L 10 5 3 4 f195 v0 n0 l0 m0 d0 s0 := tw_vw_tr g189 (fun a9 h9 k9 c9 => by rw [ef195, q_setz (Or.inl (fun q => by rw [q, kv] at k9; exact absurd k9 (by decide)))]) (fun a9 h9 k9 c9 => by rw [ef195, q_setz (Or.inl (fun q => by rw [q, kv] at k9; exact absurd k9 (by decide)))]) (fun a9 h9 k9 c9 => by rw [ef195, q_setz (Or.inl (fun q => by rw [q, kv] at k9; exact absurd k9 (by decide)))]) (fun a9 h9 k9 c9 => by rw [ef195, q_setz (Or.inl (fun q => by rw [q, kv] at k9; exact absurd k9 (by decide)))]) (fun i9 => by rw [ef195, q_setr (Or.inl (fun q => by rw [q, kv] at kn0; exact absurd kn0 (by decide)))]) (fun i9 => by rw [ef195, q_setr (Or.inl (fun q => by rw [q, kv] at kl0; exact absurd kl0 (by decide)))]) (fun i9 => by rw [ef195, q_setr (Or.inl (fun q => by rw [q, kv] at km0; exact absurd km0 (by decide)))])
  have g207 : tw_nw K L 60 f195 := tw_nw_tr g190 (fun a9 h9 k9 => by rw [ef195, q_setj (Or.inr (by decide))])
  have g208 : tw_nw K L 5 f195 := tw_nw_tr g191 (fun a9 h9 k9 => by rw [ef195, q_setj (Or.inl (fun q => by rw [q, kv] at k9; exact absurd k9 (by decide)))])
  refine q_ald_n cx dX5_copyFrom_40 rfl (lv_at hl 0 rfl) ?_
  refine q_ald_n cx dX5_copyFrom_41 rfl (lv_at hl 1 rfl) ?_
  obtain ⟨x209, ex209⟩ : ∃ zz, q_is (q_z f195 p0 5) zz := ⟨_, q_isr _⟩
  obtain ⟨lx209, ux209⟩ := q_isb ex209 (q_fib hB.2.1 hp0 kp0 (by decide) rfl)
  obtain ⟨x210, ex210, nx210⟩ : ∃ zz, q_is (q_z f195 p0 5) zz ∧ zz = x209 := ⟨_, ex209, rfl⟩
  have sx210 : q_is x210 (s0 (1 + Int.toNat lj) 5) := tw_g g206 hp1 (by omega) (by omega) ex210
  refine q_gX5_26 cx hB hp0 kp0 ex210 dX5_copyFrom_42 (fun lb211 ub211 => ?_)
  refine q_pX5_26_60 cx hB hv kv ⟨by omega, by omega⟩ (by omega) (by omega) rfl dX5_copyFrom_45 (fun H locs f212 ef212 z213 hB => ?_)
  have z214 : q_is (q_z f212 p0 2) x164 := by rw [ef212, q_setz (Or.inr (by decide))]; exact z197
  have z215 : q_is (q_z f212 v 2) x165 := by rw [ef212, q_setz (Or.inr (by decide))]; exact z198
  have z216 : q_is (q_z f212 p0 3) x177 := by rw [ef212, q_setz (Or.inr (by decide))]; exact z199
  have z217 : q_is (q_z f212 v 3) x178 := by rw [ef212, q_setz (Or.inr (by decide))]; exact z200
  have z218 : q_is (q_z f212 p0 4) x192 := by rw [ef212, q_setz (Or.inr (by decide))]; exact z201
  have z219 : q_is (q_z f212 v 4) x193 := by rw [ef212, q_setz (Or.inr (by decide))]; exact z196
  have z220 : q_is (q_z f212 p0 5) x209 := by rw [ef212, q_setz (Or.inl (fun q => by rw [q, kv] at kp0; exact absurd kp0 (by decide)))]; exact ex209
  have z221 : q_j f212 v 0 = j149 := by rw [ef212, q_setj (Or.inr (by decide))]; exact z202
  have z222 : q_j f212 p0 1 = (q_l 0) := by rw [ef212, q_setj (Or.inr (by decide))]; exact z203
  have z223 : q_j f212 v 1 = (q_l 0) := by rw [ef212, q_setj (Or.inr (by decide))]; exact z204
  have g224 : tw_vw K L 54 60 66 72 f212 v8 n8 l8 m8 d8 (tw_u (tw_u (tw_u (tw_u s8 (1 + Int.toNat li) 2 x165) (1 + Int.toNat li) 3 x178) (1 + Int.toNat li) 4 x193) (1 + Int.toNat li) 5 x210) := tw_vw_s g205 hp0 (by omega) (by omega) ef212 z213 (fun i9 => by rw [ef212, q_setr (Or.inl (fun q => by rw [q, kv] at kn8; exact absurd kn8 (by decide)))]) (fun i9 => by rw [ef212, q_setr (Or.inl (fun q => by rw [q, kv] at kl8; exact absurd kl8 (by decide)))]) (fun i9 => by rw [ef212, q_setr (Or.inl (fun q => by rw [q, kv] at km8; exact absurd km8 (by decide)))])
  have g225 : tw_vw K L 10 5 3 4 f212 v0 n0 l0 m0 d0 s0 := tw_vw_tr g206 (fun a9 h9 k9 c9 => by rw [ef212, q_setz (Or.inl (fun q => by rw [q, kv] at k9; exact absurd k9 (by decide)))]) (fun a9 h9 k9 c9 => by rw [ef212, q_setz (Or.inl (fun q => by rw [q, kv] at k9; exact absurd k9 (by decide)))]) (fun a9 h9 k9 c9 => by rw [ef212, q_setz (Or.inl (fun q => by rw [q, kv] at k9; exact absurd k9 (by decide)))]) (fun a9 h9 k9 c9 => by rw [ef212, q_setz (Or.inl (fun q => by rw [q, kv] at k9; exact absurd k9 (by decide)))]) (fun i9 => by rw [ef212, q_setr (Or.inl (fun q => by rw [q, kv] at kn0; exact absurd kn0 (by decide)))]) (fun i9 => by rw [ef212, q_setr (Or.inl (fun q => by rw [q, kv] at kl0; exact absurd kl0 (by decide)))]) (fun i9 => by rw [ef212, q_setr (Or.inl (fun q => by rw [q, kv] at km0; exact absurd km0 (by decide)))])
  have g226 : tw_nw K L 60 f212 := tw_nw_tr g207 (fun a9 h9 k9 => by rw [ef212, q_setj (Or.inr (by decide))])
  have g227 : tw_nw K L 5 f212 := tw_nw_tr g208 (fun a9 h9 k9 => by rw [ef212, q_setj (Or.inl (fun q => by rw [q, kv] at k9; exact absurd k9 (by decide)))])
  refine q_ald_n cx dX5_copyFrom_48 rfl (lv_at hl 0 rfl) ?_
  refine q_ald_n cx dX5_copyFrom_49 rfl (lv_at hl 1 rfl) ?_
  obtain ⟨x228, ex228⟩ : ∃ zz, q_is (q_z f212 p0 6) zz := ⟨_, q_isr _⟩
  obtain ⟨lx228, ux228⟩ := q_isb ex228 (q_fib hB.2.1 hp0 kp0 (by decide) rfl)
  obtain ⟨x229, ex229, nx229⟩ : ∃ zz, q_is (q_z f212 p0 6) zz ∧ zz = x228 := ⟨_, ex228, rfl⟩
  have sx229 : q_is x229 (s0 (1 + Int.toNat lj) 6) := tw_g g225 hp1 (by omega) (by omega) ex229
  refine q_gX5_29 cx hB hp0 kp0 ex229 dX5_copyFrom_50 (fun lb230 ub230 => ?_)
  refine q_pX5_29_60 cx hB hv kv ⟨by omega, by omega⟩ (by omega) (by omega) rfl dX5_copyFrom_53 (fun H locs f231 ef231 z232 hB => ?_)
  have z233 : q_is (q_z f231 p0 2) x164 := by rw [ef231, q_setz (Or.inr (by decide))]; exact z214
  have z234 : q_is (q_z f231 v 2) x165 := by rw [ef231, q_setz (Or.inr (by decide))]; exact z215
  have z235 : q_is (q_z f231 p0 3) x177 := by rw [ef231, q_setz (Or.inr (by decide))]; exact z216
  have z236 : q_is (q_z f231 v 3) x178 := by rw [ef231, q_setz (Or.inr (by decide))]; exact z217
  have z237 : q_is (q_z f231 p0 4) x192 := by rw [ef231, q_setz (Or.inr (by decide))]; exact z218
  have z238 : q_is (q_z f231 v 4) x193 := by rw [ef231, q_setz (Or.inr (by decide))]; exact z219
  have z239 : q_is (q_z f231 p0 5) x209 := by rw [ef231, q_setz (Or.inr (by decide))]; exact z220
  have z240 : q_is (q_z f231 v 5) x210 := by rw [ef231, q_setz (Or.inr (by decide))]; exact z213
  have z241 : q_is (q_z f231 p0 6) x228 := by rw [ef231, q_setz (Or.inl (fun q => by rw [q, kv] at kp0; exact absurd kp0 (by decide)))]; exact ex228
  have z242 : q_j f231 v 0 = j149 := by rw [ef231, q_setj (Or.inr (by decide))]; exact z221
  have z243 : q_j f231 p0 1 = (q_l 0) := by rw [ef231, q_setj (Or.inr (by decide))]; exact z222
  have z244 : q_j f231 v 1 = (q_l 0) := by rw [ef231, q_setj (Or.inr (by decide))]; exact z223
  have g245 : tw_vw K L 54 60 66 72 f231 v8 n8 l8 m8 d8 (tw_u (tw_u (tw_u (tw_u (tw_u s8 (1 + Int.toNat li) 2 x165) (1 + Int.toNat li) 3 x178) (1 + Int.toNat li) 4 x193) (1 + Int.toNat li) 5 x210) (1 + Int.toNat li) 6 x229) := tw_vw_s g224 hp0 (by omega) (by omega) ef231 z232 (fun i9 => by rw [ef231, q_setr (Or.inl (fun q => by rw [q, kv] at kn8; exact absurd kn8 (by decide)))]) (fun i9 => by rw [ef231, q_setr (Or.inl (fun q => by rw [q, kv] at kl8; exact absurd kl8 (by decide)))]) (fun i9 => by rw [ef231, q_setr (Or.inl (fun q => by rw [q, kv] at km8; exact absurd km8 (by decide)))])
  have g246 : tw_vw K L 10 5 3 4 f231 v0 n0 l0 m0 d0 s0 := tw_vw_tr g225 (fun a9 h9 k9 c9 => by rw [ef231, q_setz (Or.inl (fun q => by rw [q, kv] at k9; exact absurd k9 (by decide)))]) (fun a9 h9 k9 c9 => by rw [ef231, q_setz (Or.inl (fun q => by rw [q, kv] at k9; exact absurd k9 (by decide)))]) (fun a9 h9 k9 c9 => by rw [ef231, q_setz (Or.inl (fun q => by rw [q, kv] at k9; exact absurd k9 (by decide)))]) (fun a9 h9 k9 c9 => by rw [ef231, q_setz (Or.inl (fun q => by rw [q, kv] at k9; exact absurd k9 (by decide)))]) (fun i9 => by rw [ef231, q_setr (Or.inl (fun q => by rw [q, kv] at kn0; exact absurd kn0 (by decide)))]) (fun i9 => by rw [ef231, q_setr (Or.inl (fun q => by rw [q, kv] at kl0; exact absurd kl0 (by decide)))]) (fun i9 => by rw [ef231, q_setr (Or.inl (fun q => by rw [q, kv] at km0; exact absurd km0 (by decide)))])
  have g247 : tw_nw K L 60 f231 := tw_nw_tr g226 (fun a9 h9 k9 => by rw [ef231, q_setj (Or.inr (by decide))])
  have g248 : tw_nw K L 5 f231 := tw_nw_tr g227 (fun a9 h9 k9 => by rw [ef231, q_setj (Or.inl (fun q => by rw [q, kv] at k9; exact absurd k9 (by decide)))])
  refine q_ald_n cx dX5_copyFrom_56 rfl (lv_at hl 0 rfl) ?_
  refine q_ald_n cx dX5_copyFrom_57 rfl (lv_at hl 1 rfl) ?_
  obtain ⟨x249, ex249⟩ : ∃ zz, q_is (q_z f231 p0 7) zz := ⟨_, q_isr _⟩
  obtain ⟨lx249, ux249⟩ := q_isb ex249 (q_fib hB.2.1 hp0 kp0 (by decide) rfl)
  obtain ⟨x250, ex250, nx250⟩ : ∃ zz, q_is (q_z f231 p0 7) zz ∧ zz = x249 := ⟨_, ex249, rfl⟩
  have sx250 : q_is x250 (s0 (1 + Int.toNat lj) 7) := tw_g g246 hp1 (by omega) (by omega) ex250
  refine q_gX5_32 cx hB hp0 kp0 ex250 dX5_copyFrom_58 (fun lb251 ub251 => ?_)
  refine q_pX5_32_60 cx hB hv kv ⟨by omega, by omega⟩ (by omega) (by omega) rfl dX5_copyFrom_61 (fun H locs f252 ef252 z253 hB => ?_)
  have z254 : q_is (q_z f252 p0 2) x164 := by rw [ef252, q_setz (Or.inr (by decide))]; exact z233
  have z255 : q_is (q_z f252 v 2) x165 := by rw [ef252, q_setz (Or.inr (by decide))]; exact z234
  have z256 : q_is (q_z f252 p0 3) x177 := by rw [ef252, q_setz (Or.inr (by decide))]; exact z235
  have z257 : q_is (q_z f252 v 3) x178 := by rw [ef252, q_setz (Or.inr (by decide))]; exact z236
  have z258 : q_is (q_z f252 p0 4) x192 := by rw [ef252, q_setz (Or.inr (by decide))]; exact z237
  have z259 : q_is (q_z f252 v 4) x193 := by rw [ef252, q_setz (Or.inr (by decide))]; exact z238
  have z260 : q_is (q_z f252 p0 5) x209 := by rw [ef252, q_setz (Or.inr (by decide))]; exact z239
  have z261 : q_is (q_z f252 v 5) x210 := by rw [ef252, q_setz (Or.inr (by decide))]; exact z240
  have z262 : q_is (q_z f252 p0 6) x228 := by rw [ef252, q_setz (Or.inr (by decide))]; exact z241
  have z263 : q_is (q_z f252 v 6) x229 := by rw [ef252, q_setz (Or.inr (by decide))]; exact z232
  have z264 : q_is (q_z f252 p0 7) x249 := by rw [ef252, q_setz (Or.inl (fun q => by rw [q, kv] at kp0; exact absurd kp0 (by decide)))]; exact ex249
  have z265 : q_j f252 v 0 = j149 := by rw [ef252, q_setj (Or.inr (by decide))]; exact z242
  have z266 : q_j f252 p0 1 = (q_l 0) := by rw [ef252, q_setj (Or.inr (by decide))]; exact z243
  have z267 : q_j f252 v 1 = (q_l 0) := by rw [ef252, q_setj (Or.inr (by decide))]; exact z244
  have g268 : tw_vw K L 54 60 66 72 f252 v8 n8 l8 m8 d8 (tw_u (tw_u (tw_u (tw_u (tw_u (tw_u s8 (1 + Int.toNat li) 2 x165) (1 + Int.toNat li) 3 x178) (1 + Int.toNat li) 4 x193) (1 + Int.toNat li) 5 x210) (1 + Int.toNat li) 6 x229) (1 + Int.toNat li) 7 x250) := tw_vw_s g245 hp0 (by omega) (by omega) ef252 z253 (fun i9 => by rw [ef252, q_setr (Or.inl (fun q => by rw [q, kv] at kn8; exact absurd kn8 (by decide)))]) (fun i9 => by rw [ef252, q_setr (Or.inl (fun q => by rw [q, kv] at kl8; exact absurd kl8 (by decide)))]) (fun i9 => by rw [ef252, q_setr (Or.inl (fun q => by rw [q, kv] at km8; exact absurd km8 (by decide)))])
  have g269 : tw_vw K L 10 5 3 4 f252 v0 n0 l0 m0 d0 s0 := tw_vw_tr g246 (fun a9 h9 k9 c9 => by rw [ef252, q_setz (Or.inl (fun q => by rw [q, kv] at k9; exact absurd k9 (by decide)))]) (fun a9 h9 k9 c9 => by rw [ef252, q_setz (Or.inl (fun q => by rw [q, kv] at k9; exact absurd k9 (by decide)))]) (fun a9 h9 k9 c9 => by rw [ef252, q_setz (Or.inl (fun q => by rw [q, kv] at k9; exact absurd k9 (by decide)))]) (fun a9 h9 k9 c9 => by rw [ef252, q_setz (Or.inl (fun q => by rw [q, kv] at k9; exact absurd k9 (by decide)))]) (fun i9 => by rw [ef252, q_setr (Or.inl (fun q => by rw [q, kv] at kn0; exact absurd kn0 (by decide)))]) (fun i9 => by rw [ef252, q_setr (Or.inl (fun q => by rw [q, kv] at kl0; exact absurd kl0 (by decide)))]) (fun i9 => by rw [ef252, q_setr (Or.inl (fun q => by rw [q, kv] at km0; exact absurd km0 (by decide)))])
  have g270 : tw_nw K L 60 f252 := tw_nw_tr g247 (fun a9 h9 k9 => by rw [ef252, q_setj (Or.inr (by decide))])
  have g271 : tw_nw K L 5 f252 := tw_nw_tr g248 (fun a9 h9 k9 => by rw [ef252, q_setj (Or.inl (fun q => by rw [q, kv] at k9; exact absurd k9 (by decide)))])
  refine q_ald_n cx dX5_copyFrom_64 rfl (lv_at hl 0 rfl) ?_
  refine q_ald_n cx dX5_copyFrom_65 rfl (lv_at hl 1 rfl) ?_
  obtain ⟨x272, ex272⟩ : ∃ zz, q_is (q_z f252 p0 8) zz := ⟨_, q_isr _⟩
  obtain ⟨lx272, ux272⟩ := q_isb ex272 (q_fib hB.2.1 hp0 kp0 (by decide) rfl)
  obtain ⟨x273, ex273, nx273⟩ : ∃ zz, q_is (q_z f252 p0 8) zz ∧ zz = x272 := ⟨_, ex272, rfl⟩
  have sx273 : q_is x273 (s0 (1 + Int.toNat lj) 8) := tw_g g269 hp1 (by omega) (by omega) ex273
  refine q_gX5_35 cx hB hp0 kp0 ex273 dX5_copyFrom_66 (fun lb274 ub274 => ?_)
  refine q_pX5_35_60 cx hB hv kv ⟨by omega, by omega⟩ (by omega) (by omega) rfl dX5_copyFrom_69 (fun H locs f275 ef275 z276 hB => ?_)
  have z277 : q_is (q_z f275 p0 2) x164 := by rw [ef275, q_setz (Or.inr (by decide))]; exact z254
  have z278 : q_is (q_z f275 v 2) x165 := by rw [ef275, q_setz (Or.inr (by decide))]; exact z255
  have z279 : q_is (q_z f275 p0 3) x177 := by rw [ef275, q_setz (Or.inr (by decide))]; exact z256
  have z280 : q_is (q_z f275 v 3) x178 := by rw [ef275, q_setz (Or.inr (by decide))]; exact z257
  have z281 : q_is (q_z f275 p0 4) x192 := by rw [ef275, q_setz (Or.inr (by decide))]; exact z258
  have z282 : q_is (q_z f275 v 4) x193 := by rw [ef275, q_setz (Or.inr (by decide))]; exact z259
  have z283 : q_is (q_z f275 p0 5) x209 := by rw [ef275, q_setz (Or.inr (by decide))]; exact z260
  have z284 : q_is (q_z f275 v 5) x210 := by rw [ef275, q_setz (Or.inr (by decide))]; exact z261
  have z285 : q_is (q_z f275 p0 6) x228 := by rw [ef275, q_setz (Or.inr (by decide))]; exact z262
  have z286 : q_is (q_z f275 v 6) x229 := by rw [ef275, q_setz (Or.inr (by decide))]; exact z263
  have z287 : q_is (q_z f275 p0 7) x249 := by rw [ef275, q_setz (Or.inr (by decide))]; exact z264
  have z288 : q_is (q_z f275 v 7) x250 := by rw [ef275, q_setz (Or.inr (by decide))]; exact z253
  have z289 : q_is (q_z f275 p0 8) x272 := by rw [ef275, q_setz (Or.inl (fun q => by rw [q, kv] at kp0; exact absurd kp0 (by decide)))]; exact ex272
  have z290 : q_j f275 v 0 = j149 := by rw [ef275, q_setj (Or.inr (by decide))]; exact z265
  have z291 : q_j f275 p0 1 = (q_l 0) := by rw [ef275, q_setj (Or.inr (by decide))]; exact z266
  have z292 : q_j f275 v 1 = (q_l 0) := by rw [ef275, q_setj (Or.inr (by decide))]; exact z267
  have g293 : tw_vw K L 54 60 66 72 f275 v8 n8 l8 m8 d8 (tw_u (tw_u (tw_u (tw_u (tw_u (tw_u (tw_u s8 (1 + Int.toNat li) 2 x165) (1 + Int.toNat li) 3 x178) (1 + Int.toNat li) 4 x193) (1 + Int.toNat li) 5 x210) (1 + Int.toNat li) 6 x229) (1 + Int.toNat li) 7 x250) (1 + Int.toNat li) 8 x273) := tw_vw_s g268 hp0 (by omega) (by omega) ef275 z276 (fun i9 => by rw [ef275, q_setr (Or.inl (fun q => by rw [q, kv] at kn8; exact absurd kn8 (by decide)))]) (fun i9 => by rw [ef275, q_setr (Or.inl (fun q => by rw [q, kv] at kl8; exact absurd kl8 (by decide)))]) (fun i9 => by rw [ef275, q_setr (Or.inl (fun q => by rw [q, kv] at km8; exact absurd km8 (by decide)))])
  have g294 : tw_vw K L 10 5 3 4 f275 v0 n0 l0 m0 d0 s0 := tw_vw_tr g269 (fun a9 h9 k9 c9 => by rw [ef275, q_setz (Or.inl (fun q => by rw [q, kv] at k9; exact absurd k9 (by decide)))]) (fun a9 h9 k9 c9 => by rw [ef275, q_setz (Or.inl (fun q => by rw [q, kv] at k9; exact absurd k9 (by decide)))]) (fun a9 h9 k9 c9 => by rw [ef275, q_setz (Or.inl (fun q => by rw [q, kv] at k9; exact absurd k9 (by decide)))]) (fun a9 h9 k9 c9 => by rw [ef275, q_setz (Or.inl (fun q => by rw [q, kv] at k9; exact absurd k9 (by decide)))]) (fun i9 => by rw [ef275, q_setr (Or.inl (fun q => by rw [q, kv] at kn0; exact absurd kn0 (by decide)))]) (fun i9 => by rw [ef275, q_setr (Or.inl (fun q => by rw [q, kv] at kl0; exact absurd kl0 (by decide)))]) (fun i9 => by rw [ef275, q_setr (Or.inl (fun q => by rw [q, kv] at km0; exact absurd km0 (by decide)))])
  have g295 : tw_nw K L 60 f275 := tw_nw_tr g270 (fun a9 h9 k9 => by rw [ef275, q_setj (Or.inr (by decide))])
  have g296 : tw_nw K L 5 f275 := tw_nw_tr g271 (fun a9 h9 k9 => by rw [ef275, q_setj (Or.inl (fun q => by rw [q, kv] at k9; exact absurd k9 (by decide)))])
  refine q_vret cx hr hlk hB dX5_copyFrom_72 ?_
  exact ⟨(tw_cg g293 (by have t0_ : x165 = s0 (1 + Int.toNat lj) 2 := sx165; have t1_ : x178 = s0 (1 + Int.toNat lj) 3 := sx178; have t2_ : x193 = s0 (1 + Int.toNat lj) 4 := sx193; have t3_ : x210 = s0 (1 + Int.toNat lj) 5 := sx210; have t4_ : x229 = s0 (1 + Int.toNat lj) 6 := sx229; have t5_ : x250 = s0 (1 + Int.toNat lj) 7 := sx250; have t6_ : x273 = s0 (1 + Int.toNat lj) 8 := sx273; (try simp only [t0_, t1_, t2_, t3_, t4_, t5_, t6_]); (repeat' split) <;> first | rfl | (exfalso; omega))), g295⟩
set_option maxHeartbeats 4000000 in
set_option maxRecDepth 100000 in
theorem f_lcopy80 (l : Launch) (g : q_G) {K : Nat → Nat} {L : List Nat} (hN : L.Nodup) {f : Nat → va_E} (hT : q_Ty g K L f) (d8 : Nat → Nat) (s8 : tw_S) (d0 : Nat → Nat) (s0 : tw_S) (v : Nat) (hv : v ∈ L) (kv : K v = 66) (p0 : Nat) (hp0 : p0 ∈ L) (kp0 : K p0 = 3) (v8 : Nat) (hv8 : v8 ∈ L) (kv8 : K v8 = 54) (n8 : Nat) (hn8 : n8 ∈ L) (kn8 : K n8 = 204) (l8 : Nat) (hl8 : l8 ∈ L) (kl8 : K l8 = 210) (m8 : Nat) (hm8 : m8 ∈ L) (km8 : K m8 = 216) (v0 : Nat) (hv0 : v0 ∈ L) (kv0 : K v0 = 10) (n0 : Nat) (hn0 : n0 ∈ L) (kn0 : K n0 = 110) (l0 : Nat) (hl0 : l0 ∈ L) (kl0 : K l0 = 120) (m0 : Nat) (hm0 : m0 ∈ L) (km0 : K m0 = 130) (li : Int) (lli : 0 ≤ li) (uli : li ≤ 15) (lj : Int) (llj : 0 ≤ lj) (ulj : lj ≤ 15) (hp0 : v = d8 (11 + Int.toNat li)) (hp1 : p0 = d0 (11 + Int.toNat lj)) (hw8 : tw_vw K L 54 60 66 72 f v8 n8 l8 m8 d8 s8) (hw0 : tw_vw K L 10 5 3 4 f v0 n0 l0 m0 d0 s0) : q_Ct l g K L yX3_copyFrom cX3_copyFrom 2 none 0 0 [.ref v, .ref p0] f [(66, 0, 4)] (q_Pv (fun (f1 : Nat → va_E) => (tw_vw K L 54 60 66 72 f1 v8 n8 l8 m8 d8 (tw_cl s8 s0 (11 + Int.toNat li) (11 + Int.toNat lj))))) := by
  refine q_ofb (by decide +kernel) hN hT (Nat.le_of_ble_eq_true rfl) ?_
  intro p e s m below meth c ls cx hr hlk hB hl
  have hl : lv_has ls 2 [(0, .ref v), (1, .ref p0)] := hl
  obtain ⟨H, hH⟩ : ∃ H : Heap, H = s.heap := ⟨_, rfl⟩
  obtain ⟨locs, hlocs⟩ : ∃ z : List Loc, z = [] := ⟨_, rfl⟩
  rw [← hH, ← hlocs] at hB
  rw [← hH, ← hlocs]
  refine q_ald_n cx dX3_copyFrom_0 rfl (lv_at hl 0 rfl) ?_
  refine q_ald_n cx dX3_copyFrom_1 rfl (lv_at hl 1 rfl) ?_
  obtain ⟨x61, ex61⟩ : ∃ zz, q_is (q_z f p0 0) zz := ⟨_, q_isr _⟩
  obtain ⟨lx61, ux61⟩ := q_isb ex61 (q_fib hB.2.1 hp0 kp0 (by decide) rfl)
  obtain ⟨x62, ex62, nx62⟩ : ∃ zz, q_is (q_z f p0 0) zz ∧ zz = x61 := ⟨_, ex61, rfl⟩
  have sx62 : q_is x62 (s0 (11 + Int.toNat lj) 0) := tw_g hw0 hp1 (by omega) (by omega) ex62
  refine q_gX3_7 cx hB hp0 kp0 ex62 dX3_copyFrom_2 (fun lb63 ub63 => ?_)
  refine q_pX3_7_66 cx hB hv kv ⟨by omega, by omega⟩ (by omega) (by omega) rfl dX3_copyFrom_5 (fun H locs f64 ef64 z65 hB => ?_)
  have z66 : q_is (q_z f64 p0 0) x61 := by rw [ef64, q_setz (Or.inl (fun q => by rw [q, kv] at kp0; exact absurd kp0 (by decide)))]; exact ex61
  have g67 : tw_vw K L 54 60 66 72 f64 v8 n8 l8 m8 d8 (tw_u s8 (11 + Int.toNat li) 0 x62) := tw_vw_s hw8 hp0 (by omega) (by omega) ef64 z65 (fun i9 => by rw [ef64, q_setr (Or.inl (fun q => by rw [q, kv] at kn8; exact absurd kn8 (by decide)))]) (fun i9 => by rw [ef64, q_setr (Or.inl (fun q => by rw [q, kv] at kl8; exact absurd kl8 (by decide)))]) (fun i9 => by rw [ef64, q_setr (Or.inl (fun q => by rw [q, kv] at km8; exact absurd km8 (by decide)))])
  have g68 : tw_vw K L 10 5 3 4 f64 v0 n0 l0 m0 d0 s0 := tw_vw_tr hw0 (fun a9 h9 k9 c9 => by rw [ef64, q_setz (Or.inl (fun q => by rw [q, kv] at k9; exact absurd k9 (by decide)))]) (fun a9 h9 k9 c9 => by rw [ef64, q_setz (Or.inl (fun q => by rw [q, kv] at k9; exact absurd k9 (by decide)))]) (fun a9 h9 k9 c9 => by rw [ef64, q_setz (Or.inl (fun q => by rw [q, kv] at k9; exact absurd k9 (by decide)))]) (fun a9 h9 k9 c9 => by rw [ef64, q_setz (Or.inl (fun q => by rw [q, kv] at k9; exact absurd k9 (by decide)))]) (fun i9 => by rw [ef64, q_setr (Or.inl (fun q => by rw [q, kv] at kn0; exact absurd kn0 (by decide)))]) (fun i9 => by rw [ef64, q_setr (Or.inl (fun q => by rw [q, kv] at kl0; exact absurd kl0 (by decide)))]) (fun i9 => by rw [ef64, q_setr (Or.inl (fun q => by rw [q, kv] at km0; exact absurd km0 (by decide)))])
  refine q_ald_n cx dX3_copyFrom_8 rfl (lv_at hl 0 rfl) ?_
  refine q_ald_n cx dX3_copyFrom_9 rfl (lv_at hl 1 rfl) ?_
  obtain ⟨x69, ex69⟩ : ∃ zz, q_is (q_z f64 p0 1) zz := ⟨_, q_isr _⟩
  obtain ⟨lx69, ux69⟩ := q_isb ex69 (q_fib hB.2.1 hp0 kp0 (by decide) rfl)
  obtain ⟨x70, ex70, nx70⟩ : ∃ zz, q_is (q_z f64 p0 1) zz ∧ zz = x69 := ⟨_, ex69, rfl⟩
  have sx70 : q_is x70 (s0 (11 + Int.toNat lj) 1) := tw_g g68 hp1 (by omega) (by omega) ex70
  refine q_gX3_13 cx hB hp0 kp0 ex70 dX3_copyFrom_10 (fun lb71 ub71 => ?_)
  refine q_pX3_13_66 cx hB hv kv ⟨by omega, by omega⟩ (by omega) (by omega) rfl dX3_copyFrom_13 (fun H locs f72 ef72 z73 hB => ?_)
  have z74 : q_is (q_z f72 p0 0) x61 := by rw [ef72, q_setz (Or.inr (by decide))]; exact z66
  have z75 : q_is (q_z f72 v 0) x62 := by rw [ef72, q_setz (Or.inr (by decide))]; exact z65
  have z76 : q_is (q_z f72 p0 1) x69 := by rw [ef72, q_setz (Or.inl (fun q => by rw [q, kv] at kp0; exact absurd kp0 (by decide)))]; exact ex69
  have g77 : tw_vw K L 54 60 66 72 f72 v8 n8 l8 m8 d8 (tw_u (tw_u s8 (11 + Int.toNat li) 0 x62) (11 + Int.toNat li) 1 x70) := tw_vw_s g67 hp0 (by omega) (by omega) ef72 z73 (fun i9 => by rw [ef72, q_setr (Or.inl (fun q => by rw [q, kv] at kn8; exact absurd kn8 (by decide)))]) (fun i9 => by rw [ef72, q_setr (Or.inl (fun q => by rw [q, kv] at kl8; exact absurd kl8 (by decide)))]) (fun i9 => by rw [ef72, q_setr (Or.inl (fun q => by rw [q, kv] at km8; exact absurd km8 (by decide)))])
  have g78 : tw_vw K L 10 5 3 4 f72 v0 n0 l0 m0 d0 s0 := tw_vw_tr g68 (fun a9 h9 k9 c9 => by rw [ef72, q_setz (Or.inl (fun q => by rw [q, kv] at k9; exact absurd k9 (by decide)))]) (fun a9 h9 k9 c9 => by rw [ef72, q_setz (Or.inl (fun q => by rw [q, kv] at k9; exact absurd k9 (by decide)))]) (fun a9 h9 k9 c9 => by rw [ef72, q_setz (Or.inl (fun q => by rw [q, kv] at k9; exact absurd k9 (by decide)))]) (fun a9 h9 k9 c9 => by rw [ef72, q_setz (Or.inl (fun q => by rw [q, kv] at k9; exact absurd k9 (by decide)))]) (fun i9 => by rw [ef72, q_setr (Or.inl (fun q => by rw [q, kv] at kn0; exact absurd kn0 (by decide)))]) (fun i9 => by rw [ef72, q_setr (Or.inl (fun q => by rw [q, kv] at kl0; exact absurd kl0 (by decide)))]) (fun i9 => by rw [ef72, q_setr (Or.inl (fun q => by rw [q, kv] at km0; exact absurd km0 (by decide)))])
  refine q_ald_n cx dX3_copyFrom_16 rfl (lv_at hl 0 rfl) ?_
  refine q_ald_n cx dX3_copyFrom_17 rfl (lv_at hl 1 rfl) ?_
  obtain ⟨x79, ex79⟩ : ∃ zz, q_is (q_z f72 p0 2) zz := ⟨_, q_isr _⟩
  obtain ⟨lx79, ux79⟩ := q_isb ex79 (q_fib hB.2.1 hp0 kp0 (by decide) rfl)
  obtain ⟨x80, ex80, nx80⟩ : ∃ zz, q_is (q_z f72 p0 2) zz ∧ zz = x79 := ⟨_, ex79, rfl⟩
  have sx80 : q_is x80 (s0 (11 + Int.toNat lj) 2) := tw_g g78 hp1 (by omega) (by omega) ex80
  refine q_gX3_16 cx hB hp0 kp0 ex80 dX3_copyFrom_18 (fun lb81 ub81 => ?_)
  refine q_pX3_16_66 cx hB hv kv ⟨by omega, by omega⟩ (by omega) (by omega) rfl dX3_copyFrom_21 (fun H locs f82 ef82 z83 hB => ?_)
  have z84 : q_is (q_z f82 p0 0) x61 := by rw [ef82, q_setz (Or.inr (by decide))]; exact z74
  have z85 : q_is (q_z f82 v 0) x62 := by rw [ef82, q_setz (Or.inr (by decide))]; exact z75
  have z86 : q_is (q_z f82 p0 1) x69 := by rw [ef82, q_setz (Or.inr (by decide))]; exact z76
  have z87 : q_is (q_z f82 v 1) x70 := by rw [ef82, q_setz (Or.inr (by decide))]; exact z73
  have z88 : q_is (q_z f82 p0 2) x79 := by rw [ef82, q_setz (Or.inl (fun q => by rw [q, kv] at kp0; exact absurd kp0 (by decide)))]; exact ex79
  have g89 : tw_vw K L 54 60 66 72 f82 v8 n8 l8 m8 d8 (tw_u (tw_u (tw_u s8 (11 + Int.toNat li) 0 x62) (11 + Int.toNat li) 1 x70) (11 + Int.toNat li) 2 x80) := tw_vw_s g77 hp0 (by omega) (by omega) ef82 z83 (fun i9 => by rw [ef82, q_setr (Or.inl (fun q => by rw [q, kv] at kn8; exact absurd kn8 (by decide)))]) (fun i9 => by rw [ef82, q_setr (Or.inl (fun q => by rw [q, kv] at kl8; exact absurd kl8 (by decide)))]) (fun i9 => by rw [ef82, q_setr (Or.inl (fun q => by rw [q, kv] at km8; exact absurd km8 (by decide)))])
  have g90 : tw_vw K L 10 5 3 4 f82 v0 n0 l0 m0 d0 s0 := tw_vw_tr g78 (fun a9 h9 k9 c9 => by rw [ef82, q_setz (Or.inl (fun q => by rw [q, kv] at k9; exact absurd k9 (by decide)))]) (fun a9 h9 k9 c9 => by rw [ef82, q_setz (Or.inl (fun q => by rw [q, kv] at k9; exact absurd k9 (by decide)))]) (fun a9 h9 k9 c9 => by rw [ef82, q_setz (Or.inl (fun q => by rw [q, kv] at k9; exact absurd k9 (by decide)))]) (fun a9 h9 k9 c9 => by rw [ef82, q_setz (Or.inl (fun q => by rw [q, kv] at k9; exact absurd k9 (by decide)))]) (fun i9 => by rw [ef82, q_setr (Or.inl (fun q => by rw [q, kv] at kn0; exact absurd kn0 (by decide)))]) (fun i9 => by rw [ef82, q_setr (Or.inl (fun q => by rw [q, kv] at kl0; exact absurd kl0 (by decide)))]) (fun i9 => by rw [ef82, q_setr (Or.inl (fun q => by rw [q, kv] at km0; exact absurd km0 (by decide)))])
  refine q_ald_n cx dX3_copyFrom_24 rfl (lv_at hl 0 rfl) ?_
  refine q_ald_n cx dX3_copyFrom_25 rfl (lv_at hl 1 rfl) ?_
  obtain ⟨x91, ex91⟩ : ∃ zz, q_is (q_z f82 p0 3) zz := ⟨_, q_isr _⟩
  obtain ⟨lx91, ux91⟩ := q_isb ex91 (q_fib hB.2.1 hp0 kp0 (by decide) rfl)
  obtain ⟨x92, ex92, nx92⟩ : ∃ zz, q_is (q_z f82 p0 3) zz ∧ zz = x91 := ⟨_, ex91, rfl⟩
  have sx92 : q_is x92 (s0 (11 + Int.toNat lj) 3) := tw_g g90 hp1 (by omega) (by omega) ex92
  refine q_gX3_19 cx hB hp0 kp0 ex92 dX3_copyFrom_26 (fun lb93 ub93 => ?_)
  refine q_pX3_19_66 cx hB hv kv ⟨by omega, by omega⟩ (by omega) (by omega) rfl dX3_copyFrom_29 (fun H locs f94 ef94 z95 hB => ?_)
  have z96 : q_is (q_z f94 p0 0) x61 := by rw [ef94, q_setz (Or.inr (by decide))]; exact z84
  have z97 : q_is (q_z f94 v 0) x62 := by rw [ef94, q_setz (Or.inr (by decide))]; exact z85
  have z98 : q_is (q_z f94 p0 1) x69 := by rw [ef94, q_setz (Or.inr (by decide))]; exact z86
  have z99 : q_is (q_z f94 v 1) x70 := by rw [ef94, q_setz (Or.inr (by decide))]; exact z87
  have z100 : q_is (q_z f94 p0 2) x79 := by rw [ef94, q_setz (Or.inr (by decide))]; exact z88
  have z101 : q_is (q_z f94 v 2) x80 := by rw [ef94, q_setz (Or.inr (by decide))]; exact z83
  have z102 : q_is (q_z f94 p0 3) x91 := by rw [ef94, q_setz (Or.inl (fun q => by rw [q, kv] at kp0; exact absurd kp0 (by decide)))]; exact ex91
  have g103 : tw_vw K L 54 60 66 72 f94 v8 n8 l8 m8 d8 (tw_u (tw_u (tw_u (tw_u s8 (11 + Int.toNat li) 0 x62) (11 + Int.toNat li) 1 x70) (11 + Int.toNat li) 2 x80) (11 + Int.toNat li) 3 x92) := tw_vw_s g89 hp0 (by omega) (by omega) ef94 z95 (fun i9 => by rw [ef94, q_setr (Or.inl (fun q => by rw [q, kv] at kn8; exact absurd kn8 (by decide)))]) (fun i9 => by rw [ef94, q_setr (Or.inl (fun q => by rw [q, kv] at kl8; exact absurd kl8 (by decide)))]) (fun i9 => by rw [ef94, q_setr (Or.inl (fun q => by rw [q, kv] at km8; exact absurd km8 (by decide)))])
  have g104 : tw_vw K L 10 5 3 4 f94 v0 n0 l0 m0 d0 s0 := tw_vw_tr g90 (fun a9 h9 k9 c9 => by rw [ef94, q_setz (Or.inl (fun q => by rw [q, kv] at k9; exact absurd k9 (by decide)))]) (fun a9 h9 k9 c9 => by rw [ef94, q_setz (Or.inl (fun q => by rw [q, kv] at k9; exact absurd k9 (by decide)))]) (fun a9 h9 k9 c9 => by rw [ef94, q_setz (Or.inl (fun q => by rw [q, kv] at k9; exact absurd k9 (by decide)))]) (fun a9 h9 k9 c9 => by rw [ef94, q_setz (Or.inl (fun q => by rw [q, kv] at k9; exact absurd k9 (by decide)))]) (fun i9 => by rw [ef94, q_setr (Or.inl (fun q => by rw [q, kv] at kn0; exact absurd kn0 (by decide)))]) (fun i9 => by rw [ef94, q_setr (Or.inl (fun q => by rw [q, kv] at kl0; exact absurd kl0 (by decide)))]) (fun i9 => by rw [ef94, q_setr (Or.inl (fun q => by rw [q, kv] at km0; exact absurd km0 (by decide)))])
  refine q_ald_n cx dX3_copyFrom_32 rfl (lv_at hl 0 rfl) ?_
  refine q_ald_n cx dX3_copyFrom_33 rfl (lv_at hl 1 rfl) ?_
  obtain ⟨x105, ex105⟩ : ∃ zz, q_is (q_z f94 p0 4) zz := ⟨_, q_isr _⟩
  obtain ⟨lx105, ux105⟩ := q_isb ex105 (q_fib hB.2.1 hp0 kp0 (by decide) rfl)
  obtain ⟨x106, ex106, nx106⟩ : ∃ zz, q_is (q_z f94 p0 4) zz ∧ zz = x105 := ⟨_, ex105, rfl⟩
  have sx106 : q_is x106 (s0 (11 + Int.toNat lj) 4) := tw_g g104 hp1 (by omega) (by omega) ex106
  refine q_gX3_22 cx hB hp0 kp0 ex106 dX3_copyFrom_34 (fun lb107 ub107 => ?_)
  refine q_pX3_22_66 cx hB hv kv ⟨by omega, by omega⟩ (by omega) (by omega) rfl dX3_copyFrom_37 (fun H locs f108 ef108 z109 hB => ?_)
  have z110 : q_is (q_z f108 p0 0) x61 := by rw [ef108, q_setz (Or.inr (by decide))]; exact z96
  have z111 : q_is (q_z f108 v 0) x62 := by rw [ef108, q_setz (Or.inr (by decide))]; exact z97
  have z112 : q_is (q_z f108 p0 1) x69 := by rw [ef108, q_setz (Or.inr (by decide))]; exact z98
  have z113 : q_is (q_z f108 v 1) x70 := by rw [ef108, q_setz (Or.inr (by decide))]; exact z99
  have z114 : q_is (q_z f108 p0 2) x79 := by rw [ef108, q_setz (Or.inr (by decide))]; exact z100
  have z115 : q_is (q_z f108 v 2) x80 := by rw [ef108, q_setz (Or.inr (by decide))]; exact z101
  have z116 : q_is (q_z f108 p0 3) x91 := by rw [ef108, q_setz (Or.inr (by decide))]; exact z102
  have z117 : q_is (q_z f108 v 3) x92 := by rw [ef108, q_setz (Or.inr (by decide))]; exact z95
  have z118 : q_is (q_z f108 p0 4) x105 := by rw [ef108, q_setz (Or.inl (fun q => by rw [q, kv] at kp0; exact absurd kp0 (by decide)))]; exact ex105
  have g119 : tw_vw K L 54 60 66 72 f108 v8 n8 l8 m8 d8 (tw_u (tw_u (tw_u (tw_u (tw_u s8 (11 + Int.toNat li) 0 x62) (11 + Int.toNat li) 1 x70) (11 + Int.toNat li) 2 x80) (11 + Int.toNat li) 3 x92) (11 + Int.toNat li) 4 x106) := tw_vw_s g103 hp0 (by omega) (by omega) ef108 z109 (fun i9 => by rw [ef108, q_setr (Or.inl (fun q => by rw [q, kv] at kn8; exact absurd kn8 (by decide)))]) (fun i9 => by rw [ef108, q_setr (Or.inl (fun q => by rw [q, kv] at kl8; exact absurd kl8 (by decide)))]) (fun i9 => by rw [ef108, q_setr (Or.inl (fun q => by rw [q, kv] at km8; exact absurd km8 (by decide)))])
  have g120 : tw_vw K L 10 5 3 4 f108 v0 n0 l0 m0 d0 s0 := tw_vw_tr g104 (fun a9 h9 k9 c9 => by rw [ef108, q_setz (Or.inl (fun q => by rw [q, kv] at k9; exact absurd k9 (by decide)))]) (fun a9 h9 k9 c9 => by rw [ef108, q_setz (Or.inl (fun q => by rw [q, kv] at k9; exact absurd k9 (by decide)))]) (fun a9 h9 k9 c9 => by rw [ef108, q_setz (Or.inl (fun q => by rw [q, kv] at k9; exact absurd k9 (by decide)))]) (fun a9 h9 k9 c9 => by rw [ef108, q_setz (Or.inl (fun q => by rw [q, kv] at k9; exact absurd k9 (by decide)))]) (fun i9 => by rw [ef108, q_setr (Or.inl (fun q => by rw [q, kv] at kn0; exact absurd kn0 (by decide)))]) (fun i9 => by rw [ef108, q_setr (Or.inl (fun q => by rw [q, kv] at kl0; exact absurd kl0 (by decide)))]) (fun i9 => by rw [ef108, q_setr (Or.inl (fun q => by rw [q, kv] at km0; exact absurd km0 (by decide)))])
  refine q_vret cx hr hlk hB dX3_copyFrom_40 ?_
  exact (tw_cg g119 (by have t0_ : x62 = s0 (11 + Int.toNat lj) 0 := sx62; have t1_ : x70 = s0 (11 + Int.toNat lj) 1 := sx70; have t2_ : x80 = s0 (11 + Int.toNat lj) 2 := sx80; have t3_ : x92 = s0 (11 + Int.toNat lj) 3 := sx92; have t4_ : x106 = s0 (11 + Int.toNat lj) 4 := sx106; (try simp only [t0_, t1_, t2_, t3_, t4_]); (repeat' split) <;> first | rfl | (exfalso; omega)))
set_option maxHeartbeats 4000000 in
set_option maxRecDepth 100000 in
theorem f_mcopy80 (l : Launch) (g : q_G) {K : Nat → Nat} {L : List Nat} (hN : L.Nodup) {f : Nat → va_E} (hT : q_Ty g K L f) (d8 : Nat → Nat) (s8 : tw_S) (d0 : Nat → Nat) (s0 : tw_S) (v : Nat) (hv : v ∈ L) (kv : K v = 72) (p0 : Nat) (hp0 : p0 ∈ L) (kp0 : K p0 = 4) (v8 : Nat) (hv8 : v8 ∈ L) (kv8 : K v8 = 54) (n8 : Nat) (hn8 : n8 ∈ L) (kn8 : K n8 = 204) (l8 : Nat) (hl8 : l8 ∈ L) (kl8 : K l8 = 210) (m8 : Nat) (hm8 : m8 ∈ L) (km8 : K m8 = 216) (v0 : Nat) (hv0 : v0 ∈ L) (kv0 : K v0 = 10) (n0 : Nat) (hn0 : n0 ∈ L) (kn0 : K n0 = 110) (l0 : Nat) (hl0 : l0 ∈ L) (kl0 : K l0 = 120) (m0 : Nat) (hm0 : m0 ∈ L) (km0 : K m0 = 130) (li : Int) (lli : 0 ≤ li) (uli : li ≤ 60) (lj : Int) (llj : 0 ≤ lj) (ulj : lj ≤ 60) (hp0 : v = d8 (27 + Int.toNat li)) (hp1 : p0 = d0 (27 + Int.toNat lj)) (hw8 : tw_vw K L 54 60 66 72 f v8 n8 l8 m8 d8 s8) (hw0 : tw_vw K L 10 5 3 4 f v0 n0 l0 m0 d0 s0) : q_Ct l g K L yX4_copyFrom cX4_copyFrom 2 none 0 0 [.ref v, .ref p0] f [(72, 0, 7)] (q_Pv (fun (f1 : Nat → va_E) => (tw_vw K L 54 60 66 72 f1 v8 n8 l8 m8 d8 (tw_cm s8 s0 (27 + Int.toNat li) (27 + Int.toNat lj))))) := by
  refine q_ofb (by decide +kernel) hN hT (Nat.le_of_ble_eq_true rfl) ?_
  intro p e s m below meth c ls cx hr hlk hB hl
  have hl : lv_has ls 2 [(0, .ref v), (1, .ref p0)] := hl
  obtain ⟨H, hH⟩ : ∃ H : Heap, H = s.heap := ⟨_, rfl⟩
  obtain ⟨locs, hlocs⟩ : ∃ z : List Loc, z = [] := ⟨_, rfl⟩
  rw [← hH, ← hlocs] at hB
  rw [← hH, ← hlocs]
  refine q_ald_n cx dX4_copyFrom_0 rfl (lv_at hl 0 rfl) ?_
  refine q_ald_n cx dX4_copyFrom_1 rfl (lv_at hl 1 rfl) ?_
  obtain ⟨x121, ex121⟩ : ∃ zz, q_is (q_z f p0 0) zz := ⟨_, q_isr _⟩
  obtain ⟨lx121, ux121⟩ := q_isb ex121 (q_fib hB.2.1 hp0 kp0 (by decide) rfl)
  obtain ⟨x122, ex122, nx122⟩ : ∃ zz, q_is (q_z f p0 0) zz ∧ zz = x121 := ⟨_, ex121, rfl⟩
  have sx122 : q_is x122 (s0 (27 + Int.toNat lj) 0) := tw_g hw0 hp1 (by omega) (by omega) ex122
  refine q_gX4_7 cx hB hp0 kp0 ex122 dX4_copyFrom_2 (fun lb123 ub123 => ?_)
  refine q_pX4_7_72 cx hB hv kv ⟨by omega, by omega⟩ (by omega) (by omega) rfl dX4_copyFrom_5 (fun H locs f124 ef124 z125 hB => ?_)
  have z126 : q_is (q_z f124 p0 0) x121 := by rw [ef124, q_setz (Or.inl (fun q => by rw [q, kv] at kp0; exact absurd kp0 (by decide)))]; exact ex121
  have g127 : tw_vw K L 54 60 66 72 f124 v8 n8 l8 m8 d8 (tw_u s8 (27 + Int.toNat li) 0 x122) := tw_vw_s hw8 hp0 (by omega) (by omega) ef124 z125 (fun i9 => by rw [ef124, q_setr (Or.inl (fun q => by rw [q, kv] at kn8; exact absurd kn8 (by decide)))]) (fun i9 => by rw [ef124, q_setr (Or.inl (fun q => by rw [q, kv] at kl8; exact absurd kl8 (by decide)))]) (fun i9 => by rw [ef124, q_setr (Or.inl (fun q => by rw [q, kv] at km8; exact absurd km8 (by decide)))])
  have g128 : tw_vw K L 10 5 3 4 f124 v0 n0 l0 m0 d0 s0 := tw_vw_tr hw0 (fun a9 h9 k9 c9 => by rw [ef124, q_setz (Or.inl (fun q => by rw [q, kv] at k9; exact absurd k9 (by decide)))]) (fun a9 h9 k9 c9 => by rw [ef124, q_setz (Or.inl (fun q => by rw [q, kv] at k9; exact absurd k9 (by decide)))]) (fun a9 h9 k9 c9 => by rw [ef124, q_setz (Or.inl (fun q => by rw [q, kv] at k9; exact absurd k9 (by decide)))]) (fun a9 h9 k9 c9 => by rw [ef124, q_setz (Or.inl (fun q => by rw [q, kv] at k9; exact absurd k9 (by decide)))]) (fun i9 => by rw [ef124, q_setr (Or.inl (fun q => by rw [q, kv] at kn0; exact absurd kn0 (by decide)))]) (fun i9 => by rw [ef124, q_setr (Or.inl (fun q => by rw [q, kv] at kl0; exact absurd kl0 (by decide)))]) (fun i9 => by rw [ef124, q_setr (Or.inl (fun q => by rw [q, kv] at km0; exact absurd km0 (by decide)))])
  refine q_ald_n cx dX4_copyFrom_8 rfl (lv_at hl 0 rfl) ?_
  refine q_ald_n cx dX4_copyFrom_9 rfl (lv_at hl 1 rfl) ?_
  obtain ⟨x129, ex129⟩ : ∃ zz, q_is (q_z f124 p0 1) zz := ⟨_, q_isr _⟩
  obtain ⟨lx129, ux129⟩ := q_isb ex129 (q_fib hB.2.1 hp0 kp0 (by decide) rfl)
  obtain ⟨x130, ex130, nx130⟩ : ∃ zz, q_is (q_z f124 p0 1) zz ∧ zz = x129 := ⟨_, ex129, rfl⟩
  have sx130 : q_is x130 (s0 (27 + Int.toNat lj) 1) := tw_g g128 hp1 (by omega) (by omega) ex130
  refine q_gX4_13 cx hB hp0 kp0 ex130 dX4_copyFrom_10 (fun lb131 ub131 => ?_)
  refine q_pX4_13_72 cx hB hv kv ⟨by omega, by omega⟩ (by omega) (by omega) rfl dX4_copyFrom_13 (fun H locs f132 ef132 z133 hB => ?_)
  have z134 : q_is (q_z f132 p0 0) x121 := by rw [ef132, q_setz (Or.inr (by decide))]; exact z126
  have z135 : q_is (q_z f132 v 0) x122 := by rw [ef132, q_setz (Or.inr (by decide))]; exact z125
  have z136 : q_is (q_z f132 p0 1) x129 := by rw [ef132, q_setz (Or.inl (fun q => by rw [q, kv] at kp0; exact absurd kp0 (by decide)))]; exact ex129
  have g137 : tw_vw K L 54 60 66 72 f132 v8 n8 l8 m8 d8 (tw_u (tw_u s8 (27 + Int.toNat li) 0 x122) (27 + Int.toNat li) 1 x130) := tw_vw_s g127 hp0 (by omega) (by omega) ef132 z133 (fun i9 => by rw [ef132, q_setr (Or.inl (fun q => by rw [q, kv] at kn8; exact absurd kn8 (by decide)))]) (fun i9 => by rw [ef132, q_setr (Or.inl (fun q => by rw [q, kv] at kl8; exact absurd kl8 (by decide)))]) (fun i9 => by rw [ef132, q_setr (Or.inl (fun q => by rw [q, kv] at km8; exact absurd km8 (by decide)))])
  have g138 : tw_vw K L 10 5 3 4 f132 v0 n0 l0 m0 d0 s0 := tw_vw_tr g128 (fun a9 h9 k9 c9 => by rw [ef132, q_setz (Or.inl (fun q => by rw [q, kv] at k9; exact absurd k9 (by decide)))]) (fun a9 h9 k9 c9 => by rw [ef132, q_setz (Or.inl (fun q => by rw [q, kv] at k9; exact absurd k9 (by decide)))]) (fun a9 h9 k9 c9 => by rw [ef132, q_setz (Or.inl (fun q => by rw [q, kv] at k9; exact absurd k9 (by decide)))]) (fun a9 h9 k9 c9 => by rw [ef132, q_setz (Or.inl (fun q => by rw [q, kv] at k9; exact absurd k9 (by decide)))]) (fun i9 => by rw [ef132, q_setr (Or.inl (fun q => by rw [q, kv] at kn0; exact absurd kn0 (by decide)))]) (fun i9 => by rw [ef132, q_setr (Or.inl (fun q => by rw [q, kv] at kl0; exact absurd kl0 (by decide)))]) (fun i9 => by rw [ef132, q_setr (Or.inl (fun q => by rw [q, kv] at km0; exact absurd km0 (by decide)))])
  refine q_ald_n cx dX4_copyFrom_16 rfl (lv_at hl 0 rfl) ?_
  refine q_ald_n cx dX4_copyFrom_17 rfl (lv_at hl 1 rfl) ?_
  obtain ⟨x139, ex139⟩ : ∃ zz, q_is (q_z f132 p0 2) zz := ⟨_, q_isr _⟩
  obtain ⟨lx139, ux139⟩ := q_isb ex139 (q_fib hB.2.1 hp0 kp0 (by decide) rfl)
  obtain ⟨x140, ex140, nx140⟩ : ∃ zz, q_is (q_z f132 p0 2) zz ∧ zz = x139 := ⟨_, ex139, rfl⟩
  have sx140 : q_is x140 (s0 (27 + Int.toNat lj) 2) := tw_g g138 hp1 (by omega) (by omega) ex140
  refine q_gX4_16 cx hB hp0 kp0 ex140 dX4_copyFrom_18 (fun lb141 ub141 => ?_)
  refine q_pX4_16_72 cx hB hv kv ⟨by omega, by omega⟩ (by omega) (by omega) rfl dX4_copyFrom_21 (fun H locs f142 ef142 z143 hB => ?_)
  have z144 : q_is (q_z f142 p0 0) x121 := by rw [ef142, q_setz (Or.inr (by decide))]; exact z134
  have z145 : q_is (q_z f142 v 0) x122 := by rw [ef142, q_setz (Or.inr (by decide))]; exact z135
  have z146 : q_is (q_z f142 p0 1) x129 := by rw [ef142, q_setz (Or.inr (by decide))]; exact z136
  have z147 : q_is (q_z f142 v 1) x130 := by rw [ef142, q_setz (Or.inr (by decide))]; exact z133
  have z148 : q_is (q_z f142 p0 2) x139 := by rw [ef142, q_setz (Or.inl (fun q => by rw [q, kv] at kp0; exact absurd kp0 (by decide)))]; exact ex139
  have g149 : tw_vw K L 54 60 66 72 f142 v8 n8 l8 m8 d8 (tw_u (tw_u (tw_u s8 (27 + Int.toNat li) 0 x122) (27 + Int.toNat li) 1 x130) (27 + Int.toNat li) 2 x140) := tw_vw_s g137 hp0 (by omega) (by omega) ef142 z143 (fun i9 => by rw [ef142, q_setr (Or.inl (fun q => by rw [q, kv] at kn8; exact absurd kn8 (by decide)))]) (fun i9 => by rw [ef142, q_setr (Or.inl (fun q => by rw [q, kv] at kl8; exact absurd kl8 (by decide)))]) (fun i9 => by rw [ef142, q_setr (Or.inl (fun q => by rw [q, kv] at km8; exact absurd km8 (by decide)))])
  have g150 : tw_vw K L 10 5 3 4 f142 v0 n0 l0 m0 d0 s0 := tw_vw_tr g138 (fun a9 h9 k9 c9 => by rw [ef142, q_setz (Or.inl (fun q => by rw [q, kv] at k9; exact absurd k9 (by decide)))]) (fun a9 h9 k9 c9 => by rw [ef142, q_setz (Or.inl (fun q => by rw [q, kv] at k9; exact absurd k9 (by decide)))]) (fun a9 h9 k9 c9 => by rw [ef142, q_setz (Or.inl (fun q => by rw [q, kv] at k9; exact absurd k9 (by decide)))]) (fun a9 h9 k9 c9 => by rw [ef142, q_setz (Or.inl (fun q => by rw [q, kv] at k9; exact absurd k9 (by decide)))]) (fun i9 => by rw [ef142, q_setr (Or.inl (fun q => by rw [q, kv] at kn0; exact absurd kn0 (by decide)))]) (fun i9 => by rw [ef142, q_setr (Or.inl (fun q => by rw [q, kv] at kl0; exact absurd kl0 (by decide)))]) (fun i9 => by rw [ef142, q_setr (Or.inl (fun q => by rw [q, kv] at km0; exact absurd km0 (by decide)))])
  refine q_ald_n cx dX4_copyFrom_24 rfl (lv_at hl 0 rfl) ?_
  refine q_ald_n cx dX4_copyFrom_25 rfl (lv_at hl 1 rfl) ?_
  obtain ⟨x151, ex151⟩ : ∃ zz, q_is (q_z f142 p0 3) zz := ⟨_, q_isr _⟩
  obtain ⟨lx151, ux151⟩ := q_isb ex151 (q_fib hB.2.1 hp0 kp0 (by decide) rfl)
  obtain ⟨x152, ex152, nx152⟩ : ∃ zz, q_is (q_z f142 p0 3) zz ∧ zz = x151 := ⟨_, ex151, rfl⟩
  have sx152 : q_is x152 (s0 (27 + Int.toNat lj) 3) := tw_g g150 hp1 (by omega) (by omega) ex152
  refine q_gX4_19 cx hB hp0 kp0 ex152 dX4_copyFrom_26 (fun lb153 ub153 => ?_)
  refine q_pX4_19_72 cx hB hv kv ⟨by omega, by omega⟩ (by omega) (by omega) rfl dX4_copyFrom_29 (fun H locs f154 ef154 z155 hB => ?_)
  have z156 : q_is (q_z f154 p0 0) x121 := by rw [ef154, q_setz (Or.inr (by decide))]; exact z144
  have z157 : q_is (q_z f154 v 0) x122 := by rw [ef154, q_setz (Or.inr (by decide))]; exact z145
  have z158 : q_is (q_z f154 p0 1) x129 := by rw [ef154, q_setz (Or.inr (by decide))]; exact z146
  have z159 : q_is (q_z f154 v 1) x130 := by rw [ef154, q_setz (Or.inr (by decide))]; exact z147
  have z160 : q_is (q_z f154 p0 2) x139 := by rw [ef154, q_setz (Or.inr (by decide))]; exact z148
  have z161 : q_is (q_z f154 v 2) x140 := by rw [ef154, q_setz (Or.inr (by decide))]; exact z143
  have z162 : q_is (q_z f154 p0 3) x151 := by rw [ef154, q_setz (Or.inl (fun q => by rw [q, kv] at kp0; exact absurd kp0 (by decide)))]; exact ex151
  have g163 : tw_vw K L 54 60 66 72 f154 v8 n8 l8 m8 d8 (tw_u (tw_u (tw_u (tw_u s8 (27 + Int.toNat li) 0 x122) (27 + Int.toNat li) 1 x130) (27 + Int.toNat li) 2 x140) (27 + Int.toNat li) 3 x152) := tw_vw_s g149 hp0 (by omega) (by omega) ef154 z155 (fun i9 => by rw [ef154, q_setr (Or.inl (fun q => by rw [q, kv] at kn8; exact absurd kn8 (by decide)))]) (fun i9 => by rw [ef154, q_setr (Or.inl (fun q => by rw [q, kv] at kl8; exact absurd kl8 (by decide)))]) (fun i9 => by rw [ef154, q_setr (Or.inl (fun q => by rw [q, kv] at km8; exact absurd km8 (by decide)))])
  have g164 : tw_vw K L 10 5 3 4 f154 v0 n0 l0 m0 d0 s0 := tw_vw_tr g150 (fun a9 h9 k9 c9 => by rw [ef154, q_setz (Or.inl (fun q => by rw [q, kv] at k9; exact absurd k9 (by decide)))]) (fun a9 h9 k9 c9 => by rw [ef154, q_setz (Or.inl (fun q => by rw [q, kv] at k9; exact absurd k9 (by decide)))]) (fun a9 h9 k9 c9 => by rw [ef154, q_setz (Or.inl (fun q => by rw [q, kv] at k9; exact absurd k9 (by decide)))]) (fun a9 h9 k9 c9 => by rw [ef154, q_setz (Or.inl (fun q => by rw [q, kv] at k9; exact absurd k9 (by decide)))]) (fun i9 => by rw [ef154, q_setr (Or.inl (fun q => by rw [q, kv] at kn0; exact absurd kn0 (by decide)))]) (fun i9 => by rw [ef154, q_setr (Or.inl (fun q => by rw [q, kv] at kl0; exact absurd kl0 (by decide)))]) (fun i9 => by rw [ef154, q_setr (Or.inl (fun q => by rw [q, kv] at km0; exact absurd km0 (by decide)))])
  refine q_ald_n cx dX4_copyFrom_32 rfl (lv_at hl 0 rfl) ?_
  refine q_ald_n cx dX4_copyFrom_33 rfl (lv_at hl 1 rfl) ?_
  obtain ⟨x165, ex165⟩ : ∃ zz, q_is (q_z f154 p0 4) zz := ⟨_, q_isr _⟩
  obtain ⟨lx165, ux165⟩ := q_isb ex165 (q_fib hB.2.1 hp0 kp0 (by decide) rfl)
  obtain ⟨x166, ex166, nx166⟩ : ∃ zz, q_is (q_z f154 p0 4) zz ∧ zz = x165 := ⟨_, ex165, rfl⟩
  have sx166 : q_is x166 (s0 (27 + Int.toNat lj) 4) := tw_g g164 hp1 (by omega) (by omega) ex166
  refine q_gX4_22 cx hB hp0 kp0 ex166 dX4_copyFrom_34 (fun lb167 ub167 => ?_)
  refine q_pX4_22_72 cx hB hv kv ⟨by omega, by omega⟩ (by omega) (by omega) rfl dX4_copyFrom_37 (fun H locs f168 ef168 z169 hB => ?_)
  have z170 : q_is (q_z f168 p0 0) x121 := by rw [ef168, q_setz (Or.inr (by decide))]; exact z156
  have z171 : q_is (q_z f168 v 0) x122 := by rw [ef168, q_setz (Or.inr (by decide))]; exact z157
  have z172 : q_is (q_z f168 p0 1) x129 := by rw [ef168, q_setz (Or.inr (by decide))]; exact z158
  have z173 : q_is (q_z f168 v 1) x130 := by rw [ef168, q_setz (Or.inr (by decide))]; exact z159
  have z174 : q_is (q_z f168 p0 2) x139 := by rw [ef168, q_setz (Or.inr (by decide))]; exact z160
  have z175 : q_is (q_z f168 v 2) x140 := by rw [ef168, q_setz (Or.inr (by decide))]; exact z161
  have z176 : q_is (q_z f168 p0 3) x151 := by rw [ef168, q_setz (Or.inr (by decide))]; exact z162
  have z177 : q_is (q_z f168 v 3) x152 := by rw [ef168, q_setz (Or.inr (by decide))]; exact z155
  have z178 : q_is (q_z f168 p0 4) x165 := by rw [ef168, q_setz (Or.inl (fun q => by rw [q, kv] at kp0; exact absurd kp0 (by decide)))]; exact ex165
  have g179 : tw_vw K L 54 60 66 72 f168 v8 n8 l8 m8 d8 (tw_u (tw_u (tw_u (tw_u (tw_u s8 (27 + Int.toNat li) 0 x122) (27 + Int.toNat li) 1 x130) (27 + Int.toNat li) 2 x140) (27 + Int.toNat li) 3 x152) (27 + Int.toNat li) 4 x166) := tw_vw_s g163 hp0 (by omega) (by omega) ef168 z169 (fun i9 => by rw [ef168, q_setr (Or.inl (fun q => by rw [q, kv] at kn8; exact absurd kn8 (by decide)))]) (fun i9 => by rw [ef168, q_setr (Or.inl (fun q => by rw [q, kv] at kl8; exact absurd kl8 (by decide)))]) (fun i9 => by rw [ef168, q_setr (Or.inl (fun q => by rw [q, kv] at km8; exact absurd km8 (by decide)))])
  have g180 : tw_vw K L 10 5 3 4 f168 v0 n0 l0 m0 d0 s0 := tw_vw_tr g164 (fun a9 h9 k9 c9 => by rw [ef168, q_setz (Or.inl (fun q => by rw [q, kv] at k9; exact absurd k9 (by decide)))]) (fun a9 h9 k9 c9 => by rw [ef168, q_setz (Or.inl (fun q => by rw [q, kv] at k9; exact absurd k9 (by decide)))]) (fun a9 h9 k9 c9 => by rw [ef168, q_setz (Or.inl (fun q => by rw [q, kv] at k9; exact absurd k9 (by decide)))]) (fun a9 h9 k9 c9 => by rw [ef168, q_setz (Or.inl (fun q => by rw [q, kv] at k9; exact absurd k9 (by decide)))]) (fun i9 => by rw [ef168, q_setr (Or.inl (fun q => by rw [q, kv] at kn0; exact absurd kn0 (by decide)))]) (fun i9 => by rw [ef168, q_setr (Or.inl (fun q => by rw [q, kv] at kl0; exact absurd kl0 (by decide)))]) (fun i9 => by rw [ef168, q_setr (Or.inl (fun q => by rw [q, kv] at km0; exact absurd km0 (by decide)))])
  refine q_ald_n cx dX4_copyFrom_40 rfl (lv_at hl 0 rfl) ?_
  refine q_ald_n cx dX4_copyFrom_41 rfl (lv_at hl 1 rfl) ?_
  obtain ⟨x181, ex181⟩ : ∃ zz, q_is (q_z f168 p0 5) zz := ⟨_, q_isr _⟩
  obtain ⟨lx181, ux181⟩ := q_isb ex181 (q_fib hB.2.1 hp0 kp0 (by decide) rfl)
  obtain ⟨x182, ex182, nx182⟩ : ∃ zz, q_is (q_z f168 p0 5) zz ∧ zz = x181 := ⟨_, ex181, rfl⟩
  have sx182 : q_is x182 (s0 (27 + Int.toNat lj) 5) := tw_g g180 hp1 (by omega) (by omega) ex182
  refine q_gX4_25 cx hB hp0 kp0 ex182 dX4_copyFrom_42 (fun lb183 ub183 => ?_)
  refine q_pX4_25_72 cx hB hv kv ⟨by omega, by omega⟩ (by omega) (by omega) rfl dX4_copyFrom_45 (fun H locs f184 ef184 z185 hB => ?_)
  have z186 : q_is (q_z f184 p0 0) x121 := by rw [ef184, q_setz (Or.inr (by decide))]; exact z170
  have z187 : q_is (q_z f184 v 0) x122 := by rw [ef184, q_setz (Or.inr (by decide))]; exact z171
  have z188 : q_is (q_z f184 p0 1) x129 := by rw [ef184, q_setz (Or.inr (by decide))]; exact z172
  have z189 : q_is (q_z f184 v 1) x130 := by rw [ef184, q_setz (Or.inr (by decide))]; exact z173
  have z190 : q_is (q_z f184 p0 2) x139 := by rw [ef184, q_setz (Or.inr (by decide))]; exact z174
  have z191 : q_is (q_z f184 v 2) x140 := by rw [ef184, q_setz (Or.inr (by decide))]; exact z175
  have z192 : q_is (q_z f184 p0 3) x151 := by rw [ef184, q_setz (Or.inr (by decide))]; exact z176
  have z193 : q_is (q_z f184 v 3) x152 := by rw [ef184, q_setz (Or.inr (by decide))]; exact z177
  have z194 : q_is (q_z f184 p0 4) x165 := by rw [ef184, q_setz (Or.inr (by decide))]; exact z178
  have z195 : q_is (q_z f184 v 4) x166 := by rw [ef184, q_setz (Or.inr (by decide))]; exact z169
  have z196 : q_is (q_z f184 p0 5) x181 := by rw [ef184, q_setz (Or.inl (fun q => by rw [q, kv] at kp0; exact absurd kp0 (by decide)))]; exact ex181
  have g197 : tw_vw K L 54 60 66 72 f184 v8 n8 l8 m8 d8 (tw_u (tw_u (tw_u (tw_u (tw_u (tw_u s8 (27 + Int.toNat li) 0 x122) (27 + Int.toNat li) 1 x130) (27 + Int.toNat li) 2 x140) (27 + Int.toNat li) 3 x152) (27 + Int.toNat li) 4 x166) (27 + Int.toNat li) 5 x182) := tw_vw_s g179 hp0 (by omega) (by omega) ef184 z185 (fun i9 => by rw [ef184, q_setr (Or.inl (fun q => by rw [q, kv] at kn8; exact absurd kn8 (by decide)))]) (fun i9 => by rw [ef184, q_setr (Or.inl (fun q => by rw [q, kv] at kl8; exact absurd kl8 (by decide)))]) (fun i9 => by rw [ef184, q_setr (Or.inl (fun q => by rw [q, kv] at km8; exact absurd km8 (by decide)))])
  have g198 : tw_vw K L 10 5 3 4 f184 v0 n0 l0 m0 d0 s0 := tw_vw_tr g180 (fun a9 h9 k9 c9 => by rw [ef184, q_setz (Or.inl (fun q => by rw [q, kv] at k9; exact absurd k9 (by decide)))]) (fun a9 h9 k9 c9 => by rw [ef184, q_setz (Or.inl (fun q => by rw [q, kv] at k9; exact absurd k9 (by decide)))]) (fun a9 h9 k9 c9 => by rw [ef184, q_setz (Or.inl (fun q => by rw [q, kv] at k9; exact absurd k9 (by decide)))]) (fun a9 h9 k9 c9 => by rw [ef184, q_setz (Or.inl (fun q => by rw [q, kv] at k9; exact absurd k9 (by decide)))]) (fun i9 => by rw [ef184, q_setr (Or.inl (fun q => by rw [q, kv] at kn0; exact absurd kn0 (by decide)))]) (fun i9 => by rw [ef184, q_setr (Or.inl (fun q => by rw [q, kv] at kl0; exact absurd kl0 (by decide)))]) (fun i9 => by rw [ef184, q_setr (Or.inl (fun q => by rw [q, kv] at km0; exact absurd km0 (by decide)))])
  refine q_ald_n cx dX4_copyFrom_48 rfl (lv_at hl 0 rfl) ?_
  refine q_ald_n cx dX4_copyFrom_49 rfl (lv_at hl 1 rfl) ?_
  obtain ⟨x199, ex199⟩ : ∃ zz, q_is (q_z f184 p0 6) zz := ⟨_, q_isr _⟩
  obtain ⟨lx199, ux199⟩ := q_isb ex199 (q_fib hB.2.1 hp0 kp0 (by decide) rfl)
  obtain ⟨x200, ex200, nx200⟩ : ∃ zz, q_is (q_z f184 p0 6) zz ∧ zz = x199 := ⟨_, ex199, rfl⟩
  have sx200 : q_is x200 (s0 (27 + Int.toNat lj) 6) := tw_g g198 hp1 (by omega) (by omega) ex200
  refine q_gX4_28 cx hB hp0 kp0 ex200 dX4_copyFrom_50 (fun lb201 ub201 => ?_)
  refine q_pX4_28_72 cx hB hv kv ⟨by omega, by omega⟩ (by omega) (by omega) rfl dX4_copyFrom_53 (fun H locs f202 ef202 z203 hB => ?_)
  have z204 : q_is (q_z f202 p0 0) x121 := by rw [ef202, q_setz (Or.inr (by decide))]; exact z186
  have z205 : q_is (q_z f202 v 0) x122 := by rw [ef202, q_setz (Or.inr (by decide))]; exact z187
  have z206 : q_is (q_z f202 p0 1) x129 := by rw [ef202, q_setz (Or.inr (by decide))]; exact z188
  have z207 : q_is (q_z f202 v 1) x130 := by rw [ef202, q_setz (Or.inr (by decide))]; exact z189
  have z208 : q_is (q_z f202 p0 2) x139 := by rw [ef202, q_setz (Or.inr (by decide))]; exact z190
  have z209 : q_is (q_z f202 v 2) x140 := by rw [ef202, q_setz (Or.inr (by decide))]; exact z191
  have z210 : q_is (q_z f202 p0 3) x151 := by rw [ef202, q_setz (Or.inr (by decide))]; exact z192
  have z211 : q_is (q_z f202 v 3) x152 := by rw [ef202, q_setz (Or.inr (by decide))]; exact z193
  have z212 : q_is (q_z f202 p0 4) x165 := by rw [ef202, q_setz (Or.inr (by decide))]; exact z194
  have z213 : q_is (q_z f202 v 4) x166 := by rw [ef202, q_setz (Or.inr (by decide))]; exact z195
  have z214 : q_is (q_z f202 p0 5) x181 := by rw [ef202, q_setz (Or.inr (by decide))]; exact z196
  have z215 : q_is (q_z f202 v 5) x182 := by rw [ef202, q_setz (Or.inr (by decide))]; exact z185
  have z216 : q_is (q_z f202 p0 6) x199 := by rw [ef202, q_setz (Or.inl (fun q => by rw [q, kv] at kp0; exact absurd kp0 (by decide)))]; exact ex199
  have g217 : tw_vw K L 54 60 66 72 f202 v8 n8 l8 m8 d8 (tw_u (tw_u (tw_u (tw_u (tw_u (tw_u (tw_u s8 (27 + Int.toNat li) 0 x122) (27 + Int.toNat li) 1 x130) (27 + Int.toNat li) 2 x140) (27 + Int.toNat li) 3 x152) (27 + Int.toNat li) 4 x166) (27 + Int.toNat li) 5 x182) (27 + Int.toNat li) 6 x200) := tw_vw_s g197 hp0 (by omega) (by omega) ef202 z203 (fun i9 => by rw [ef202, q_setr (Or.inl (fun q => by rw [q, kv] at kn8; exact absurd kn8 (by decide)))]) (fun i9 => by rw [ef202, q_setr (Or.inl (fun q => by rw [q, kv] at kl8; exact absurd kl8 (by decide)))]) (fun i9 => by rw [ef202, q_setr (Or.inl (fun q => by rw [q, kv] at km8; exact absurd km8 (by decide)))])
  have g218 : tw_vw K L 10 5 3 4 f202 v0 n0 l0 m0 d0 s0 := tw_vw_tr g198 (fun a9 h9 k9 c9 => by rw [ef202, q_setz (Or.inl (fun q => by rw [q, kv] at k9; exact absurd k9 (by decide)))]) (fun a9 h9 k9 c9 => by rw [ef202, q_setz (Or.inl (fun q => by rw [q, kv] at k9; exact absurd k9 (by decide)))]) (fun a9 h9 k9 c9 => by rw [ef202, q_setz (Or.inl (fun q => by rw [q, kv] at k9; exact absurd k9 (by decide)))]) (fun a9 h9 k9 c9 => by rw [ef202, q_setz (Or.inl (fun q => by rw [q, kv] at k9; exact absurd k9 (by decide)))]) (fun i9 => by rw [ef202, q_setr (Or.inl (fun q => by rw [q, kv] at kn0; exact absurd kn0 (by decide)))]) (fun i9 => by rw [ef202, q_setr (Or.inl (fun q => by rw [q, kv] at kl0; exact absurd kl0 (by decide)))]) (fun i9 => by rw [ef202, q_setr (Or.inl (fun q => by rw [q, kv] at km0; exact absurd km0 (by decide)))])
  refine q_ald_n cx dX4_copyFrom_56 rfl (lv_at hl 0 rfl) ?_
  refine q_ald_n cx dX4_copyFrom_57 rfl (lv_at hl 1 rfl) ?_
  obtain ⟨x219, ex219⟩ : ∃ zz, q_is (q_z f202 p0 7) zz := ⟨_, q_isr _⟩
  obtain ⟨lx219, ux219⟩ := q_isb ex219 (q_fib hB.2.1 hp0 kp0 (by decide) rfl)
  obtain ⟨x220, ex220, nx220⟩ : ∃ zz, q_is (q_z f202 p0 7) zz ∧ zz = x219 := ⟨_, ex219, rfl⟩
  have sx220 : q_is x220 (s0 (27 + Int.toNat lj) 7) := tw_g g218 hp1 (by omega) (by omega) ex220
  refine q_gX4_31 cx hB hp0 kp0 ex220 dX4_copyFrom_58 (fun lb221 ub221 => ?_)
  refine q_pX4_31_72 cx hB hv kv ⟨by omega, by omega⟩ (by omega) (by omega) rfl dX4_copyFrom_61 (fun H locs f222 ef222 z223 hB => ?_)
  have z224 : q_is (q_z f222 p0 0) x121 := by rw [ef222, q_setz (Or.inr (by decide))]; exact z204
  have z225 : q_is (q_z f222 v 0) x122 := by rw [ef222, q_setz (Or.inr (by decide))]; exact z205
  have z226 : q_is (q_z f222 p0 1) x129 := by rw [ef222, q_setz (Or.inr (by decide))]; exact z206
  have z227 : q_is (q_z f222 v 1) x130 := by rw [ef222, q_setz (Or.inr (by decide))]; exact z207
  have z228 : q_is (q_z f222 p0 2) x139 := by rw [ef222, q_setz (Or.inr (by decide))]; exact z208
  have z229 : q_is (q_z f222 v 2) x140 := by rw [ef222, q_setz (Or.inr (by decide))]; exact z209
  have z230 : q_is (q_z f222 p0 3) x151 := by rw [ef222, q_setz (Or.inr (by decide))]; exact z210
  have z231 : q_is (q_z f222 v 3) x152 := by rw [ef222, q_setz (Or.inr (by decide))]; exact z211
  have z232 : q_is (q_z f222 p0 4) x165 := by rw [ef222, q_setz (Or.inr (by decide))]; exact z212
  have z233 : q_is (q_z f222 v 4) x166 := by rw [ef222, q_setz (Or.inr (by decide))]; exact z213
  have z234 : q_is (q_z f222 p0 5) x181 := by rw [ef222, q_setz (Or.inr (by decide))]; exact z214
  have z235 : q_is (q_z f222 v 5) x182 := by rw [ef222, q_setz (Or.inr (by decide))]; exact z215
  have z236 : q_is (q_z f222 p0 6) x199 := by rw [ef222, q_setz (Or.inr (by decide))]; exact z216
  have z237 : q_is (q_z f222 v 6) x200 := by rw [ef222, q_setz (Or.inr (by decide))]; exact z203
  have z238 : q_is (q_z f222 p0 7) x219 := by rw [ef222, q_setz (Or.inl (fun q => by rw [q, kv] at kp0; exact absurd kp0 (by decide)))]; exact ex219
  have g239 : tw_vw K L 54 60 66 72 f222 v8 n8 l8 m8 d8 (tw_u (tw_u (tw_u (tw_u (tw_u (tw_u (tw_u (tw_u s8 (27 + Int.toNat li) 0 x122) (27 + Int.toNat li) 1 x130) (27 + Int.toNat li) 2 x140) (27 + Int.toNat li) 3 x152) (27 + Int.toNat li) 4 x166) (27 + Int.toNat li) 5 x182) (27 + Int.toNat li) 6 x200) (27 + Int.toNat li) 7 x220) := tw_vw_s g217 hp0 (by omega) (by omega) ef222 z223 (fun i9 => by rw [ef222, q_setr (Or.inl (fun q => by rw [q, kv] at kn8; exact absurd kn8 (by decide)))]) (fun i9 => by rw [ef222, q_setr (Or.inl (fun q => by rw [q, kv] at kl8; exact absurd kl8 (by decide)))]) (fun i9 => by rw [ef222, q_setr (Or.inl (fun q => by rw [q, kv] at km8; exact absurd km8 (by decide)))])
  have g240 : tw_vw K L 10 5 3 4 f222 v0 n0 l0 m0 d0 s0 := tw_vw_tr g218 (fun a9 h9 k9 c9 => by rw [ef222, q_setz (Or.inl (fun q => by rw [q, kv] at k9; exact absurd k9 (by decide)))]) (fun a9 h9 k9 c9 => by rw [ef222, q_setz (Or.inl (fun q => by rw [q, kv] at k9; exact absurd k9 (by decide)))]) (fun a9 h9 k9 c9 => by rw [ef222, q_setz (Or.inl (fun q => by rw [q, kv] at k9; exact absurd k9 (by decide)))]) (fun a9 h9 k9 c9 => by rw [ef222, q_setz (Or.inl (fun q => by rw [q, kv] at k9; exact absurd k9 (by decide)))]) (fun i9 => by rw [ef222, q_setr (Or.inl (fun q => by rw [q, kv] at kn0; exact absurd kn0 (by decide)))]) (fun i9 => by rw [ef222, q_setr (Or.inl (fun q => by rw [q, kv] at kl0; exact absurd kl0 (by decide)))]) (fun i9 => by rw [ef222, q_setr (Or.inl (fun q => by rw [q, kv] at km0; exact absurd km0 (by decide)))])
  refine q_vret cx hr hlk hB dX4_copyFrom_64 ?_
  exact (tw_cg g239 (by have t0_ : x122 = s0 (27 + Int.toNat lj) 0 := sx122; have t1_ : x130 = s0 (27 + Int.toNat lj) 1 := sx130; have t2_ : x140 = s0 (27 + Int.toNat lj) 2 := sx140; have t3_ : x152 = s0 (27 + Int.toNat lj) 3 := sx152; have t4_ : x166 = s0 (27 + Int.toNat lj) 4 := sx166; have t5_ : x182 = s0 (27 + Int.toNat lj) 5 := sx182; have t6_ : x200 = s0 (27 + Int.toNat lj) 6 := sx200; have t7_ : x220 = s0 (27 + Int.toNat lj) 7 := sx220; (try simp only [t0_, t1_, t2_, t3_, t4_, t5_, t6_, t7_]); (repeat' split) <;> first | rfl | (exfalso; omega)))
