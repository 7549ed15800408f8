set_option maxHeartbeats 4000000 in
set_option maxRecDepth 100000 in
theorem r_charge (l : Launch) (g : q_G) {K : Nat → Nat} {L : List Nat} (hN : L.Nodup) {f : Nat → va_E} (hT : q_Ty g K L f) (mo : Nat) (hmo : mo ∈ L) (kmo : K mo = 12) (a0 : Int) (la0 : (-2147483648) ≤ a0) (ua0 : a0 ≤ 2147483647) (b0 : Int) (lb0 : (-2147483648) ≤ b0) (ub0 : b0 ≤ 2147483647) (sr : Nat) (hsr : sr ∈ L) (ksr : K sr = 151) (as : Nat) (has : as ∈ L) (kas : K as = 153) (pa : Nat) (hpa : pa ∈ L) (kpa : K pa = 155) (xt : Int) (lxt : 0 ≤ xt) (uxt : xt ≤ 9999) (xm : Int) (lxm : 0 ≤ xm) (uxm : xm ≤ 60) (hf0 : q_is (q_z f sr 3) xt) (hf1 : q_is (q_z f sr 4) xm) (hr0 : q_ir (q_r f mo 13) sr) (hr1 : q_ir (q_r f mo 15) as) (hr2 : q_ir (q_r f mo 17) pa) (hgr : q_gr f sr) (hpk : q_pk f mo pa) : q_Ct l g K L yX12_charge cX12_charge 3 (some .int) 3 66 [.ref mo, .int (q_i a0), .int (q_i b0)] f [(12, 0, 0), (12, 21, 21), (151, 12, 84), (153, 0, 657), (155, 0, 3947)] (q_Pi (fun (z : Int) (f1 : Nat → va_E) => (-198) ≤ z ∧ z ≤ 9999 ∧ 0 ≤ q_z f1 sr 3 ∧ q_z f1 sr 3 ≤ 9999 ∧ 0 ≤ q_z f1 sr 4 ∧ q_z f1 sr 4 ≤ 60 ∧ q_gr f1 sr ∧ (q_pk f1 mo pa))) := by
  refine q_ofb (by decide +kernel) hN hT (Nat.le_of_ble_eq_true rfl) ?_
  intro p e s m below meth c ls cx hr hlk hB hl
  have hl : lv_has ls 3 [(0, .ref mo), (1, .int (q_i a0)), (2, .int (q_i b0))] := hl
  obtain ⟨H, hH⟩ : ∃ H : Heap, H = s.heap := ⟨_, rfl⟩
  obtain ⟨locs, hlocs⟩ : ∃ z : List Loc, z = [] := ⟨_, rfl⟩
  rw [← hH, ← hlocs] at hB
  rw [← hH, ← hlocs]
  refine q_ald_n cx dX12_charge_0 rfl (lv_at hl 0 rfl) ?_
  refine q_ald_n cx dX12_charge_1 rfl (lv_at hl 0 rfl) ?_
  refine q_ild_n cx dX12_charge_2 rfl (lv_at hl 1 rfl) ?_
  refine q_cVi (As := [.int (q_i a0)]) (rest := [.ref mo]) cx hB (fun _ h => h) hN hmo kmo (by decide) rfl (r_isNode l g hN hB.2.1 mo hmo kmo a0 (by omega) (by omega) sr hsr ksr hr0) q_cX12_355 q_dX12_isNode (by decide) rfl rfl hl.1 rfl (Nat.le_of_ble_eq_true rfl) dX12_charge_3 (fun y110 H locs f109 ry110 h111 hF hB => ?_)
  rcases h111 with h112 | h113
  · obtain ⟨rfl, qy110, t114, t115⟩ := h112
    subst qy110
    refine q_ild_n cx dX12_charge_6 rfl (lv_at hl 2 rfl) ?_
    refine q_cSi (As := [.int (q_i b0)]) (rest := [.int (q_i 1), .ref mo]) cx hB (fun _ h => h) hN (r_isMany l g hN hB.2.1 b0 (by omega) (by omega)) q_cX12_452 q_dX12_isMany (by decide) rfl rfl hl.1 rfl (Nat.le_of_ble_eq_true rfl) dX12_charge_7 (fun y117 H locs f116 ry117 h118 hF hB => ?_)
    rcases h118 with h119 | h120
    · obtain ⟨rfl, qy117, t121, t122⟩ := h119
      subst qy117
      refine q_cVi (As := [.int (q_i 1), .int (q_i 1)]) (rest := []) cx hB (fun _ h => h) hN hmo kmo (by decide) rfl (r_goesBoth2 l g hN hB.2.1 mo hmo kmo 1 (by decide) (by decide) 1 (by decide) (by decide)) q_cX12_358 q_dX12_goesBoth (by decide) rfl rfl hl.1 rfl (Nat.le_of_ble_eq_true rfl) dX12_charge_10 (fun y124 H locs f123 ry124 h125 hF hB => ?_)
      obtain ⟨qy124, z126⟩ := h125
      have z127 : q_is (q_z f123 sr 3) xt := Eq.trans (hF.z hsr (by rw [ksr]; rfl)) hf0
      have z128 : q_is (q_z f123 sr 4) xm := Eq.trans (hF.z hsr (by rw [ksr]; rfl)) hf1
      have z129 : q_ir (q_r f123 mo 13) sr := Eq.trans (hF.r hmo (by rw [kmo]; rfl)) hr0
      have z130 : q_ir (q_r f123 mo 15) as := Eq.trans (hF.r hmo (by rw [kmo]; rfl)) hr1
      have z131 : q_ir (q_r f123 mo 17) pa := Eq.trans (hF.r hmo (by rw [kmo]; rfl)) hr2
      have g132 : q_gr f123 sr := q_gr_fr hgr (fun i9 _ => hF.z hsr (by rw [ksr]; rfl))
      have g133 : q_pk f123 mo pa := q_pk_tr hpk (hF.z hmo (by rw [kmo]; rfl)) (fun i9 => hF.z hpa (by rw [kpa]; rfl))
      subst qy124
      refine q_ifne (tgt := 18) cx ⟨by decide, by decide⟩ dX12_charge_13 (by decide) (fun c134 => ?_) (fun c134 => ?_)
      · refine q_ald_n cx dX12_charge_18 rfl (lv_at hl 0 rfl) ?_
        refine q_cVv (As := []) (rest := []) cx hB (fun _ h => h) hN hmo kmo (by decide) rfl (r_laysAside l g hN hB.2.1 mo hmo kmo sr hsr ksr as has kas xt (by omega) (by omega) xm (by omega) (by omega) z127 z128 z129 z130 g132) q_cX12_247 q_dX12_laysAside (by decide) rfl rfl hl.1 rfl (Nat.le_of_ble_eq_true rfl) dX12_charge_19 (fun H locs f135 h137 hF hB => ?_)
        obtain ⟨lz138, uz138⟩ := h137
        have z139 : q_is (q_z f135 sr 3) xt := Eq.trans (hF.z hsr (by rw [ksr]; rfl)) z127
        have z140 : q_is (q_z f135 sr 4) xm := Eq.trans (hF.z hsr (by rw [ksr]; rfl)) z128
        have z141 : q_is (q_z f135 mo 0) 0 := Eq.trans (hF.z hmo (by rw [kmo]; rfl)) z126
        have z142 : q_ir (q_r f135 mo 13) sr := Eq.trans (hF.r hmo (by rw [kmo]; rfl)) z129
        have z143 : q_ir (q_r f135 mo 15) as := Eq.trans (hF.r hmo (by rw [kmo]; rfl)) z130
        have z144 : q_ir (q_r f135 mo 17) pa := Eq.trans (hF.r hmo (by rw [kmo]; rfl)) z131
        have g145 : q_gr f135 sr := q_gr_fr g132 (fun i9 _ => hF.z hsr (by rw [ksr]; rfl))
        have g146 : q_pk f135 mo pa := q_pk_tr g133 (hF.z hmo (by rw [kmo]; rfl)) (fun i9 => hF.z hpa (by rw [kpa]; rfl))
        obtain ⟨x147, ex147⟩ : ∃ zz, q_is (q_z f135 as 2) zz := ⟨_, q_isr _⟩
        obtain ⟨lx147, ux147⟩ := q_isb ex147 ⟨lz138, uz138⟩
        refine q_ald_n cx dX12_charge_22 rfl (lv_at hl 0 rfl) ?_
        refine q_ald_n cx dX12_charge_23 rfl (lv_at hl 0 rfl) ?_
        refine q_ild_n cx dX12_charge_24 rfl (lv_at hl 1 rfl) ?_
        refine q_ild_n cx dX12_charge_25 rfl (lv_at hl 2 rfl) ?_
        refine q_cVi (As := [.int (q_i a0), .int (q_i b0)]) (rest := [.ref mo]) cx hB (fun _ h => h) hN hmo kmo (by decide) rfl (r_charges l g hN hB.2.1 mo hmo kmo a0 (by omega) (by omega) b0 (by omega) (by omega) sr hsr ksr z142 g145) q_cX12_465 q_dX12_charges (by decide) rfl rfl hl.1 rfl (Nat.le_of_ble_eq_true rfl) dX12_charge_26 (fun y149 H locs f148 ry149 h150 hF hB => ?_)
        obtain ⟨ly149, uy149, g151⟩ := h150
        have z152 : q_is (q_z f148 sr 3) xt := Eq.trans (hF.z hsr (by rw [ksr]; rfl)) z139
        have z153 : q_is (q_z f148 sr 4) xm := Eq.trans (hF.z hsr (by rw [ksr]; rfl)) z140
        have z154 : q_is (q_z f148 mo 0) 0 := Eq.trans (hF.z hmo (by rw [kmo]; rfl)) z141
        have z155 : q_is (q_z f148 as 2) x147 := Eq.trans (hF.z has (by rw [kas]; rfl)) ex147
        have z156 : q_ir (q_r f148 mo 13) sr := Eq.trans (hF.r hmo (by rw [kmo]; rfl)) z142
        have z157 : q_ir (q_r f148 mo 15) as := Eq.trans (hF.r hmo (by rw [kmo]; rfl)) z143
        have z158 : q_ir (q_r f148 mo 17) pa := Eq.trans (hF.r hmo (by rw [kmo]; rfl)) z144
        have g159 : q_pk f148 mo pa := q_pk_tr g146 (hF.z hmo (by rw [kmo]; rfl)) (fun i9 => hF.z hpa (by rw [kpa]; rfl))
        refine q_cVi (As := [.int (q_i y149)]) (rest := []) cx hB (fun _ h => h) hN hmo kmo (by decide) rfl (r_kept l g hN hB.2.1 mo hmo kmo y149 (by omega) (by omega) as has kas pa hpa kpa x147 (by omega) (by omega) z155 z157 z158 g159) q_cX12_449 q_dX12_kept (by decide) rfl rfl hl.1 rfl (Nat.le_of_ble_eq_true rfl) dX12_charge_29 (fun y161 H locs f160 ry161 h162 hF hB => ?_)
        obtain ⟨qy161, g163⟩ := h162
        have z164 : q_is (q_z f160 sr 3) xt := Eq.trans (hF.z hsr (by rw [ksr]; rfl)) z152
        have z165 : q_is (q_z f160 sr 4) xm := Eq.trans (hF.z hsr (by rw [ksr]; rfl)) z153
        have z166 : q_is (q_z f160 mo 0) 0 := Eq.trans (hF.z hmo (by rw [kmo]; rfl)) z154
        have z167 : q_is (q_z f160 as 2) x147 := Eq.trans (hF.z has (by rw [kas]; rfl)) z155
        have z168 : q_ir (q_r f160 mo 13) sr := Eq.trans (hF.r hmo (by rw [kmo]; rfl)) z156
        have z169 : q_ir (q_r f160 mo 15) as := Eq.trans (hF.r hmo (by rw [kmo]; rfl)) z157
        have z170 : q_ir (q_r f160 mo 17) pa := Eq.trans (hF.r hmo (by rw [kmo]; rfl)) z158
        have g171 : q_gr f160 sr := q_gr_fr g151 (fun i9 _ => hF.z hsr (by rw [ksr]; rfl))
        refine q_iret cx hr hlk hB dX12_charge_32 ⟨by omega, by omega⟩ ?_
        exact ⟨(by omega), (by omega), (q_isl z164 (by omega)), (q_isu z164 (by omega)), (q_isl z165 (by omega)), (q_isu z165 (by omega)), g171, g163⟩
      · exact absurd c134 (by omega)
    · obtain ⟨rfl, qy117, t172⟩ := h120
      subst qy117
      refine q_cVi (As := [.int (q_i 1), .int (q_i 0)]) (rest := []) cx hB (fun _ h => h) hN hmo kmo (by decide) rfl (r_goesBoth1 l g hN hB.2.1 mo hmo kmo 1 (by decide) (by decide) 0 (by decide) (by decide)) q_cX12_358 q_dX12_goesBoth (by decide) rfl rfl hl.1 rfl (Nat.le_of_ble_eq_true rfl) dX12_charge_10 (fun y174 H locs f173 ry174 h175 hF hB => ?_)
      obtain ⟨qy174, z176⟩ := h175
      have z177 : q_is (q_z f173 sr 3) xt := Eq.trans (hF.z hsr (by rw [ksr]; rfl)) hf0
      have z178 : q_is (q_z f173 sr 4) xm := Eq.trans (hF.z hsr (by rw [ksr]; rfl)) hf1
      have z179 : q_ir (q_r f173 mo 13) sr := Eq.trans (hF.r hmo (by rw [kmo]; rfl)) hr0
      have z180 : q_ir (q_r f173 mo 15) as := Eq.trans (hF.r hmo (by rw [kmo]; rfl)) hr1
      have z181 : q_ir (q_r f173 mo 17) pa := Eq.trans (hF.r hmo (by rw [kmo]; rfl)) hr2
      have g182 : q_gr f173 sr := q_gr_fr hgr (fun i9 _ => hF.z hsr (by rw [ksr]; rfl))
      have g183 : q_pk f173 mo pa := q_pk_tr hpk (hF.z hmo (by rw [kmo]; rfl)) (fun i9 => hF.z hpa (by rw [kpa]; rfl))
      subst qy174
      refine q_ifne (tgt := 18) cx ⟨by decide, by decide⟩ dX12_charge_13 (by decide) (fun c184 => ?_) (fun c184 => ?_)
      · exact absurd c184 (by omega)
      · refine q_iconst cx dX12_charge_16 ?_
        refine q_iret cx hr hlk hB dX12_charge_17 ⟨by decide, by decide⟩ ?_
        exact ⟨(by decide), (by decide), (q_isl z177 (by omega)), (q_isu z177 (by omega)), (q_isl z178 (by omega)), (q_isu z178 (by omega)), g182, g183⟩
  · obtain ⟨rfl, qy110⟩ := h113
    subst qy110
    refine q_ild_n cx dX12_charge_6 rfl (lv_at hl 2 rfl) ?_
    refine q_cSi (As := [.int (q_i b0)]) (rest := [.int (q_i 0), .ref mo]) cx hB (fun _ h => h) hN (r_isMany l g hN hB.2.1 b0 (by omega) (by omega)) q_cX12_452 q_dX12_isMany (by decide) rfl rfl hl.1 rfl (Nat.le_of_ble_eq_true rfl) dX12_charge_7 (fun y186 H locs f185 ry186 h187 hF hB => ?_)
    rcases h187 with h188 | h189
    · obtain ⟨rfl, qy186, t190, t191⟩ := h188
      subst qy186
      refine q_cVi (As := [.int (q_i 0), .int (q_i 1)]) (rest := []) cx hB (fun _ h => h) hN hmo kmo (by decide) rfl (r_goesBoth0 l g hN hB.2.1 mo hmo kmo 0 (by decide) (by decide) 1 (by decide) (by decide)) q_cX12_358 q_dX12_goesBoth (by decide) rfl rfl hl.1 rfl (Nat.le_of_ble_eq_true rfl) dX12_charge_10 (fun y193 H locs f192 ry193 h194 hF hB => ?_)
      obtain ⟨qy193, z195⟩ := h194
      have z196 : q_is (q_z f192 sr 3) xt := Eq.trans (hF.z hsr (by rw [ksr]; rfl)) hf0
      have z197 : q_is (q_z f192 sr 4) xm := Eq.trans (hF.z hsr (by rw [ksr]; rfl)) hf1
      have z198 : q_ir (q_r f192 mo 13) sr := Eq.trans (hF.r hmo (by rw [kmo]; rfl)) hr0
      have z199 : q_ir (q_r f192 mo 15) as := Eq.trans (hF.r hmo (by rw [kmo]; rfl)) hr1
      have z200 : q_ir (q_r f192 mo 17) pa := Eq.trans (hF.r hmo (by rw [kmo]; rfl)) hr2
      have g201 : q_gr f192 sr := q_gr_fr hgr (fun i9 _ => hF.z hsr (by rw [ksr]; rfl))
      have g202 : q_pk f192 mo pa := q_pk_tr hpk (hF.z hmo (by rw [kmo]; rfl)) (fun i9 => hF.z hpa (by rw [kpa]; rfl))
      subst qy193
      refine q_ifne (tgt := 18) cx ⟨by decide, by decide⟩ dX12_charge_13 (by decide) (fun c203 => ?_) (fun c203 => ?_)
      · exact absurd c203 (by omega)
      · refine q_iconst cx dX12_charge_16 ?_
        refine q_iret cx hr hlk hB dX12_charge_17 ⟨by decide, by decide⟩ ?_
        exact ⟨(by decide), (by decide), (q_isl z196 (by omega)), (q_isu z196 (by omega)), (q_isl z197 (by omega)), (q_isu z197 (by omega)), g201, g202⟩
    · obtain ⟨rfl, qy186, t204⟩ := h189
      subst qy186
      refine q_cVi (As := [.int (q_i 0), .int (q_i 0)]) (rest := []) cx hB (fun _ h => h) hN hmo kmo (by decide) rfl (r_goesBoth0 l g hN hB.2.1 mo hmo kmo 0 (by decide) (by decide) 0 (by decide) (by decide)) q_cX12_358 q_dX12_goesBoth (by decide) rfl rfl hl.1 rfl (Nat.le_of_ble_eq_true rfl) dX12_charge_10 (fun y206 H locs f205 ry206 h207 hF hB => ?_)
      obtain ⟨qy206, z208⟩ := h207
      have z209 : q_is (q_z f205 sr 3) xt := Eq.trans (hF.z hsr (by rw [ksr]; rfl)) hf0
      have z210 : q_is (q_z f205 sr 4) xm := Eq.trans (hF.z hsr (by rw [ksr]; rfl)) hf1
      have z211 : q_ir (q_r f205 mo 13) sr := Eq.trans (hF.r hmo (by rw [kmo]; rfl)) hr0
      have z212 : q_ir (q_r f205 mo 15) as := Eq.trans (hF.r hmo (by rw [kmo]; rfl)) hr1
      have z213 : q_ir (q_r f205 mo 17) pa := Eq.trans (hF.r hmo (by rw [kmo]; rfl)) hr2
      have g214 : q_gr f205 sr := q_gr_fr hgr (fun i9 _ => hF.z hsr (by rw [ksr]; rfl))
      have g215 : q_pk f205 mo pa := q_pk_tr hpk (hF.z hmo (by rw [kmo]; rfl)) (fun i9 => hF.z hpa (by rw [kpa]; rfl))
      subst qy206
      refine q_ifne (tgt := 18) cx ⟨by decide, by decide⟩ dX12_charge_13 (by decide) (fun c216 => ?_) (fun c216 => ?_)
      · exact absurd c216 (by omega)
      · refine q_iconst cx dX12_charge_16 ?_
        refine q_iret cx hr hlk hB dX12_charge_17 ⟨by decide, by decide⟩ ?_
        exact ⟨(by decide), (by decide), (q_isl z209 (by omega)), (q_isu z209 (by omega)), (q_isl z210 (by omega)), (q_isu z210 (by omega)), g214, g215⟩
set_option maxHeartbeats 4000000 in
set_option maxRecDepth 100000 in
theorem r_watch (l : Launch) (g : q_G) {K : Nat → Nat} {L : List Nat} (hN : L.Nodup) {f : Nat → va_E} (hT : q_Ty g K L f) (mo : Nat) (hmo : mo ∈ L) (kmo : K mo = 12) (a0 : Int) (la0 : (-2147483648) ≤ a0) (ua0 : a0 ≤ 2147483647) (b0 : Int) (lb0 : (-2147483648) ≤ b0) (ub0 : b0 ≤ 2147483647) (c0 : Int) (lc0 : 0 ≤ c0) (uc0 : c0 ≤ 1) (sr : Nat) (hsr : sr ∈ L) (ksr : K sr = 151) (as : Nat) (has : as ∈ L) (kas : K as = 153) (pa : Nat) (hpa : pa ∈ L) (kpa : K pa = 155) (xt : Int) (lxt : 0 ≤ xt) (uxt : xt ≤ 9999) (xm : Int) (lxm : 0 ≤ xm) (uxm : xm ≤ 60) (hf0 : q_is (q_z f sr 3) xt) (hf1 : q_is (q_z f sr 4) xm) (hr0 : q_ir (q_r f mo 13) sr) (hr1 : q_ir (q_r f mo 15) as) (hr2 : q_ir (q_r f mo 17) pa) (hgr : q_gr f sr) (hpk : q_pk f mo pa) : q_Ct l g K L yX12_watch cX12_watch 4 (some .boolean) 3 65 [.ref mo, .int (q_i a0), .int (q_i b0), .int (q_i c0)] f [(12, 0, 0), (12, 21, 21), (151, 16, 89), (153, 0, 657), (155, 0, 3947)] (q_Pi (fun (z : Int) (f1 : Nat → va_E) => 0 ≤ z ∧ z ≤ 1 ∧ 0 ≤ q_z f1 sr 3 ∧ q_z f1 sr 3 ≤ 9999 ∧ 0 ≤ q_z f1 sr 4 ∧ q_z f1 sr 4 ≤ 60 ∧ q_gr f1 sr ∧ (q_pk f1 mo pa))) := by
  refine q_ofb (by decide +kernel) hN hT (Nat.le_of_ble_eq_true rfl) ?_
  intro p e s m below meth c ls cx hr hlk hB hl
  have hl : lv_has ls 4 [(0, .ref mo), (1, .int (q_i a0)), (2, .int (q_i b0)), (3, .int (q_i c0))] := hl
  obtain ⟨H, hH⟩ : ∃ H : Heap, H = s.heap := ⟨_, rfl⟩
  obtain ⟨locs, hlocs⟩ : ∃ z : List Loc, z = [] := ⟨_, rfl⟩
  rw [← hH, ← hlocs] at hB
  rw [← hH, ← hlocs]
  refine q_ald_n cx dX12_watch_0 rfl (lv_at hl 0 rfl) ?_
  refine q_ald_n cx dX12_watch_1 rfl (lv_at hl 0 rfl) ?_
  refine q_ild_n cx dX12_watch_2 rfl (lv_at hl 1 rfl) ?_
  refine q_cVi (As := [.int (q_i a0)]) (rest := [.ref mo]) cx hB (fun _ h => h) hN hmo kmo (by decide) rfl (r_isNode l g hN hB.2.1 mo hmo kmo a0 (by omega) (by omega) sr hsr ksr hr0) q_cX12_355 q_dX12_isNode (by decide) rfl rfl hl.1 rfl (Nat.le_of_ble_eq_true rfl) dX12_watch_3 (fun y126 H locs f125 ry126 h127 hF hB => ?_)
  rcases h127 with h128 | h129
  · obtain ⟨rfl, qy126, t130, t131⟩ := h128
    subst qy126
    refine q_ald_n cx dX12_watch_6 rfl (lv_at hl 0 rfl) ?_
    refine q_ild_n cx dX12_watch_7 rfl (lv_at hl 2 rfl) ?_
    refine q_cVi (As := [.int (q_i b0)]) (rest := [.int (q_i 1), .ref mo]) cx hB (fun _ h => h) hN hmo kmo (by decide) rfl (r_isDay l g hN hB.2.1 mo hmo kmo b0 (by omega) (by omega) sr hsr ksr hr0 hgr) q_cX12_388 q_dX12_isDay (by decide) rfl rfl hl.1 rfl (Nat.le_of_ble_eq_true rfl) dX12_watch_8 (fun y133 H locs f132 ry133 h134 hF hB => ?_)
    rcases h134 with h135 | h136
    · obtain ⟨rfl, qy133, t137, t138⟩ := h135
      subst qy133
      refine q_cVi (As := [.int (q_i 1), .int (q_i 1)]) (rest := []) cx hB (fun _ h => h) hN hmo kmo (by decide) rfl (r_goesBoth2 l g hN hB.2.1 mo hmo kmo 1 (by decide) (by decide) 1 (by decide) (by decide)) q_cX12_358 q_dX12_goesBoth (by decide) rfl rfl hl.1 rfl (Nat.le_of_ble_eq_true rfl) dX12_watch_11 (fun y140 H locs f139 ry140 h141 hF hB => ?_)
      obtain ⟨qy140, z142⟩ := h141
      have z143 : q_is (q_z f139 sr 3) xt := Eq.trans (hF.z hsr (by rw [ksr]; rfl)) hf0
      have z144 : q_is (q_z f139 sr 4) xm := Eq.trans (hF.z hsr (by rw [ksr]; rfl)) hf1
      have z145 : q_ir (q_r f139 mo 13) sr := Eq.trans (hF.r hmo (by rw [kmo]; rfl)) hr0
      have z146 : q_ir (q_r f139 mo 15) as := Eq.trans (hF.r hmo (by rw [kmo]; rfl)) hr1
      have z147 : q_ir (q_r f139 mo 17) pa := Eq.trans (hF.r hmo (by rw [kmo]; rfl)) hr2
      have g148 : q_gr f139 sr := q_gr_fr hgr (fun i9 _ => hF.z hsr (by rw [ksr]; rfl))
      have g149 : q_pk f139 mo pa := q_pk_tr hpk (hF.z hmo (by rw [kmo]; rfl)) (fun i9 => hF.z hpa (by rw [kpa]; rfl))
      subst qy140
      refine q_ifeq (tgt := 27) cx ⟨by decide, by decide⟩ dX12_watch_14 (by decide) (fun c150 => ?_) (fun c150 => ?_)
      · exact absurd c150 (by omega)
      · refine q_ald_n cx dX12_watch_17 rfl (lv_at hl 0 rfl) ?_
        refine q_ild_n cx dX12_watch_18 rfl (lv_at hl 1 rfl) ?_
        refine q_ild_n cx dX12_watch_19 rfl (lv_at hl 2 rfl) ?_
        refine q_cVi (As := [.int (q_i a0), .int (q_i b0)]) (rest := []) cx hB (fun _ h => h) hN hmo kmo (by decide) rfl (r_isWatched l g hN hB.2.1 mo hmo kmo a0 (by omega) (by omega) b0 (by omega) (by omega) sr hsr ksr z145 g148) q_cX12_262 q_dX12_isWatched (by decide) rfl rfl hl.1 rfl (Nat.le_of_ble_eq_true rfl) dX12_watch_20 (fun y152 H locs f151 ry152 h153 hF hB => ?_)
        obtain ⟨rfl, ly152, uy152⟩ := h153
        refine q_ild_n cx dX12_watch_23 rfl (lv_at hl 3 rfl) ?_
        refine q_icne (tgt := 29) cx ⟨by omega, by omega⟩ ⟨by omega, by omega⟩ dX12_watch_24 (by decide) (fun c154 => ?_) (fun c154 => ?_)
        · refine q_ald_n cx dX12_watch_29 rfl (lv_at hl 0 rfl) ?_
          refine q_cVv (As := []) (rest := []) cx hB (fun _ h => h) hN hmo kmo (by decide) rfl (r_laysAside l g hN hB.2.1 mo hmo kmo sr hsr ksr as has kas xt (by omega) (by omega) xm (by omega) (by omega) z143 z144 z145 z146 g148) q_cX12_247 q_dX12_laysAside (by decide) rfl rfl hl.1 rfl (Nat.le_of_ble_eq_true rfl) dX12_watch_30 (fun H locs f155 h157 hF hB => ?_)
          obtain ⟨lz158, uz158⟩ := h157
          have z159 : q_is (q_z f155 sr 3) xt := Eq.trans (hF.z hsr (by rw [ksr]; rfl)) z143
          have z160 : q_is (q_z f155 sr 4) xm := Eq.trans (hF.z hsr (by rw [ksr]; rfl)) z144
          have z161 : q_is (q_z f155 mo 0) 0 := Eq.trans (hF.z hmo (by rw [kmo]; rfl)) z142
          have z162 : q_ir (q_r f155 mo 13) sr := Eq.trans (hF.r hmo (by rw [kmo]; rfl)) z145
          have z163 : q_ir (q_r f155 mo 15) as := Eq.trans (hF.r hmo (by rw [kmo]; rfl)) z146
          have z164 : q_ir (q_r f155 mo 17) pa := Eq.trans (hF.r hmo (by rw [kmo]; rfl)) z147
          have g165 : q_gr f155 sr := q_gr_fr g148 (fun i9 _ => hF.z hsr (by rw [ksr]; rfl))
          have g166 : q_pk f155 mo pa := q_pk_tr g149 (hF.z hmo (by rw [kmo]; rfl)) (fun i9 => hF.z hpa (by rw [kpa]; rfl))
          obtain ⟨x167, ex167⟩ : ∃ zz, q_is (q_z f155 as 2) zz := ⟨_, q_isr _⟩
          obtain ⟨lx167, ux167⟩ := q_isb ex167 ⟨lz158, uz158⟩
          refine q_ald_n cx dX12_watch_33 rfl (lv_at hl 0 rfl) ?_
          refine q_ild_n cx dX12_watch_34 rfl (lv_at hl 1 rfl) ?_
          refine q_ild_n cx dX12_watch_35 rfl (lv_at hl 2 rfl) ?_
          refine q_ild_n cx dX12_watch_36 rfl (lv_at hl 3 rfl) ?_
          refine q_cVv (As := [.int (q_i a0), .int (q_i b0), .int (q_i c0)]) (rest := []) cx hB (fun _ h => h) hN hmo kmo (by decide) rfl (r_watches l g hN hB.2.1 mo hmo kmo a0 (by omega) (by omega) b0 (by omega) (by omega) c0 (by omega) (by omega) sr hsr ksr z162 g165) q_cX12_436 q_dX12_watches (by decide) rfl rfl hl.1 rfl (Nat.le_of_ble_eq_true rfl) dX12_watch_37 (fun H locs f168 h170 hF hB => ?_)
          have g171 := h170
          have z172 : q_is (q_z f168 sr 3) xt := Eq.trans (hF.z hsr (by rw [ksr]; rfl)) z159
          have z173 : q_is (q_z f168 sr 4) xm := Eq.trans (hF.z hsr (by rw [ksr]; rfl)) z160
          have z174 : q_is (q_z f168 mo 0) 0 := Eq.trans (hF.z hmo (by rw [kmo]; rfl)) z161
          have z175 : q_is (q_z f168 as 2) x167 := Eq.trans (hF.z has (by rw [kas]; rfl)) ex167
          have z176 : q_ir (q_r f168 mo 13) sr := Eq.trans (hF.r hmo (by rw [kmo]; rfl)) z162
          have z177 : q_ir (q_r f168 mo 15) as := Eq.trans (hF.r hmo (by rw [kmo]; rfl)) z163
          have z178 : q_ir (q_r f168 mo 17) pa := Eq.trans (hF.r hmo (by rw [kmo]; rfl)) z164
          have g179 : q_pk f168 mo pa := q_pk_tr g166 (hF.z hmo (by rw [kmo]; rfl)) (fun i9 => hF.z hpa (by rw [kpa]; rfl))
          refine q_ald_n cx dX12_watch_40 rfl (lv_at hl 0 rfl) ?_
          obtain ⟨x180, ex180⟩ : ∃ zz, q_is (q_z f168 mo 21) zz := ⟨_, q_isr _⟩
          obtain ⟨lx180, ux180⟩ := q_isb ex180 (q_fib hB.2.1 hmo kmo (by decide) rfl)
          by_cases c181 : x180 ≤ 5
          · refine q_cVv (As := []) (rest := []) cx hB (fun _ h => h) hN hmo kmo (by decide) rfl (r_keeps0 l g hN hB.2.1 mo hmo kmo as has kas pa hpa kpa x167 (by omega) (by omega) x180 (by omega) (by omega) z175 ex180 z177 z178 g179) q_cX12_161 q_dX12_keeps (by decide) rfl rfl hl.1 rfl (Nat.le_of_ble_eq_true rfl) dX12_watch_41 (fun H locs f182 h184 hF hB => ?_)
            have g185 := h184
            have z186 : q_is (q_z f182 sr 3) xt := Eq.trans (hF.z hsr (by rw [ksr]; rfl)) z172
            have z187 : q_is (q_z f182 sr 4) xm := Eq.trans (hF.z hsr (by rw [ksr]; rfl)) z173
            have z188 : q_is (q_z f182 mo 0) 0 := Eq.trans (hF.z hmo (by rw [kmo]; rfl)) z174
            have z189 : q_is (q_z f182 as 2) x167 := Eq.trans (hF.z has (by rw [kas]; rfl)) z175
            have z190 : q_ir (q_r f182 mo 13) sr := Eq.trans (hF.r hmo (by rw [kmo]; rfl)) z176
            have z191 : q_ir (q_r f182 mo 15) as := Eq.trans (hF.r hmo (by rw [kmo]; rfl)) z177
            have z192 : q_ir (q_r f182 mo 17) pa := Eq.trans (hF.r hmo (by rw [kmo]; rfl)) z178
            have g193 : q_gr f182 sr := q_gr_fr g171 (fun i9 _ => hF.z hsr (by rw [ksr]; rfl))
            refine q_iconst cx dX12_watch_44 ?_
            refine q_zret cx hr hlk hB dX12_watch_45 (by decide) (by decide) ?_
            exact ⟨(by decide), (by decide), (q_isl z186 (by omega)), (q_isu z186 (by omega)), (q_isl z187 (by omega)), (q_isu z187 (by omega)), g193, g185⟩
          · refine q_cVv (As := []) (rest := []) cx hB (fun _ h => h) hN hmo kmo (by decide) rfl (r_keeps6 l g hN hB.2.1 mo hmo kmo as has kas pa hpa kpa x167 (by omega) (by omega) z175 (Eq.trans ex180 (by omega)) z177 z178 g179) q_cX12_161 q_dX12_keeps (by decide) rfl rfl hl.1 rfl (Nat.le_of_ble_eq_true rfl) dX12_watch_41 (fun H locs f194 h196 hF hB => ?_)
            have g197 := h196
            have z198 : q_is (q_z f194 sr 3) xt := Eq.trans (hF.z hsr (by rw [ksr]; rfl)) z172
            have z199 : q_is (q_z f194 sr 4) xm := Eq.trans (hF.z hsr (by rw [ksr]; rfl)) z173
            have z200 : q_is (q_z f194 mo 0) 0 := Eq.trans (hF.z hmo (by rw [kmo]; rfl)) z174
            have z201 : q_is (q_z f194 as 2) x167 := Eq.trans (hF.z has (by rw [kas]; rfl)) z175
            have z202 : q_ir (q_r f194 mo 13) sr := Eq.trans (hF.r hmo (by rw [kmo]; rfl)) z176
            have z203 : q_ir (q_r f194 mo 15) as := Eq.trans (hF.r hmo (by rw [kmo]; rfl)) z177
            have z204 : q_ir (q_r f194 mo 17) pa := Eq.trans (hF.r hmo (by rw [kmo]; rfl)) z178
            have g205 : q_gr f194 sr := q_gr_fr g171 (fun i9 _ => hF.z hsr (by rw [ksr]; rfl))
            refine q_iconst cx dX12_watch_44 ?_
            refine q_zret cx hr hlk hB dX12_watch_45 (by decide) (by decide) ?_
            exact ⟨(by decide), (by decide), (q_isl z198 (by omega)), (q_isu z198 (by omega)), (q_isl z199 (by omega)), (q_isu z199 (by omega)), g205, g197⟩
        · refine q_iconst cx dX12_watch_27 ?_
          refine q_zret cx hr hlk hB dX12_watch_28 (by decide) (by decide) ?_
          exact ⟨(by decide), (by decide), (q_isl z143 (by omega)), (q_isu z143 (by omega)), (q_isl z144 (by omega)), (q_isu z144 (by omega)), g148, g149⟩
    · obtain ⟨rfl, qy133⟩ := h136
      subst qy133
      refine q_cVi (As := [.int (q_i 1), .int (q_i 0)]) (rest := []) cx hB (fun _ h => h) hN hmo kmo (by decide) rfl (r_goesBoth1 l g hN hB.2.1 mo hmo kmo 1 (by decide) (by decide) 0 (by decide) (by decide)) q_cX12_358 q_dX12_goesBoth (by decide) rfl rfl hl.1 rfl (Nat.le_of_ble_eq_true rfl) dX12_watch_11 (fun y207 H locs f206 ry207 h208 hF hB => ?_)
      obtain ⟨qy207, z209⟩ := h208
      have z210 : q_is (q_z f206 sr 3) xt := Eq.trans (hF.z hsr (by rw [ksr]; rfl)) hf0
      have z211 : q_is (q_z f206 sr 4) xm := Eq.trans (hF.z hsr (by rw [ksr]; rfl)) hf1
      have z212 : q_ir (q_r f206 mo 13) sr := Eq.trans (hF.r hmo (by rw [kmo]; rfl)) hr0
      have z213 : q_ir (q_r f206 mo 15) as := Eq.trans (hF.r hmo (by rw [kmo]; rfl)) hr1
      have z214 : q_ir (q_r f206 mo 17) pa := Eq.trans (hF.r hmo (by rw [kmo]; rfl)) hr2
      have g215 : q_gr f206 sr := q_gr_fr hgr (fun i9 _ => hF.z hsr (by rw [ksr]; rfl))
      have g216 : q_pk f206 mo pa := q_pk_tr hpk (hF.z hmo (by rw [kmo]; rfl)) (fun i9 => hF.z hpa (by rw [kpa]; rfl))
      subst qy207
      refine q_ifeq (tgt := 27) cx ⟨by decide, by decide⟩ dX12_watch_14 (by decide) (fun c217 => ?_) (fun c217 => ?_)
      · refine q_iconst cx dX12_watch_27 ?_
        refine q_zret cx hr hlk hB dX12_watch_28 (by decide) (by decide) ?_
        exact ⟨(by decide), (by decide), (q_isl z210 (by omega)), (q_isu z210 (by omega)), (q_isl z211 (by omega)), (q_isu z211 (by omega)), g215, g216⟩
      · exact absurd c217 (by omega)
  · obtain ⟨rfl, qy126⟩ := h129
    subst qy126
    refine q_ald_n cx dX12_watch_6 rfl (lv_at hl 0 rfl) ?_
    refine q_ild_n cx dX12_watch_7 rfl (lv_at hl 2 rfl) ?_
    refine q_cVi (As := [.int (q_i b0)]) (rest := [.int (q_i 0), .ref mo]) cx hB (fun _ h => h) hN hmo kmo (by decide) rfl (r_isDay l g hN hB.2.1 mo hmo kmo b0 (by omega) (by omega) sr hsr ksr hr0 hgr) q_cX12_388 q_dX12_isDay (by decide) rfl rfl hl.1 rfl (Nat.le_of_ble_eq_true rfl) dX12_watch_8 (fun y219 H locs f218 ry219 h220 hF hB => ?_)
    rcases h220 with h221 | h222
    · obtain ⟨rfl, qy219, t223, t224⟩ := h221
      subst qy219
      refine q_cVi (As := [.int (q_i 0), .int (q_i 1)]) (rest := []) cx hB (fun _ h => h) hN hmo kmo (by decide) rfl (r_goesBoth0 l g hN hB.2.1 mo hmo kmo 0 (by decide) (by decide) 1 (by decide) (by decide)) q_cX12_358 q_dX12_goesBoth (by decide) rfl rfl hl.1 rfl (Nat.le_of_ble_eq_true rfl) dX12_watch_11 (fun y226 H locs f225 ry226 h227 hF hB => ?_)
      obtain ⟨qy226, z228⟩ := h227
      have z229 : q_is (q_z f225 sr 3) xt := Eq.trans (hF.z hsr (by rw [ksr]; rfl)) hf0
      have z230 : q_is (q_z f225 sr 4) xm := Eq.trans (hF.z hsr (by rw [ksr]; rfl)) hf1
      have z231 : q_ir (q_r f225 mo 13) sr := Eq.trans (hF.r hmo (by rw [kmo]; rfl)) hr0
      have z232 : q_ir (q_r f225 mo 15) as := Eq.trans (hF.r hmo (by rw [kmo]; rfl)) hr1
      have z233 : q_ir (q_r f225 mo 17) pa := Eq.trans (hF.r hmo (by rw [kmo]; rfl)) hr2
      have g234 : q_gr f225 sr := q_gr_fr hgr (fun i9 _ => hF.z hsr (by rw [ksr]; rfl))
      have g235 : q_pk f225 mo pa := q_pk_tr hpk (hF.z hmo (by rw [kmo]; rfl)) (fun i9 => hF.z hpa (by rw [kpa]; rfl))
      subst qy226
      refine q_ifeq (tgt := 27) cx ⟨by decide, by decide⟩ dX12_watch_14 (by decide) (fun c236 => ?_) (fun c236 => ?_)
      · refine q_iconst cx dX12_watch_27 ?_
        refine q_zret cx hr hlk hB dX12_watch_28 (by decide) (by decide) ?_
        exact ⟨(by decide), (by decide), (q_isl z229 (by omega)), (q_isu z229 (by omega)), (q_isl z230 (by omega)), (q_isu z230 (by omega)), g234, g235⟩
      · exact absurd c236 (by omega)
    · obtain ⟨rfl, qy219⟩ := h222
      subst qy219
      refine q_cVi (As := [.int (q_i 0), .int (q_i 0)]) (rest := []) cx hB (fun _ h => h) hN hmo kmo (by decide) rfl (r_goesBoth0 l g hN hB.2.1 mo hmo kmo 0 (by decide) (by decide) 0 (by decide) (by decide)) q_cX12_358 q_dX12_goesBoth (by decide) rfl rfl hl.1 rfl (Nat.le_of_ble_eq_true rfl) dX12_watch_11 (fun y238 H locs f237 ry238 h239 hF hB => ?_)
      obtain ⟨qy238, z240⟩ := h239
      have z241 : q_is (q_z f237 sr 3) xt := Eq.trans (hF.z hsr (by rw [ksr]; rfl)) hf0
      have z242 : q_is (q_z f237 sr 4) xm := Eq.trans (hF.z hsr (by rw [ksr]; rfl)) hf1
      have z243 : q_ir (q_r f237 mo 13) sr := Eq.trans (hF.r hmo (by rw [kmo]; rfl)) hr0
      have z244 : q_ir (q_r f237 mo 15) as := Eq.trans (hF.r hmo (by rw [kmo]; rfl)) hr1
      have z245 : q_ir (q_r f237 mo 17) pa := Eq.trans (hF.r hmo (by rw [kmo]; rfl)) hr2
      have g246 : q_gr f237 sr := q_gr_fr hgr (fun i9 _ => hF.z hsr (by rw [ksr]; rfl))
      have g247 : q_pk f237 mo pa := q_pk_tr hpk (hF.z hmo (by rw [kmo]; rfl)) (fun i9 => hF.z hpa (by rw [kpa]; rfl))
      subst qy238
      refine q_ifeq (tgt := 27) cx ⟨by decide, by decide⟩ dX12_watch_14 (by decide) (fun c248 => ?_) (fun c248 => ?_)
      · refine q_iconst cx dX12_watch_27 ?_
        refine q_zret cx hr hlk hB dX12_watch_28 (by decide) (by decide) ?_
        exact ⟨(by decide), (by decide), (q_isl z241 (by omega)), (q_isu z241 (by omega)), (q_isl z242 (by omega)), (q_isu z242 (by omega)), g246, g247⟩
      · exact absurd c248 (by omega)
set_option maxHeartbeats 4000000 in
set_option maxRecDepth 100000 in
theorem r_setMiss (l : Launch) (g : q_G) {K : Nat → Nat} {L : List Nat} (hN : L.Nodup) {f : Nat → va_E} (hT : q_Ty g K L f) (mo : Nat) (hmo : mo ∈ L) (kmo : K mo = 12) (a0 : Int) (la0 : (-2147483648) ≤ a0) (ua0 : a0 ≤ 2147483647) (sr : Nat) (hsr : sr ∈ L) (ksr : K sr = 151) (as : Nat) (has : as ∈ L) (kas : K as = 153) (pa : Nat) (hpa : pa ∈ L) (kpa : K pa = 155) (xt : Int) (lxt : 0 ≤ xt) (uxt : xt ≤ 9999) (xm : Int) (lxm : 0 ≤ xm) (uxm : xm ≤ 60) (hf0 : q_is (q_z f sr 3) xt) (hf1 : q_is (q_z f sr 4) xm) (hr0 : q_ir (q_r f mo 13) sr) (hr1 : q_ir (q_r f mo 15) as) (hr2 : q_ir (q_r f mo 17) pa) (hgr : q_gr f sr) (hpk : q_pk f mo pa) : q_Ct l g K L yX12_setMiss cX12_setMiss 2 (some .int) 3 66 [.ref mo, .int (q_i a0)] f [(12, 0, 0), (12, 21, 21), (151, 8, 8), (153, 0, 657), (155, 0, 3947)] (q_Pi (fun (z : Int) (f1 : Nat → va_E) => 0 ≤ z ∧ z ≤ 9 ∧ 0 ≤ q_z f1 sr 3 ∧ q_z f1 sr 3 ≤ 9999 ∧ 0 ≤ q_z f1 sr 4 ∧ q_z f1 sr 4 ≤ 60 ∧ q_gr f1 sr ∧ (q_pk f1 mo pa))) := by
  refine q_ofb (by decide +kernel) hN hT (Nat.le_of_ble_eq_true rfl) ?_
  intro p e s m below meth c ls cx hr hlk hB hl
  have hl : lv_has ls 2 [(0, .ref mo), (1, .int (q_i a0))] := hl
  obtain ⟨H, hH⟩ : ∃ H : Heap, H = s.heap := ⟨_, rfl⟩
  obtain ⟨locs, hlocs⟩ : ∃ z : List Loc, z = [] := ⟨_, rfl⟩
  rw [← hH, ← hlocs] at hB
  rw [← hH, ← hlocs]
  refine q_ald_n cx dX12_setMiss_0 rfl (lv_at hl 0 rfl) ?_
  refine q_ild_n cx dX12_setMiss_1 rfl (lv_at hl 1 rfl) ?_
  refine q_i2l cx ⟨by omega, by omega⟩ dX12_setMiss_2 ?_
  refine q_lconst (z := 1) cx (by decide) dX12_setMiss_3 ?_
  refine lv_ldc2 (v := q_l 9) cx.1 cx.2.1 cx.2.2.2.1 (cx.2.2.2.2 _ q_h2211) dX12_setMiss_4 ?_
  refine q_cSi (As := [.long (q_l a0), .long (q_l 1), .long (q_l 9)]) (rest := [.ref mo]) cx hB (fun _ h => h) hN (r_isIn l g hN hB.2.1 a0 (by omega) (by omega) 1 (by decide) (by decide) 9 (by decide) (by decide)) q_cX12_93 q_dX12_isIn (by decide) rfl rfl hl.1 rfl (Nat.le_of_ble_eq_true rfl) dX12_setMiss_7 (fun y71 H locs f70 ry71 h72 hF hB => ?_)
  rcases h72 with h73 | h74
  · obtain ⟨rfl, qy71, t75, t76⟩ := h73
    subst qy71
    refine q_cVi (As := [.int (q_i 1)]) (rest := []) cx hB (fun _ h => h) hN hmo kmo (by decide) rfl (r_goes1 l g hN hB.2.1 mo hmo kmo 1 (by decide) (by decide)) q_cX12_85 q_dX12_goes (by decide) rfl rfl hl.1 rfl (Nat.le_of_ble_eq_true rfl) dX12_setMiss_10 (fun y78 H locs f77 ry78 h79 hF hB => ?_)
    obtain ⟨qy78, z80⟩ := h79
    have z81 : q_is (q_z f77 sr 3) xt := Eq.trans (hF.z hsr (by rw [ksr]; rfl)) hf0
    have z82 : q_is (q_z f77 sr 4) xm := Eq.trans (hF.z hsr (by rw [ksr]; rfl)) hf1
    have z83 : q_ir (q_r f77 mo 13) sr := Eq.trans (hF.r hmo (by rw [kmo]; rfl)) hr0
    have z84 : q_ir (q_r f77 mo 15) as := Eq.trans (hF.r hmo (by rw [kmo]; rfl)) hr1
    have z85 : q_ir (q_r f77 mo 17) pa := Eq.trans (hF.r hmo (by rw [kmo]; rfl)) hr2
    have g86 : q_gr f77 sr := q_gr_fr hgr (fun i9 _ => hF.z hsr (by rw [ksr]; rfl))
    have g87 : q_pk f77 mo pa := q_pk_tr hpk (hF.z hmo (by rw [kmo]; rfl)) (fun i9 => hF.z hpa (by rw [kpa]; rfl))
    subst qy78
    refine q_ifne (tgt := 18) cx ⟨by decide, by decide⟩ dX12_setMiss_13 (by decide) (fun c88 => ?_) (fun c88 => ?_)
    · refine q_ald_n cx dX12_setMiss_18 rfl (lv_at hl 0 rfl) ?_
      refine q_cVv (As := []) (rest := []) cx hB (fun _ h => h) hN hmo kmo (by decide) rfl (r_laysAside l g hN hB.2.1 mo hmo kmo sr hsr ksr as has kas xt (by omega) (by omega) xm (by omega) (by omega) z81 z82 z83 z84 g86) q_cX12_247 q_dX12_laysAside (by decide) rfl rfl hl.1 rfl (Nat.le_of_ble_eq_true rfl) dX12_setMiss_19 (fun H locs f89 h91 hF hB => ?_)
      obtain ⟨lz92, uz92⟩ := h91
      have z93 : q_is (q_z f89 sr 3) xt := Eq.trans (hF.z hsr (by rw [ksr]; rfl)) z81
      have z94 : q_is (q_z f89 sr 4) xm := Eq.trans (hF.z hsr (by rw [ksr]; rfl)) z82
      have z95 : q_is (q_z f89 mo 0) 0 := Eq.trans (hF.z hmo (by rw [kmo]; rfl)) z80
      have z96 : q_ir (q_r f89 mo 13) sr := Eq.trans (hF.r hmo (by rw [kmo]; rfl)) z83
      have z97 : q_ir (q_r f89 mo 15) as := Eq.trans (hF.r hmo (by rw [kmo]; rfl)) z84
      have z98 : q_ir (q_r f89 mo 17) pa := Eq.trans (hF.r hmo (by rw [kmo]; rfl)) z85
      have g99 : q_gr f89 sr := q_gr_fr g86 (fun i9 _ => hF.z hsr (by rw [ksr]; rfl))
      have g100 : q_pk f89 mo pa := q_pk_tr g87 (hF.z hmo (by rw [kmo]; rfl)) (fun i9 => hF.z hpa (by rw [kpa]; rfl))
      obtain ⟨x101, ex101⟩ : ∃ zz, q_is (q_z f89 as 2) zz := ⟨_, q_isr _⟩
      obtain ⟨lx101, ux101⟩ := q_isb ex101 ⟨lz92, uz92⟩
      refine q_ald_n cx dX12_setMiss_22 rfl (lv_at hl 0 rfl) ?_
      refine q_ald_n cx dX12_setMiss_23 rfl (lv_at hl 0 rfl) ?_
      refine q_bipush cx dX12_setMiss_24 rfl ?_
      refine q_ild_n cx dX12_setMiss_26 rfl (lv_at hl 1 rfl) ?_
      refine q_cVi (As := [.int (q_i 8), .int (q_i a0)]) (rest := [.ref mo]) cx hB (fun _ h => h) hN hmo kmo (by decide) rfl (r_swapsCell8 l g hN hB.2.1 mo hmo kmo 8 (by decide) (by decide) a0 (by omega) (by omega) sr hsr ksr z96 g99) q_cX12_462 q_dX12_swapsCell (by decide) rfl rfl hl.1 rfl (Nat.le_of_ble_eq_true rfl) dX12_setMiss_27 (fun y103 H locs f102 ry103 h104 hF hB => ?_)
      obtain ⟨ly103, uy103, g105⟩ := h104
      have z106 : q_is (q_z f102 sr 3) xt := Eq.trans (hF.z hsr (by rw [ksr]; rfl)) z93
      have z107 : q_is (q_z f102 sr 4) xm := Eq.trans (hF.z hsr (by rw [ksr]; rfl)) z94
      have z108 : q_is (q_z f102 mo 0) 0 := Eq.trans (hF.z hmo (by rw [kmo]; rfl)) z95
      have z109 : q_is (q_z f102 as 2) x101 := Eq.trans (hF.z has (by rw [kas]; rfl)) ex101
      have z110 : q_ir (q_r f102 mo 13) sr := Eq.trans (hF.r hmo (by rw [kmo]; rfl)) z96
      have z111 : q_ir (q_r f102 mo 15) as := Eq.trans (hF.r hmo (by rw [kmo]; rfl)) z97
      have z112 : q_ir (q_r f102 mo 17) pa := Eq.trans (hF.r hmo (by rw [kmo]; rfl)) z98
      have g113 : q_pk f102 mo pa := q_pk_tr g100 (hF.z hmo (by rw [kmo]; rfl)) (fun i9 => hF.z hpa (by rw [kpa]; rfl))
      refine q_cVi (As := [.int (q_i y103)]) (rest := []) cx hB (fun _ h => h) hN hmo kmo (by decide) rfl (r_kept l g hN hB.2.1 mo hmo kmo y103 (by omega) (by omega) as has kas pa hpa kpa x101 (by omega) (by omega) z109 z111 z112 g113) q_cX12_449 q_dX12_kept (by decide) rfl rfl hl.1 rfl (Nat.le_of_ble_eq_true rfl) dX12_setMiss_30 (fun y115 H locs f114 ry115 h116 hF hB => ?_)
      obtain ⟨qy115, g117⟩ := h116
      have z118 : q_is (q_z f114 sr 3) xt := Eq.trans (hF.z hsr (by rw [ksr]; rfl)) z106
      have z119 : q_is (q_z f114 sr 4) xm := Eq.trans (hF.z hsr (by rw [ksr]; rfl)) z107
      have z120 : q_is (q_z f114 mo 0) 0 := Eq.trans (hF.z hmo (by rw [kmo]; rfl)) z108
      have z121 : q_is (q_z f114 as 2) x101 := Eq.trans (hF.z has (by rw [kas]; rfl)) z109
      have z122 : q_ir (q_r f114 mo 13) sr := Eq.trans (hF.r hmo (by rw [kmo]; rfl)) z110
      have z123 : q_ir (q_r f114 mo 15) as := Eq.trans (hF.r hmo (by rw [kmo]; rfl)) z111
      have z124 : q_ir (q_r f114 mo 17) pa := Eq.trans (hF.r hmo (by rw [kmo]; rfl)) z112
      have g125 : q_gr f114 sr := q_gr_fr g105 (fun i9 _ => hF.z hsr (by rw [ksr]; rfl))
      refine q_iret cx hr hlk hB dX12_setMiss_33 ⟨by omega, by omega⟩ ?_
      exact ⟨(by omega), (by omega), (q_isl z118 (by omega)), (q_isu z118 (by omega)), (q_isl z119 (by omega)), (q_isu z119 (by omega)), g125, g117⟩
    · exact absurd c88 (by omega)
  · obtain ⟨rfl, qy71, t126⟩ := h74
    subst qy71
    refine q_cVi (As := [.int (q_i 0)]) (rest := []) cx hB (fun _ h => h) hN hmo kmo (by decide) rfl (r_goes0 l g hN hB.2.1 mo hmo kmo 0 (by decide) (by decide)) q_cX12_85 q_dX12_goes (by decide) rfl rfl hl.1 rfl (Nat.le_of_ble_eq_true rfl) dX12_setMiss_10 (fun y128 H locs f127 ry128 h129 hF hB => ?_)
    obtain ⟨qy128, z130⟩ := h129
    have z131 : q_is (q_z f127 sr 3) xt := Eq.trans (hF.z hsr (by rw [ksr]; rfl)) hf0
    have z132 : q_is (q_z f127 sr 4) xm := Eq.trans (hF.z hsr (by rw [ksr]; rfl)) hf1
    have z133 : q_ir (q_r f127 mo 13) sr := Eq.trans (hF.r hmo (by rw [kmo]; rfl)) hr0
    have z134 : q_ir (q_r f127 mo 15) as := Eq.trans (hF.r hmo (by rw [kmo]; rfl)) hr1
    have z135 : q_ir (q_r f127 mo 17) pa := Eq.trans (hF.r hmo (by rw [kmo]; rfl)) hr2
    have g136 : q_gr f127 sr := q_gr_fr hgr (fun i9 _ => hF.z hsr (by rw [ksr]; rfl))
    have g137 : q_pk f127 mo pa := q_pk_tr hpk (hF.z hmo (by rw [kmo]; rfl)) (fun i9 => hF.z hpa (by rw [kpa]; rfl))
    subst qy128
    refine q_ifne (tgt := 18) cx ⟨by decide, by decide⟩ dX12_setMiss_13 (by decide) (fun c138 => ?_) (fun c138 => ?_)
    · exact absurd c138 (by omega)
    · refine q_iconst cx dX12_setMiss_16 ?_
      refine q_iret cx hr hlk hB dX12_setMiss_17 ⟨by decide, by decide⟩ ?_
      exact ⟨(by decide), (by decide), (q_isl z131 (by omega)), (q_isu z131 (by omega)), (q_isl z132 (by omega)), (q_isu z132 (by omega)), g136, g137⟩
