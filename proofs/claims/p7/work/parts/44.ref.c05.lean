set_option maxHeartbeats 4000000 in
set_option maxRecDepth 100000 in
theorem r_setBorn (l : Launch) (g : q_G) {K : Nat → Nat} {L : List Nat} (hN : L.Nodup) {f : Nat → va_E} (hT : q_Ty g K L f) (mo : Nat) (hmo : mo ∈ L) (kmo : K mo = 12) (a0 : Int) (la0 : (-2147483648) ≤ a0) (ua0 : a0 ≤ 2147483647) (b0 : Int) (lb0 : (-2147483648) ≤ b0) (ub0 : b0 ≤ 2147483647) (sr : Nat) (hsr : sr ∈ L) (ksr : K sr = 151) (as : Nat) (has : as ∈ L) (kas : K as = 153) (pa : Nat) (hpa : pa ∈ L) (kpa : K pa = 155) (xt : Int) (lxt : 0 ≤ xt) (uxt : xt ≤ 9999) (xm : Int) (lxm : 0 ≤ xm) (uxm : xm ≤ 60) (xc : Int) (lxc : 0 ≤ xc) (uxc : xc ≤ 10) (hf0 : q_is (q_z f sr 3) xt) (hf1 : q_is (q_z f sr 4) xm) (hf2 : q_is (q_z f sr 0) xc) (hr0 : q_ir (q_r f mo 13) sr) (hr1 : q_ir (q_r f mo 15) as) (hr2 : q_ir (q_r f mo 17) pa) (hgr : q_gr f sr) (hpk : q_pk f mo pa) (hpc : q_pc f mo pa xc) : q_Ct l g K L yX12_setBorn cX12_setBorn 3 (some .int) 3 66 [.ref mo, .int (q_i a0), .int (q_i b0)] f [(12, 0, 0), (12, 21, 21), (151, 10, 82), (153, 0, 657), (155, 0, 3947)] (q_Pi (fun (z : Int) (f1 : Nat → va_E) => 0 ≤ z ∧ z ≤ 59 ∧ 0 ≤ q_z f1 sr 3 ∧ q_z f1 sr 3 ≤ 9999 ∧ 0 ≤ q_z f1 sr 4 ∧ q_z f1 sr 4 ≤ 60 ∧ q_is (q_z f1 sr 0) xc ∧ q_gr f1 sr ∧ (q_pk f1 mo pa) ∧ (q_pc f1 mo pa xc))) := by
  refine q_ofb (by decide +kernel) hN hT (Nat.le_of_ble_eq_true rfl) ?_
  intro p e s m below meth c ls cx hr hlk hB hl
  have hl : lv_has ls 3 [(0, .ref mo), (1, .int (q_i a0)), (2, .int (q_i b0))] := hl
  obtain ⟨H, hH⟩ : ∃ H : Heap, H = s.heap := ⟨_, rfl⟩
  obtain ⟨locs, hlocs⟩ : ∃ z : List Loc, z = [] := ⟨_, rfl⟩
  rw [← hH, ← hlocs] at hB
  rw [← hH, ← hlocs]
  refine q_ald_n cx dX12_setBorn_0 rfl (lv_at hl 0 rfl) ?_
  refine q_ald_n cx dX12_setBorn_1 rfl (lv_at hl 0 rfl) ?_
  refine q_ild_n cx dX12_setBorn_2 rfl (lv_at hl 1 rfl) ?_
  refine q_cVi (As := [.int (q_i a0)]) (rest := [.ref mo]) cx hB (fun _ h => h) hN hmo kmo (by decide) rfl (r_isNode l g hN hB.2.1 mo hmo kmo a0 (by omega) (by omega) sr hsr ksr hr0) q_cX12_355 q_dX12_isNode (by decide) rfl rfl hl.1 rfl (Nat.le_of_ble_eq_true rfl) dX12_setBorn_3 (fun y128 H locs f127 ry128 h129 hF hB => ?_)
  rcases h129 with h130 | h131
  · obtain ⟨rfl, qy128, t132, t133⟩ := h130
    subst qy128
    refine q_ald_n cx dX12_setBorn_6 rfl (lv_at hl 0 rfl) ?_
    refine q_ild_n cx dX12_setBorn_7 rfl (lv_at hl 2 rfl) ?_
    refine q_cVi (As := [.int (q_i b0)]) (rest := [.int (q_i 1), .ref mo]) cx hB (fun _ h => h) hN hmo kmo (by decide) rfl (r_isDay l g hN hB.2.1 mo hmo kmo b0 (by omega) (by omega) sr hsr ksr hr0 hgr) q_cX12_388 q_dX12_isDay (by decide) rfl rfl hl.1 rfl (Nat.le_of_ble_eq_true rfl) dX12_setBorn_8 (fun y135 H locs f134 ry135 h136 hF hB => ?_)
    rcases h136 with h137 | h138
    · obtain ⟨rfl, qy135, t139, t140⟩ := h137
      subst qy135
      refine q_cVi (As := [.int (q_i 1), .int (q_i 1)]) (rest := []) cx hB (fun _ h => h) hN hmo kmo (by decide) rfl (r_goesBoth2 l g hN hB.2.1 mo hmo kmo 1 (by decide) (by decide) 1 (by decide) (by decide)) q_cX12_358 q_dX12_goesBoth (by decide) rfl rfl hl.1 rfl (Nat.le_of_ble_eq_true rfl) dX12_setBorn_11 (fun y142 H locs f141 ry142 h143 hF hB => ?_)
      obtain ⟨qy142, z144⟩ := h143
      have z145 : q_is (q_z f141 sr 3) xt := Eq.trans (hF.z hsr (by rw [ksr]; rfl)) hf0
      have z146 : q_is (q_z f141 sr 4) xm := Eq.trans (hF.z hsr (by rw [ksr]; rfl)) hf1
      have z147 : q_is (q_z f141 sr 0) xc := Eq.trans (hF.z hsr (by rw [ksr]; rfl)) hf2
      have z148 : q_ir (q_r f141 mo 13) sr := Eq.trans (hF.r hmo (by rw [kmo]; rfl)) hr0
      have z149 : q_ir (q_r f141 mo 15) as := Eq.trans (hF.r hmo (by rw [kmo]; rfl)) hr1
      have z150 : q_ir (q_r f141 mo 17) pa := Eq.trans (hF.r hmo (by rw [kmo]; rfl)) hr2
      have g151 : q_gr f141 sr := q_gr_fr hgr (fun i9 _ => hF.z hsr (by rw [ksr]; rfl))
      have g152 : q_pk f141 mo pa := q_pk_tr hpk (hF.z hmo (by rw [kmo]; rfl)) (fun i9 => hF.z hpa (by rw [kpa]; rfl))
      have g153 : q_pc f141 mo pa xc := q_pc_tr hpc (hF.z hmo (by rw [kmo]; rfl)) (fun i9 => hF.z hpa (by rw [kpa]; rfl))
      subst qy142
      refine q_ifne (tgt := 19) cx ⟨by decide, by decide⟩ dX12_setBorn_14 (by decide) (fun c154 => ?_) (fun c154 => ?_)
      · refine q_ald_n cx dX12_setBorn_19 rfl (lv_at hl 0 rfl) ?_
        refine q_cVv (As := []) (rest := []) cx hB (fun _ h => h) hN hmo kmo (by decide) rfl (r_laysAside l g hN hB.2.1 mo hmo kmo sr hsr ksr as has kas xt (by omega) (by omega) xm (by omega) (by omega) xc (by omega) (by omega) z145 z146 z147 z148 z149 g151) q_cX12_247 q_dX12_laysAside (by decide) rfl rfl hl.1 rfl (Nat.le_of_ble_eq_true rfl) dX12_setBorn_20 (fun H locs f155 h157 hF hB => ?_)
        obtain ⟨lz158, uz158, z159⟩ := h157
        have z160 : q_is (q_z f155 sr 3) xt := Eq.trans (hF.z hsr (by rw [ksr]; rfl)) z145
        have z161 : q_is (q_z f155 sr 4) xm := Eq.trans (hF.z hsr (by rw [ksr]; rfl)) z146
        have z162 : q_is (q_z f155 sr 0) xc := Eq.trans (hF.z hsr (by rw [ksr]; rfl)) z147
        have z163 : q_is (q_z f155 mo 0) 0 := Eq.trans (hF.z hmo (by rw [kmo]; rfl)) z144
        have z164 : q_ir (q_r f155 mo 13) sr := Eq.trans (hF.r hmo (by rw [kmo]; rfl)) z148
        have z165 : q_ir (q_r f155 mo 15) as := Eq.trans (hF.r hmo (by rw [kmo]; rfl)) z149
        have z166 : q_ir (q_r f155 mo 17) pa := Eq.trans (hF.r hmo (by rw [kmo]; rfl)) z150
        have g167 : q_gr f155 sr := q_gr_fr g151 (fun i9 _ => hF.z hsr (by rw [ksr]; rfl))
        have g168 : q_pk f155 mo pa := q_pk_tr g152 (hF.z hmo (by rw [kmo]; rfl)) (fun i9 => hF.z hpa (by rw [kpa]; rfl))
        have g169 : q_pc f155 mo pa xc := q_pc_tr g153 (hF.z hmo (by rw [kmo]; rfl)) (fun i9 => hF.z hpa (by rw [kpa]; rfl))
        obtain ⟨x170, ex170⟩ : ∃ zz, q_is (q_z f155 as 2) zz := ⟨_, q_isr _⟩
        obtain ⟨lx170, ux170⟩ := q_isb ex170 ⟨lz158, uz158⟩
        refine q_ald_n cx dX12_setBorn_23 rfl (lv_at hl 0 rfl) ?_
        refine q_ald_n cx dX12_setBorn_24 rfl (lv_at hl 0 rfl) ?_
        refine q_ild_n cx dX12_setBorn_25 rfl (lv_at hl 1 rfl) ?_
        refine q_iconst cx dX12_setBorn_26 ?_
        refine q_cSi (As := [.int (q_i a0), .int (q_i 0)]) (rest := [.ref mo, .ref mo]) cx hB (fun _ h => h) hN (r_nodeCell l g hN hB.2.1 a0 (by omega) (by omega) 0 (by decide) (by decide)) q_cX12_172 q_dX12_nodeCell (by decide) rfl rfl hl.1 rfl (Nat.le_of_ble_eq_true rfl) dX12_setBorn_27 (fun y172 H locs f171 ry172 h173 hF hB => ?_)
        obtain ⟨rfl, qy172⟩ := h173
        refine q_ild_n cx dX12_setBorn_30 rfl (lv_at hl 2 rfl) ?_
        refine q_cVi (As := [.int (q_i y172), .int (q_i b0)]) (rest := [.ref mo]) cx hB (fun _ h => h) hN hmo kmo (by decide) rfl (r_swapsCelln0 l g hN hB.2.1 mo hmo kmo y172 (by omega) (by omega) b0 (by omega) (by omega) sr hsr ksr a0 (by omega) (by omega) z164 (by omega) g167) q_cX12_462 q_dX12_swapsCell (by decide) rfl rfl hl.1 rfl (Nat.le_of_ble_eq_true rfl) dX12_setBorn_31 (fun y175 H locs f174 ry175 h176 hF hB => ?_)
        obtain ⟨ly175, uy175, g177⟩ := h176
        have z178 : q_is (q_z f174 sr 3) xt := Eq.trans (hF.z hsr (by rw [ksr]; rfl)) z160
        have z179 : q_is (q_z f174 sr 4) xm := Eq.trans (hF.z hsr (by rw [ksr]; rfl)) z161
        have z180 : q_is (q_z f174 sr 0) xc := Eq.trans (hF.z hsr (by rw [ksr]; rfl)) z162
        have z181 : q_is (q_z f174 mo 0) 0 := Eq.trans (hF.z hmo (by rw [kmo]; rfl)) z163
        have z182 : q_is (q_z f174 as 2) x170 := Eq.trans (hF.z has (by rw [kas]; rfl)) ex170
        have z183 : q_is (q_z f174 as 0) xc := Eq.trans (hF.z has (by rw [kas]; rfl)) z159
        have z184 : q_ir (q_r f174 mo 13) sr := Eq.trans (hF.r hmo (by rw [kmo]; rfl)) z164
        have z185 : q_ir (q_r f174 mo 15) as := Eq.trans (hF.r hmo (by rw [kmo]; rfl)) z165
        have z186 : q_ir (q_r f174 mo 17) pa := Eq.trans (hF.r hmo (by rw [kmo]; rfl)) z166
        have g187 : q_pk f174 mo pa := q_pk_tr g168 (hF.z hmo (by rw [kmo]; rfl)) (fun i9 => hF.z hpa (by rw [kpa]; rfl))
        have g188 : q_pc f174 mo pa xc := q_pc_tr g169 (hF.z hmo (by rw [kmo]; rfl)) (fun i9 => hF.z hpa (by rw [kpa]; rfl))
        refine q_cVi (As := [.int (q_i y175)]) (rest := []) cx hB (fun _ h => h) hN hmo kmo (by decide) rfl (r_kept l g hN hB.2.1 mo hmo kmo y175 (by omega) (by omega) as has kas pa hpa kpa x170 (by omega) (by omega) xc (by omega) (by omega) z182 z183 z185 z186 g187 g188) q_cX12_449 q_dX12_kept (by decide) rfl rfl hl.1 rfl (Nat.le_of_ble_eq_true rfl) dX12_setBorn_34 (fun y190 H locs f189 ry190 h191 hF hB => ?_)
        obtain ⟨qy190, g192, g193⟩ := h191
        have z194 : q_is (q_z f189 sr 3) xt := Eq.trans (hF.z hsr (by rw [ksr]; rfl)) z178
        have z195 : q_is (q_z f189 sr 4) xm := Eq.trans (hF.z hsr (by rw [ksr]; rfl)) z179
        have z196 : q_is (q_z f189 sr 0) xc := Eq.trans (hF.z hsr (by rw [ksr]; rfl)) z180
        have z197 : q_is (q_z f189 mo 0) 0 := Eq.trans (hF.z hmo (by rw [kmo]; rfl)) z181
        have z198 : q_is (q_z f189 as 2) x170 := Eq.trans (hF.z has (by rw [kas]; rfl)) z182
        have z199 : q_is (q_z f189 as 0) xc := Eq.trans (hF.z has (by rw [kas]; rfl)) z183
        have z200 : q_ir (q_r f189 mo 13) sr := Eq.trans (hF.r hmo (by rw [kmo]; rfl)) z184
        have z201 : q_ir (q_r f189 mo 15) as := Eq.trans (hF.r hmo (by rw [kmo]; rfl)) z185
        have z202 : q_ir (q_r f189 mo 17) pa := Eq.trans (hF.r hmo (by rw [kmo]; rfl)) z186
        have g203 : q_gr f189 sr := q_gr_fr g177 (fun i9 _ => hF.z hsr (by rw [ksr]; rfl))
        refine q_iret cx hr hlk hB dX12_setBorn_37 ⟨by omega, by omega⟩ ?_
        exact ⟨(by omega), (by omega), (q_isl z194 (by omega)), (q_isu z194 (by omega)), (q_isl z195 (by omega)), (q_isu z195 (by omega)), z196, g203, g192, g193⟩
      · exact absurd c154 (by omega)
    · obtain ⟨rfl, qy135⟩ := h138
      subst qy135
      refine q_cVi (As := [.int (q_i 1), .int (q_i 0)]) (rest := []) cx hB (fun _ h => h) hN hmo kmo (by decide) rfl (r_goesBoth1 l g hN hB.2.1 mo hmo kmo 1 (by decide) (by decide) 0 (by decide) (by decide)) q_cX12_358 q_dX12_goesBoth (by decide) rfl rfl hl.1 rfl (Nat.le_of_ble_eq_true rfl) dX12_setBorn_11 (fun y205 H locs f204 ry205 h206 hF hB => ?_)
      obtain ⟨qy205, z207⟩ := h206
      have z208 : q_is (q_z f204 sr 3) xt := Eq.trans (hF.z hsr (by rw [ksr]; rfl)) hf0
      have z209 : q_is (q_z f204 sr 4) xm := Eq.trans (hF.z hsr (by rw [ksr]; rfl)) hf1
      have z210 : q_is (q_z f204 sr 0) xc := Eq.trans (hF.z hsr (by rw [ksr]; rfl)) hf2
      have z211 : q_ir (q_r f204 mo 13) sr := Eq.trans (hF.r hmo (by rw [kmo]; rfl)) hr0
      have z212 : q_ir (q_r f204 mo 15) as := Eq.trans (hF.r hmo (by rw [kmo]; rfl)) hr1
      have z213 : q_ir (q_r f204 mo 17) pa := Eq.trans (hF.r hmo (by rw [kmo]; rfl)) hr2
      have g214 : q_gr f204 sr := q_gr_fr hgr (fun i9 _ => hF.z hsr (by rw [ksr]; rfl))
      have g215 : q_pk f204 mo pa := q_pk_tr hpk (hF.z hmo (by rw [kmo]; rfl)) (fun i9 => hF.z hpa (by rw [kpa]; rfl))
      have g216 : q_pc f204 mo pa xc := q_pc_tr hpc (hF.z hmo (by rw [kmo]; rfl)) (fun i9 => hF.z hpa (by rw [kpa]; rfl))
      subst qy205
      refine q_ifne (tgt := 19) cx ⟨by decide, by decide⟩ dX12_setBorn_14 (by decide) (fun c217 => ?_) (fun c217 => ?_)
      · exact absurd c217 (by omega)
      · refine q_iconst cx dX12_setBorn_17 ?_
        refine q_iret cx hr hlk hB dX12_setBorn_18 ⟨by decide, by decide⟩ ?_
        exact ⟨(by decide), (by decide), (q_isl z208 (by omega)), (q_isu z208 (by omega)), (q_isl z209 (by omega)), (q_isu z209 (by omega)), z210, g214, g215, g216⟩
  · obtain ⟨rfl, qy128⟩ := h131
    subst qy128
    refine q_ald_n cx dX12_setBorn_6 rfl (lv_at hl 0 rfl) ?_
    refine q_ild_n cx dX12_setBorn_7 rfl (lv_at hl 2 rfl) ?_
    refine q_cVi (As := [.int (q_i b0)]) (rest := [.int (q_i 0), .ref mo]) cx hB (fun _ h => h) hN hmo kmo (by decide) rfl (r_isDay l g hN hB.2.1 mo hmo kmo b0 (by omega) (by omega) sr hsr ksr hr0 hgr) q_cX12_388 q_dX12_isDay (by decide) rfl rfl hl.1 rfl (Nat.le_of_ble_eq_true rfl) dX12_setBorn_8 (fun y219 H locs f218 ry219 h220 hF hB => ?_)
    rcases h220 with h221 | h222
    · obtain ⟨rfl, qy219, t223, t224⟩ := h221
      subst qy219
      refine q_cVi (As := [.int (q_i 0), .int (q_i 1)]) (rest := []) cx hB (fun _ h => h) hN hmo kmo (by decide) rfl (r_goesBoth0 l g hN hB.2.1 mo hmo kmo 0 (by decide) (by decide) 1 (by decide) (by decide)) q_cX12_358 q_dX12_goesBoth (by decide) rfl rfl hl.1 rfl (Nat.le_of_ble_eq_true rfl) dX12_setBorn_11 (fun y226 H locs f225 ry226 h227 hF hB => ?_)
      obtain ⟨qy226, z228⟩ := h227
      have z229 : q_is (q_z f225 sr 3) xt := Eq.trans (hF.z hsr (by rw [ksr]; rfl)) hf0
      have z230 : q_is (q_z f225 sr 4) xm := Eq.trans (hF.z hsr (by rw [ksr]; rfl)) hf1
      have z231 : q_is (q_z f225 sr 0) xc := Eq.trans (hF.z hsr (by rw [ksr]; rfl)) hf2
      have z232 : q_ir (q_r f225 mo 13) sr := Eq.trans (hF.r hmo (by rw [kmo]; rfl)) hr0
      have z233 : q_ir (q_r f225 mo 15) as := Eq.trans (hF.r hmo (by rw [kmo]; rfl)) hr1
      have z234 : q_ir (q_r f225 mo 17) pa := Eq.trans (hF.r hmo (by rw [kmo]; rfl)) hr2
      have g235 : q_gr f225 sr := q_gr_fr hgr (fun i9 _ => hF.z hsr (by rw [ksr]; rfl))
      have g236 : q_pk f225 mo pa := q_pk_tr hpk (hF.z hmo (by rw [kmo]; rfl)) (fun i9 => hF.z hpa (by rw [kpa]; rfl))
      have g237 : q_pc f225 mo pa xc := q_pc_tr hpc (hF.z hmo (by rw [kmo]; rfl)) (fun i9 => hF.z hpa (by rw [kpa]; rfl))
      subst qy226
      refine q_ifne (tgt := 19) cx ⟨by decide, by decide⟩ dX12_setBorn_14 (by decide) (fun c238 => ?_) (fun c238 => ?_)
      · exact absurd c238 (by omega)
      · refine q_iconst cx dX12_setBorn_17 ?_
        refine q_iret cx hr hlk hB dX12_setBorn_18 ⟨by decide, by decide⟩ ?_
        exact ⟨(by decide), (by decide), (q_isl z229 (by omega)), (q_isu z229 (by omega)), (q_isl z230 (by omega)), (q_isu z230 (by omega)), z231, g235, g236, g237⟩
    · obtain ⟨rfl, qy219⟩ := h222
      subst qy219
      refine q_cVi (As := [.int (q_i 0), .int (q_i 0)]) (rest := []) cx hB (fun _ h => h) hN hmo kmo (by decide) rfl (r_goesBoth0 l g hN hB.2.1 mo hmo kmo 0 (by decide) (by decide) 0 (by decide) (by decide)) q_cX12_358 q_dX12_goesBoth (by decide) rfl rfl hl.1 rfl (Nat.le_of_ble_eq_true rfl) dX12_setBorn_11 (fun y240 H locs f239 ry240 h241 hF hB => ?_)
      obtain ⟨qy240, z242⟩ := h241
      have z243 : q_is (q_z f239 sr 3) xt := Eq.trans (hF.z hsr (by rw [ksr]; rfl)) hf0
      have z244 : q_is (q_z f239 sr 4) xm := Eq.trans (hF.z hsr (by rw [ksr]; rfl)) hf1
      have z245 : q_is (q_z f239 sr 0) xc := Eq.trans (hF.z hsr (by rw [ksr]; rfl)) hf2
      have z246 : q_ir (q_r f239 mo 13) sr := Eq.trans (hF.r hmo (by rw [kmo]; rfl)) hr0
      have z247 : q_ir (q_r f239 mo 15) as := Eq.trans (hF.r hmo (by rw [kmo]; rfl)) hr1
      have z248 : q_ir (q_r f239 mo 17) pa := Eq.trans (hF.r hmo (by rw [kmo]; rfl)) hr2
      have g249 : q_gr f239 sr := q_gr_fr hgr (fun i9 _ => hF.z hsr (by rw [ksr]; rfl))
      have g250 : q_pk f239 mo pa := q_pk_tr hpk (hF.z hmo (by rw [kmo]; rfl)) (fun i9 => hF.z hpa (by rw [kpa]; rfl))
      have g251 : q_pc f239 mo pa xc := q_pc_tr hpc (hF.z hmo (by rw [kmo]; rfl)) (fun i9 => hF.z hpa (by rw [kpa]; rfl))
      subst qy240
      refine q_ifne (tgt := 19) cx ⟨by decide, by decide⟩ dX12_setBorn_14 (by decide) (fun c252 => ?_) (fun c252 => ?_)
      · exact absurd c252 (by omega)
      · refine q_iconst cx dX12_setBorn_17 ?_
        refine q_iret cx hr hlk hB dX12_setBorn_18 ⟨by decide, by decide⟩ ?_
        exact ⟨(by decide), (by decide), (q_isl z243 (by omega)), (q_isu z243 (by omega)), (q_isl z244 (by omega)), (q_isu z244 (by omega)), z245, g249, g250, g251⟩
set_option maxHeartbeats 4000000 in
set_option maxRecDepth 100000 in
theorem r_charge (l : Launch) (g : q_G) {K : Nat → Nat} {L : List Nat} (hN : L.Nodup) {f : Nat → va_E} (hT : q_Ty g K L f) (mo : Nat) (hmo : mo ∈ L) (kmo : K mo = 12) (a0 : Int) (la0 : (-2147483648) ≤ a0) (ua0 : a0 ≤ 2147483647) (b0 : Int) (lb0 : (-2147483648) ≤ b0) (ub0 : b0 ≤ 2147483647) (sr : Nat) (hsr : sr ∈ L) (ksr : K sr = 151) (as : Nat) (has : as ∈ L) (kas : K as = 153) (pa : Nat) (hpa : pa ∈ L) (kpa : K pa = 155) (xt : Int) (lxt : 0 ≤ xt) (uxt : xt ≤ 9999) (xm : Int) (lxm : 0 ≤ xm) (uxm : xm ≤ 60) (xc : Int) (lxc : 0 ≤ xc) (uxc : xc ≤ 10) (hf0 : q_is (q_z f sr 3) xt) (hf1 : q_is (q_z f sr 4) xm) (hf2 : q_is (q_z f sr 0) xc) (hr0 : q_ir (q_r f mo 13) sr) (hr1 : q_ir (q_r f mo 15) as) (hr2 : q_ir (q_r f mo 17) pa) (hgr : q_gr f sr) (hpk : q_pk f mo pa) (hpc : q_pc f mo pa xc) : q_Ct l g K L yX12_charge cX12_charge 3 (some .int) 3 66 [.ref mo, .int (q_i a0), .int (q_i b0)] f [(12, 0, 0), (12, 21, 21), (151, 12, 84), (153, 0, 657), (155, 0, 3947)] (q_Pi (fun (z : Int) (f1 : Nat → va_E) => (-198) ≤ z ∧ z ≤ 9999 ∧ 0 ≤ q_z f1 sr 3 ∧ q_z f1 sr 3 ≤ 9999 ∧ 0 ≤ q_z f1 sr 4 ∧ q_z f1 sr 4 ≤ 60 ∧ q_is (q_z f1 sr 0) xc ∧ q_gr f1 sr ∧ (q_pk f1 mo pa) ∧ (q_pc f1 mo pa xc))) := by
  refine q_ofb (by decide +kernel) hN hT (Nat.le_of_ble_eq_true rfl) ?_
  intro p e s m below meth c ls cx hr hlk hB hl
  have hl : lv_has ls 3 [(0, .ref mo), (1, .int (q_i a0)), (2, .int (q_i b0))] := hl
  obtain ⟨H, hH⟩ : ∃ H : Heap, H = s.heap := ⟨_, rfl⟩
  obtain ⟨locs, hlocs⟩ : ∃ z : List Loc, z = [] := ⟨_, rfl⟩
  rw [← hH, ← hlocs] at hB
  rw [← hH, ← hlocs]
  refine q_ald_n cx dX12_charge_0 rfl (lv_at hl 0 rfl) ?_
  refine q_ald_n cx dX12_charge_1 rfl (lv_at hl 0 rfl) ?_
  refine q_ild_n cx dX12_charge_2 rfl (lv_at hl 1 rfl) ?_
  refine q_cVi (As := [.int (q_i a0)]) (rest := [.ref mo]) cx hB (fun _ h => h) hN hmo kmo (by decide) rfl (r_isNode l g hN hB.2.1 mo hmo kmo a0 (by omega) (by omega) sr hsr ksr hr0) q_cX12_355 q_dX12_isNode (by decide) rfl rfl hl.1 rfl (Nat.le_of_ble_eq_true rfl) dX12_charge_3 (fun y127 H locs f126 ry127 h128 hF hB => ?_)
  rcases h128 with h129 | h130
  · obtain ⟨rfl, qy127, t131, t132⟩ := h129
    subst qy127
    refine q_ild_n cx dX12_charge_6 rfl (lv_at hl 2 rfl) ?_
    refine q_cSi (As := [.int (q_i b0)]) (rest := [.int (q_i 1), .ref mo]) cx hB (fun _ h => h) hN (r_isMany l g hN hB.2.1 b0 (by omega) (by omega)) q_cX12_452 q_dX12_isMany (by decide) rfl rfl hl.1 rfl (Nat.le_of_ble_eq_true rfl) dX12_charge_7 (fun y134 H locs f133 ry134 h135 hF hB => ?_)
    rcases h135 with h136 | h137
    · obtain ⟨rfl, qy134, t138, t139⟩ := h136
      subst qy134
      refine q_cVi (As := [.int (q_i 1), .int (q_i 1)]) (rest := []) cx hB (fun _ h => h) hN hmo kmo (by decide) rfl (r_goesBoth2 l g hN hB.2.1 mo hmo kmo 1 (by decide) (by decide) 1 (by decide) (by decide)) q_cX12_358 q_dX12_goesBoth (by decide) rfl rfl hl.1 rfl (Nat.le_of_ble_eq_true rfl) dX12_charge_10 (fun y141 H locs f140 ry141 h142 hF hB => ?_)
      obtain ⟨qy141, z143⟩ := h142
      have z144 : q_is (q_z f140 sr 3) xt := Eq.trans (hF.z hsr (by rw [ksr]; rfl)) hf0
      have z145 : q_is (q_z f140 sr 4) xm := Eq.trans (hF.z hsr (by rw [ksr]; rfl)) hf1
      have z146 : q_is (q_z f140 sr 0) xc := Eq.trans (hF.z hsr (by rw [ksr]; rfl)) hf2
      have z147 : q_ir (q_r f140 mo 13) sr := Eq.trans (hF.r hmo (by rw [kmo]; rfl)) hr0
      have z148 : q_ir (q_r f140 mo 15) as := Eq.trans (hF.r hmo (by rw [kmo]; rfl)) hr1
      have z149 : q_ir (q_r f140 mo 17) pa := Eq.trans (hF.r hmo (by rw [kmo]; rfl)) hr2
      have g150 : q_gr f140 sr := q_gr_fr hgr (fun i9 _ => hF.z hsr (by rw [ksr]; rfl))
      have g151 : q_pk f140 mo pa := q_pk_tr hpk (hF.z hmo (by rw [kmo]; rfl)) (fun i9 => hF.z hpa (by rw [kpa]; rfl))
      have g152 : q_pc f140 mo pa xc := q_pc_tr hpc (hF.z hmo (by rw [kmo]; rfl)) (fun i9 => hF.z hpa (by rw [kpa]; rfl))
      subst qy141
      refine q_ifne (tgt := 18) cx ⟨by decide, by decide⟩ dX12_charge_13 (by decide) (fun c153 => ?_) (fun c153 => ?_)
      · refine q_ald_n cx dX12_charge_18 rfl (lv_at hl 0 rfl) ?_
        refine q_cVv (As := []) (rest := []) cx hB (fun _ h => h) hN hmo kmo (by decide) rfl (r_laysAside l g hN hB.2.1 mo hmo kmo sr hsr ksr as has kas xt (by omega) (by omega) xm (by omega) (by omega) xc (by omega) (by omega) z144 z145 z146 z147 z148 g150) q_cX12_247 q_dX12_laysAside (by decide) rfl rfl hl.1 rfl (Nat.le_of_ble_eq_true rfl) dX12_charge_19 (fun H locs f154 h156 hF hB => ?_)
        obtain ⟨lz157, uz157, z158⟩ := h156
        have z159 : q_is (q_z f154 sr 3) xt := Eq.trans (hF.z hsr (by rw [ksr]; rfl)) z144
        have z160 : q_is (q_z f154 sr 4) xm := Eq.trans (hF.z hsr (by rw [ksr]; rfl)) z145
        have z161 : q_is (q_z f154 sr 0) xc := Eq.trans (hF.z hsr (by rw [ksr]; rfl)) z146
        have z162 : q_is (q_z f154 mo 0) 0 := Eq.trans (hF.z hmo (by rw [kmo]; rfl)) z143
        have z163 : q_ir (q_r f154 mo 13) sr := Eq.trans (hF.r hmo (by rw [kmo]; rfl)) z147
        have z164 : q_ir (q_r f154 mo 15) as := Eq.trans (hF.r hmo (by rw [kmo]; rfl)) z148
        have z165 : q_ir (q_r f154 mo 17) pa := Eq.trans (hF.r hmo (by rw [kmo]; rfl)) z149
        have g166 : q_gr f154 sr := q_gr_fr g150 (fun i9 _ => hF.z hsr (by rw [ksr]; rfl))
        have g167 : q_pk f154 mo pa := q_pk_tr g151 (hF.z hmo (by rw [kmo]; rfl)) (fun i9 => hF.z hpa (by rw [kpa]; rfl))
        have g168 : q_pc f154 mo pa xc := q_pc_tr g152 (hF.z hmo (by rw [kmo]; rfl)) (fun i9 => hF.z hpa (by rw [kpa]; rfl))
        obtain ⟨x169, ex169⟩ : ∃ zz, q_is (q_z f154 as 2) zz := ⟨_, q_isr _⟩
        obtain ⟨lx169, ux169⟩ := q_isb ex169 ⟨lz157, uz157⟩
        refine q_ald_n cx dX12_charge_22 rfl (lv_at hl 0 rfl) ?_
        refine q_ald_n cx dX12_charge_23 rfl (lv_at hl 0 rfl) ?_
        refine q_ild_n cx dX12_charge_24 rfl (lv_at hl 1 rfl) ?_
        refine q_ild_n cx dX12_charge_25 rfl (lv_at hl 2 rfl) ?_
        refine q_cVi (As := [.int (q_i a0), .int (q_i b0)]) (rest := [.ref mo]) cx hB (fun _ h => h) hN hmo kmo (by decide) rfl (r_charges l g hN hB.2.1 mo hmo kmo a0 (by omega) (by omega) b0 (by omega) (by omega) sr hsr ksr z163 g166) q_cX12_465 q_dX12_charges (by decide) rfl rfl hl.1 rfl (Nat.le_of_ble_eq_true rfl) dX12_charge_26 (fun y171 H locs f170 ry171 h172 hF hB => ?_)
        obtain ⟨ly171, uy171, g173⟩ := h172
        have z174 : q_is (q_z f170 sr 3) xt := Eq.trans (hF.z hsr (by rw [ksr]; rfl)) z159
        have z175 : q_is (q_z f170 sr 4) xm := Eq.trans (hF.z hsr (by rw [ksr]; rfl)) z160
        have z176 : q_is (q_z f170 sr 0) xc := Eq.trans (hF.z hsr (by rw [ksr]; rfl)) z161
        have z177 : q_is (q_z f170 mo 0) 0 := Eq.trans (hF.z hmo (by rw [kmo]; rfl)) z162
        have z178 : q_is (q_z f170 as 2) x169 := Eq.trans (hF.z has (by rw [kas]; rfl)) ex169
        have z179 : q_is (q_z f170 as 0) xc := Eq.trans (hF.z has (by rw [kas]; rfl)) z158
        have z180 : q_ir (q_r f170 mo 13) sr := Eq.trans (hF.r hmo (by rw [kmo]; rfl)) z163
        have z181 : q_ir (q_r f170 mo 15) as := Eq.trans (hF.r hmo (by rw [kmo]; rfl)) z164
        have z182 : q_ir (q_r f170 mo 17) pa := Eq.trans (hF.r hmo (by rw [kmo]; rfl)) z165
        have g183 : q_pk f170 mo pa := q_pk_tr g167 (hF.z hmo (by rw [kmo]; rfl)) (fun i9 => hF.z hpa (by rw [kpa]; rfl))
        have g184 : q_pc f170 mo pa xc := q_pc_tr g168 (hF.z hmo (by rw [kmo]; rfl)) (fun i9 => hF.z hpa (by rw [kpa]; rfl))
        refine q_cVi (As := [.int (q_i y171)]) (rest := []) cx hB (fun _ h => h) hN hmo kmo (by decide) rfl (r_kept l g hN hB.2.1 mo hmo kmo y171 (by omega) (by omega) as has kas pa hpa kpa x169 (by omega) (by omega) xc (by omega) (by omega) z178 z179 z181 z182 g183 g184) q_cX12_449 q_dX12_kept (by decide) rfl rfl hl.1 rfl (Nat.le_of_ble_eq_true rfl) dX12_charge_29 (fun y186 H locs f185 ry186 h187 hF hB => ?_)
        obtain ⟨qy186, g188, g189⟩ := h187
        have z190 : q_is (q_z f185 sr 3) xt := Eq.trans (hF.z hsr (by rw [ksr]; rfl)) z174
        have z191 : q_is (q_z f185 sr 4) xm := Eq.trans (hF.z hsr (by rw [ksr]; rfl)) z175
        have z192 : q_is (q_z f185 sr 0) xc := Eq.trans (hF.z hsr (by rw [ksr]; rfl)) z176
        have z193 : q_is (q_z f185 mo 0) 0 := Eq.trans (hF.z hmo (by rw [kmo]; rfl)) z177
        have z194 : q_is (q_z f185 as 2) x169 := Eq.trans (hF.z has (by rw [kas]; rfl)) z178
        have z195 : q_is (q_z f185 as 0) xc := Eq.trans (hF.z has (by rw [kas]; rfl)) z179
        have z196 : q_ir (q_r f185 mo 13) sr := Eq.trans (hF.r hmo (by rw [kmo]; rfl)) z180
        have z197 : q_ir (q_r f185 mo 15) as := Eq.trans (hF.r hmo (by rw [kmo]; rfl)) z181
        have z198 : q_ir (q_r f185 mo 17) pa := Eq.trans (hF.r hmo (by rw [kmo]; rfl)) z182
        have g199 : q_gr f185 sr := q_gr_fr g173 (fun i9 _ => hF.z hsr (by rw [ksr]; rfl))
        refine q_iret cx hr hlk hB dX12_charge_32 ⟨by omega, by omega⟩ ?_
        exact ⟨(by omega), (by omega), (q_isl z190 (by omega)), (q_isu z190 (by omega)), (q_isl z191 (by omega)), (q_isu z191 (by omega)), z192, g199, g188, g189⟩
      · exact absurd c153 (by omega)
    · obtain ⟨rfl, qy134, t200⟩ := h137
      subst qy134
      refine q_cVi (As := [.int (q_i 1), .int (q_i 0)]) (rest := []) cx hB (fun _ h => h) hN hmo kmo (by decide) rfl (r_goesBoth1 l g hN hB.2.1 mo hmo kmo 1 (by decide) (by decide) 0 (by decide) (by decide)) q_cX12_358 q_dX12_goesBoth (by decide) rfl rfl hl.1 rfl (Nat.le_of_ble_eq_true rfl) dX12_charge_10 (fun y202 H locs f201 ry202 h203 hF hB => ?_)
      obtain ⟨qy202, z204⟩ := h203
      have z205 : q_is (q_z f201 sr 3) xt := Eq.trans (hF.z hsr (by rw [ksr]; rfl)) hf0
      have z206 : q_is (q_z f201 sr 4) xm := Eq.trans (hF.z hsr (by rw [ksr]; rfl)) hf1
      have z207 : q_is (q_z f201 sr 0) xc := Eq.trans (hF.z hsr (by rw [ksr]; rfl)) hf2
      have z208 : q_ir (q_r f201 mo 13) sr := Eq.trans (hF.r hmo (by rw [kmo]; rfl)) hr0
      have z209 : q_ir (q_r f201 mo 15) as := Eq.trans (hF.r hmo (by rw [kmo]; rfl)) hr1
      have z210 : q_ir (q_r f201 mo 17) pa := Eq.trans (hF.r hmo (by rw [kmo]; rfl)) hr2
      have g211 : q_gr f201 sr := q_gr_fr hgr (fun i9 _ => hF.z hsr (by rw [ksr]; rfl))
      have g212 : q_pk f201 mo pa := q_pk_tr hpk (hF.z hmo (by rw [kmo]; rfl)) (fun i9 => hF.z hpa (by rw [kpa]; rfl))
      have g213 : q_pc f201 mo pa xc := q_pc_tr hpc (hF.z hmo (by rw [kmo]; rfl)) (fun i9 => hF.z hpa (by rw [kpa]; rfl))
      subst qy202
      refine q_ifne (tgt := 18) cx ⟨by decide, by decide⟩ dX12_charge_13 (by decide) (fun c214 => ?_) (fun c214 => ?_)
      · exact absurd c214 (by omega)
      · refine q_iconst cx dX12_charge_16 ?_
        refine q_iret cx hr hlk hB dX12_charge_17 ⟨by decide, by decide⟩ ?_
        exact ⟨(by decide), (by decide), (q_isl z205 (by omega)), (q_isu z205 (by omega)), (q_isl z206 (by omega)), (q_isu z206 (by omega)), z207, g211, g212, g213⟩
  · obtain ⟨rfl, qy127⟩ := h130
    subst qy127
    refine q_ild_n cx dX12_charge_6 rfl (lv_at hl 2 rfl) ?_
    refine q_cSi (As := [.int (q_i b0)]) (rest := [.int (q_i 0), .ref mo]) cx hB (fun _ h => h) hN (r_isMany l g hN hB.2.1 b0 (by omega) (by omega)) q_cX12_452 q_dX12_isMany (by decide) rfl rfl hl.1 rfl (Nat.le_of_ble_eq_true rfl) dX12_charge_7 (fun y216 H locs f215 ry216 h217 hF hB => ?_)
    rcases h217 with h218 | h219
    · obtain ⟨rfl, qy216, t220, t221⟩ := h218
      subst qy216
      refine q_cVi (As := [.int (q_i 0), .int (q_i 1)]) (rest := []) cx hB (fun _ h => h) hN hmo kmo (by decide) rfl (r_goesBoth0 l g hN hB.2.1 mo hmo kmo 0 (by decide) (by decide) 1 (by decide) (by decide)) q_cX12_358 q_dX12_goesBoth (by decide) rfl rfl hl.1 rfl (Nat.le_of_ble_eq_true rfl) dX12_charge_10 (fun y223 H locs f222 ry223 h224 hF hB => ?_)
      obtain ⟨qy223, z225⟩ := h224
      have z226 : q_is (q_z f222 sr 3) xt := Eq.trans (hF.z hsr (by rw [ksr]; rfl)) hf0
      have z227 : q_is (q_z f222 sr 4) xm := Eq.trans (hF.z hsr (by rw [ksr]; rfl)) hf1
      have z228 : q_is (q_z f222 sr 0) xc := Eq.trans (hF.z hsr (by rw [ksr]; rfl)) hf2
      have z229 : q_ir (q_r f222 mo 13) sr := Eq.trans (hF.r hmo (by rw [kmo]; rfl)) hr0
      have z230 : q_ir (q_r f222 mo 15) as := Eq.trans (hF.r hmo (by rw [kmo]; rfl)) hr1
      have z231 : q_ir (q_r f222 mo 17) pa := Eq.trans (hF.r hmo (by rw [kmo]; rfl)) hr2
      have g232 : q_gr f222 sr := q_gr_fr hgr (fun i9 _ => hF.z hsr (by rw [ksr]; rfl))
      have g233 : q_pk f222 mo pa := q_pk_tr hpk (hF.z hmo (by rw [kmo]; rfl)) (fun i9 => hF.z hpa (by rw [kpa]; rfl))
      have g234 : q_pc f222 mo pa xc := q_pc_tr hpc (hF.z hmo (by rw [kmo]; rfl)) (fun i9 => hF.z hpa (by rw [kpa]; rfl))
      subst qy223
      refine q_ifne (tgt := 18) cx ⟨by decide, by decide⟩ dX12_charge_13 (by decide) (fun c235 => ?_) (fun c235 => ?_)
      · exact absurd c235 (by omega)
      · refine q_iconst cx dX12_charge_16 ?_
        refine q_iret cx hr hlk hB dX12_charge_17 ⟨by decide, by decide⟩ ?_
        exact ⟨(by decide), (by decide), (q_isl z226 (by omega)), (q_isu z226 (by omega)), (q_isl z227 (by omega)), (q_isu z227 (by omega)), z228, g232, g233, g234⟩
    · obtain ⟨rfl, qy216, t236⟩ := h219
      subst qy216
      refine q_cVi (As := [.int (q_i 0), .int (q_i 0)]) (rest := []) cx hB (fun _ h => h) hN hmo kmo (by decide) rfl (r_goesBoth0 l g hN hB.2.1 mo hmo kmo 0 (by decide) (by decide) 0 (by decide) (by decide)) q_cX12_358 q_dX12_goesBoth (by decide) rfl rfl hl.1 rfl (Nat.le_of_ble_eq_true rfl) dX12_charge_10 (fun y238 H locs f237 ry238 h239 hF hB => ?_)
      obtain ⟨qy238, z240⟩ := h239
      have z241 : q_is (q_z f237 sr 3) xt := Eq.trans (hF.z hsr (by rw [ksr]; rfl)) hf0
      have z242 : q_is (q_z f237 sr 4) xm := Eq.trans (hF.z hsr (by rw [ksr]; rfl)) hf1
      have z243 : q_is (q_z f237 sr 0) xc := Eq.trans (hF.z hsr (by rw [ksr]; rfl)) hf2
      have z244 : q_ir (q_r f237 mo 13) sr := Eq.trans (hF.r hmo (by rw [kmo]; rfl)) hr0
      have z245 : q_ir (q_r f237 mo 15) as := Eq.trans (hF.r hmo (by rw [kmo]; rfl)) hr1
      have z246 : q_ir (q_r f237 mo 17) pa := Eq.trans (hF.r hmo (by rw [kmo]; rfl)) hr2
      have g247 : q_gr f237 sr := q_gr_fr hgr (fun i9 _ => hF.z hsr (by rw [ksr]; rfl))
      have g248 : q_pk f237 mo pa := q_pk_tr hpk (hF.z hmo (by rw [kmo]; rfl)) (fun i9 => hF.z hpa (by rw [kpa]; rfl))
      have g249 : q_pc f237 mo pa xc := q_pc_tr hpc (hF.z hmo (by rw [kmo]; rfl)) (fun i9 => hF.z hpa (by rw [kpa]; rfl))
      subst qy238
      refine q_ifne (tgt := 18) cx ⟨by decide, by decide⟩ dX12_charge_13 (by decide) (fun c250 => ?_) (fun c250 => ?_)
      · exact absurd c250 (by omega)
      · refine q_iconst cx dX12_charge_16 ?_
        refine q_iret cx hr hlk hB dX12_charge_17 ⟨by decide, by decide⟩ ?_
        exact ⟨(by decide), (by decide), (q_isl z241 (by omega)), (q_isu z241 (by omega)), (q_isl z242 (by omega)), (q_isu z242 (by omega)), z243, g247, g248, g249⟩
set_option maxHeartbeats 4000000 in
set_option maxRecDepth 100000 in
theorem r_watch (l : Launch) (g : q_G) {K : Nat → Nat} {L : List Nat} (hN : L.Nodup) {f : Nat → va_E} (hT : q_Ty g K L f) (mo : Nat) (hmo : mo ∈ L) (kmo : K mo = 12) (a0 : Int) (la0 : (-2147483648) ≤ a0) (ua0 : a0 ≤ 2147483647) (b0 : Int) (lb0 : (-2147483648) ≤ b0) (ub0 : b0 ≤ 2147483647) (c0 : Int) (lc0 : 0 ≤ c0) (uc0 : c0 ≤ 1) (sr : Nat) (hsr : sr ∈ L) (ksr : K sr = 151) (as : Nat) (has : as ∈ L) (kas : K as = 153) (pa : Nat) (hpa : pa ∈ L) (kpa : K pa = 155) (xt : Int) (lxt : 0 ≤ xt) (uxt : xt ≤ 9999) (xm : Int) (lxm : 0 ≤ xm) (uxm : xm ≤ 60) (xc : Int) (lxc : 0 ≤ xc) (uxc : xc ≤ 10) (hf0 : q_is (q_z f sr 3) xt) (hf1 : q_is (q_z f sr 4) xm) (hf2 : q_is (q_z f sr 0) xc) (hr0 : q_ir (q_r f mo 13) sr) (hr1 : q_ir (q_r f mo 15) as) (hr2 : q_ir (q_r f mo 17) pa) (hgr : q_gr f sr) (hpk : q_pk f mo pa) (hpc : q_pc f mo pa xc) : q_Ct l g K L yX12_watch cX12_watch 4 (some .boolean) 3 65 [.ref mo, .int (q_i a0), .int (q_i b0), .int (q_i c0)] f [(12, 0, 0), (12, 21, 21), (151, 16, 89), (153, 0, 657), (155, 0, 3947)] (q_Pi (fun (z : Int) (f1 : Nat → va_E) => 0 ≤ z ∧ z ≤ 1 ∧ 0 ≤ q_z f1 sr 3 ∧ q_z f1 sr 3 ≤ 9999 ∧ 0 ≤ q_z f1 sr 4 ∧ q_z f1 sr 4 ≤ 60 ∧ q_is (q_z f1 sr 0) xc ∧ q_gr f1 sr ∧ (q_pk f1 mo pa) ∧ (q_pc f1 mo pa xc))) := by
  refine q_ofb (by decide +kernel) hN hT (Nat.le_of_ble_eq_true rfl) ?_
  intro p e s m below meth c ls cx hr hlk hB hl
  have hl : lv_has ls 4 [(0, .ref mo), (1, .int (q_i a0)), (2, .int (q_i b0)), (3, .int (q_i c0))] := hl
  obtain ⟨H, hH⟩ : ∃ H : Heap, H = s.heap := ⟨_, rfl⟩
  obtain ⟨locs, hlocs⟩ : ∃ z : List Loc, z = [] := ⟨_, rfl⟩
  rw [← hH, ← hlocs] at hB
  rw [← hH, ← hlocs]
  refine q_ald_n cx dX12_watch_0 rfl (lv_at hl 0 rfl) ?_
  refine q_ald_n cx dX12_watch_1 rfl (lv_at hl 0 rfl) ?_
  refine q_ild_n cx dX12_watch_2 rfl (lv_at hl 1 rfl) ?_
  refine q_cVi (As := [.int (q_i a0)]) (rest := [.ref mo]) cx hB (fun _ h => h) hN hmo kmo (by decide) rfl (r_isNode l g hN hB.2.1 mo hmo kmo a0 (by omega) (by omega) sr hsr ksr hr0) q_cX12_355 q_dX12_isNode (by decide) rfl rfl hl.1 rfl (Nat.le_of_ble_eq_true rfl) dX12_watch_3 (fun y146 H locs f145 ry146 h147 hF hB => ?_)
  rcases h147 with h148 | h149
  · obtain ⟨rfl, qy146, t150, t151⟩ := h148
    subst qy146
    refine q_ald_n cx dX12_watch_6 rfl (lv_at hl 0 rfl) ?_
    refine q_ild_n cx dX12_watch_7 rfl (lv_at hl 2 rfl) ?_
    refine q_cVi (As := [.int (q_i b0)]) (rest := [.int (q_i 1), .ref mo]) cx hB (fun _ h => h) hN hmo kmo (by decide) rfl (r_isDay l g hN hB.2.1 mo hmo kmo b0 (by omega) (by omega) sr hsr ksr hr0 hgr) q_cX12_388 q_dX12_isDay (by decide) rfl rfl hl.1 rfl (Nat.le_of_ble_eq_true rfl) dX12_watch_8 (fun y153 H locs f152 ry153 h154 hF hB => ?_)
    rcases h154 with h155 | h156
    · obtain ⟨rfl, qy153, t157, t158⟩ := h155
      subst qy153
      refine q_cVi (As := [.int (q_i 1), .int (q_i 1)]) (rest := []) cx hB (fun _ h => h) hN hmo kmo (by decide) rfl (r_goesBoth2 l g hN hB.2.1 mo hmo kmo 1 (by decide) (by decide) 1 (by decide) (by decide)) q_cX12_358 q_dX12_goesBoth (by decide) rfl rfl hl.1 rfl (Nat.le_of_ble_eq_true rfl) dX12_watch_11 (fun y160 H locs f159 ry160 h161 hF hB => ?_)
      obtain ⟨qy160, z162⟩ := h161
      have z163 : q_is (q_z f159 sr 3) xt := Eq.trans (hF.z hsr (by rw [ksr]; rfl)) hf0
      have z164 : q_is (q_z f159 sr 4) xm := Eq.trans (hF.z hsr (by rw [ksr]; rfl)) hf1
      have z165 : q_is (q_z f159 sr 0) xc := Eq.trans (hF.z hsr (by rw [ksr]; rfl)) hf2
      have z166 : q_ir (q_r f159 mo 13) sr := Eq.trans (hF.r hmo (by rw [kmo]; rfl)) hr0
      have z167 : q_ir (q_r f159 mo 15) as := Eq.trans (hF.r hmo (by rw [kmo]; rfl)) hr1
      have z168 : q_ir (q_r f159 mo 17) pa := Eq.trans (hF.r hmo (by rw [kmo]; rfl)) hr2
      have g169 : q_gr f159 sr := q_gr_fr hgr (fun i9 _ => hF.z hsr (by rw [ksr]; rfl))
      have g170 : q_pk f159 mo pa := q_pk_tr hpk (hF.z hmo (by rw [kmo]; rfl)) (fun i9 => hF.z hpa (by rw [kpa]; rfl))
      have g171 : q_pc f159 mo pa xc := q_pc_tr hpc (hF.z hmo (by rw [kmo]; rfl)) (fun i9 => hF.z hpa (by rw [kpa]; rfl))
      subst qy160
      refine q_ifeq (tgt := 27) cx ⟨by decide, by decide⟩ dX12_watch_14 (by decide) (fun c172 => ?_) (fun c172 => ?_)
      · exact absurd c172 (by omega)
      · refine q_ald_n cx dX12_watch_17 rfl (lv_at hl 0 rfl) ?_
        refine q_ild_n cx dX12_watch_18 rfl (lv_at hl 1 rfl) ?_
        refine q_ild_n cx dX12_watch_19 rfl (lv_at hl 2 rfl) ?_
        refine q_cVi (As := [.int (q_i a0), .int (q_i b0)]) (rest := []) cx hB (fun _ h => h) hN hmo kmo (by decide) rfl (r_isWatched l g hN hB.2.1 mo hmo kmo a0 (by omega) (by omega) b0 (by omega) (by omega) sr hsr ksr z166 g169) q_cX12_262 q_dX12_isWatched (by decide) rfl rfl hl.1 rfl (Nat.le_of_ble_eq_true rfl) dX12_watch_20 (fun y174 H locs f173 ry174 h175 hF hB => ?_)
        obtain ⟨rfl, ly174, uy174⟩ := h175
        refine q_ild_n cx dX12_watch_23 rfl (lv_at hl 3 rfl) ?_
        refine q_icne (tgt := 29) cx ⟨by omega, by omega⟩ ⟨by omega, by omega⟩ dX12_watch_24 (by decide) (fun c176 => ?_) (fun c176 => ?_)
        · refine q_ald_n cx dX12_watch_29 rfl (lv_at hl 0 rfl) ?_
          refine q_cVv (As := []) (rest := []) cx hB (fun _ h => h) hN hmo kmo (by decide) rfl (r_laysAside l g hN hB.2.1 mo hmo kmo sr hsr ksr as has kas xt (by omega) (by omega) xm (by omega) (by omega) xc (by omega) (by omega) z163 z164 z165 z166 z167 g169) q_cX12_247 q_dX12_laysAside (by decide) rfl rfl hl.1 rfl (Nat.le_of_ble_eq_true rfl) dX12_watch_30 (fun H locs f177 h179 hF hB => ?_)
          obtain ⟨lz180, uz180, z181⟩ := h179
          have z182 : q_is (q_z f177 sr 3) xt := Eq.trans (hF.z hsr (by rw [ksr]; rfl)) z163
          have z183 : q_is (q_z f177 sr 4) xm := Eq.trans (hF.z hsr (by rw [ksr]; rfl)) z164
          have z184 : q_is (q_z f177 sr 0) xc := Eq.trans (hF.z hsr (by rw [ksr]; rfl)) z165
          have z185 : q_is (q_z f177 mo 0) 0 := Eq.trans (hF.z hmo (by rw [kmo]; rfl)) z162
          have z186 : q_ir (q_r f177 mo 13) sr := Eq.trans (hF.r hmo (by rw [kmo]; rfl)) z166
          have z187 : q_ir (q_r f177 mo 15) as := Eq.trans (hF.r hmo (by rw [kmo]; rfl)) z167
          have z188 : q_ir (q_r f177 mo 17) pa := Eq.trans (hF.r hmo (by rw [kmo]; rfl)) z168
          have g189 : q_gr f177 sr := q_gr_fr g169 (fun i9 _ => hF.z hsr (by rw [ksr]; rfl))
          have g190 : q_pk f177 mo pa := q_pk_tr g170 (hF.z hmo (by rw [kmo]; rfl)) (fun i9 => hF.z hpa (by rw [kpa]; rfl))
          have g191 : q_pc f177 mo pa xc := q_pc_tr g171 (hF.z hmo (by rw [kmo]; rfl)) (fun i9 => hF.z hpa (by rw [kpa]; rfl))
          obtain ⟨x192, ex192⟩ : ∃ zz, q_is (q_z f177 as 2) zz := ⟨_, q_isr _⟩
          obtain ⟨lx192, ux192⟩ := q_isb ex192 ⟨lz180, uz180⟩
          refine q_ald_n cx dX12_watch_33 rfl (lv_at hl 0 rfl) ?_
          refine q_ild_n cx dX12_watch_34 rfl (lv_at hl 1 rfl) ?_
          refine q_ild_n cx dX12_watch_35 rfl (lv_at hl 2 rfl) ?_
          refine q_ild_n cx dX12_watch_36 rfl (lv_at hl 3 rfl) ?_
          refine q_cVv (As := [.int (q_i a0), .int (q_i b0), .int (q_i c0)]) (rest := []) cx hB (fun _ h => h) hN hmo kmo (by decide) rfl (r_watches l g hN hB.2.1 mo hmo kmo a0 (by omega) (by omega) b0 (by omega) (by omega) c0 (by omega) (by omega) sr hsr ksr z186 g189) q_cX12_436 q_dX12_watches (by decide) rfl rfl hl.1 rfl (Nat.le_of_ble_eq_true rfl) dX12_watch_37 (fun H locs f193 h195 hF hB => ?_)
          have g196 := h195
          have z197 : q_is (q_z f193 sr 3) xt := Eq.trans (hF.z hsr (by rw [ksr]; rfl)) z182
          have z198 : q_is (q_z f193 sr 4) xm := Eq.trans (hF.z hsr (by rw [ksr]; rfl)) z183
          have z199 : q_is (q_z f193 sr 0) xc := Eq.trans (hF.z hsr (by rw [ksr]; rfl)) z184
          have z200 : q_is (q_z f193 mo 0) 0 := Eq.trans (hF.z hmo (by rw [kmo]; rfl)) z185
          have z201 : q_is (q_z f193 as 2) x192 := Eq.trans (hF.z has (by rw [kas]; rfl)) ex192
          have z202 : q_is (q_z f193 as 0) xc := Eq.trans (hF.z has (by rw [kas]; rfl)) z181
          have z203 : q_ir (q_r f193 mo 13) sr := Eq.trans (hF.r hmo (by rw [kmo]; rfl)) z186
          have z204 : q_ir (q_r f193 mo 15) as := Eq.trans (hF.r hmo (by rw [kmo]; rfl)) z187
          have z205 : q_ir (q_r f193 mo 17) pa := Eq.trans (hF.r hmo (by rw [kmo]; rfl)) z188
          have g206 : q_pk f193 mo pa := q_pk_tr g190 (hF.z hmo (by rw [kmo]; rfl)) (fun i9 => hF.z hpa (by rw [kpa]; rfl))
          have g207 : q_pc f193 mo pa xc := q_pc_tr g191 (hF.z hmo (by rw [kmo]; rfl)) (fun i9 => hF.z hpa (by rw [kpa]; rfl))
          refine q_ald_n cx dX12_watch_40 rfl (lv_at hl 0 rfl) ?_
          obtain ⟨x208, ex208⟩ : ∃ zz, q_is (q_z f193 mo 21) zz := ⟨_, q_isr _⟩
          obtain ⟨lx208, ux208⟩ := q_isb ex208 (q_fib hB.2.1 hmo kmo (by decide) rfl)
          by_cases c209 : x208 ≤ 5
          · refine q_cVv (As := []) (rest := []) cx hB (fun _ h => h) hN hmo kmo (by decide) rfl (r_keeps0 l g hN hB.2.1 mo hmo kmo as has kas pa hpa kpa x192 (by omega) (by omega) x208 (by omega) (by omega) xc (by omega) (by omega) z201 ex208 z202 z204 z205 g206 g207) q_cX12_161 q_dX12_keeps (by decide) rfl rfl hl.1 rfl (Nat.le_of_ble_eq_true rfl) dX12_watch_41 (fun H locs f210 h212 hF hB => ?_)
            obtain ⟨g213, g214⟩ := h212
            have z215 : q_is (q_z f210 sr 3) xt := Eq.trans (hF.z hsr (by rw [ksr]; rfl)) z197
            have z216 : q_is (q_z f210 sr 4) xm := Eq.trans (hF.z hsr (by rw [ksr]; rfl)) z198
            have z217 : q_is (q_z f210 sr 0) xc := Eq.trans (hF.z hsr (by rw [ksr]; rfl)) z199
            have z218 : q_is (q_z f210 mo 0) 0 := Eq.trans (hF.z hmo (by rw [kmo]; rfl)) z200
            have z219 : q_is (q_z f210 as 2) x192 := Eq.trans (hF.z has (by rw [kas]; rfl)) z201
            have z220 : q_is (q_z f210 as 0) xc := Eq.trans (hF.z has (by rw [kas]; rfl)) z202
            have z221 : q_ir (q_r f210 mo 13) sr := Eq.trans (hF.r hmo (by rw [kmo]; rfl)) z203
            have z222 : q_ir (q_r f210 mo 15) as := Eq.trans (hF.r hmo (by rw [kmo]; rfl)) z204
            have z223 : q_ir (q_r f210 mo 17) pa := Eq.trans (hF.r hmo (by rw [kmo]; rfl)) z205
            have g224 : q_gr f210 sr := q_gr_fr g196 (fun i9 _ => hF.z hsr (by rw [ksr]; rfl))
            refine q_iconst cx dX12_watch_44 ?_
            refine q_zret cx hr hlk hB dX12_watch_45 (by decide) (by decide) ?_
            exact ⟨(by decide), (by decide), (q_isl z215 (by omega)), (q_isu z215 (by omega)), (q_isl z216 (by omega)), (q_isu z216 (by omega)), z217, g224, g213, g214⟩
          · refine q_cVv (As := []) (rest := []) cx hB (fun _ h => h) hN hmo kmo (by decide) rfl (r_keeps6 l g hN hB.2.1 mo hmo kmo as has kas pa hpa kpa x192 (by omega) (by omega) xc (by omega) (by omega) z201 (Eq.trans ex208 (by omega)) z202 z204 z205 g206 g207) q_cX12_161 q_dX12_keeps (by decide) rfl rfl hl.1 rfl (Nat.le_of_ble_eq_true rfl) dX12_watch_41 (fun H locs f225 h227 hF hB => ?_)
            obtain ⟨g228, g229⟩ := h227
            have z230 : q_is (q_z f225 sr 3) xt := Eq.trans (hF.z hsr (by rw [ksr]; rfl)) z197
            have z231 : q_is (q_z f225 sr 4) xm := Eq.trans (hF.z hsr (by rw [ksr]; rfl)) z198
            have z232 : q_is (q_z f225 sr 0) xc := Eq.trans (hF.z hsr (by rw [ksr]; rfl)) z199
            have z233 : q_is (q_z f225 mo 0) 0 := Eq.trans (hF.z hmo (by rw [kmo]; rfl)) z200
            have z234 : q_is (q_z f225 as 2) x192 := Eq.trans (hF.z has (by rw [kas]; rfl)) z201
            have z235 : q_is (q_z f225 as 0) xc := Eq.trans (hF.z has (by rw [kas]; rfl)) z202
            have z236 : q_ir (q_r f225 mo 13) sr := Eq.trans (hF.r hmo (by rw [kmo]; rfl)) z203
            have z237 : q_ir (q_r f225 mo 15) as := Eq.trans (hF.r hmo (by rw [kmo]; rfl)) z204
            have z238 : q_ir (q_r f225 mo 17) pa := Eq.trans (hF.r hmo (by rw [kmo]; rfl)) z205
            have g239 : q_gr f225 sr := q_gr_fr g196 (fun i9 _ => hF.z hsr (by rw [ksr]; rfl))
            refine q_iconst cx dX12_watch_44 ?_
            refine q_zret cx hr hlk hB dX12_watch_45 (by decide) (by decide) ?_
            exact ⟨(by decide), (by decide), (q_isl z230 (by omega)), (q_isu z230 (by omega)), (q_isl z231 (by omega)), (q_isu z231 (by omega)), z232, g239, g228, g229⟩
        · refine q_iconst cx dX12_watch_27 ?_
          refine q_zret cx hr hlk hB dX12_watch_28 (by decide) (by decide) ?_
          exact ⟨(by decide), (by decide), (q_isl z163 (by omega)), (q_isu z163 (by omega)), (q_isl z164 (by omega)), (q_isu z164 (by omega)), z165, g169, g170, g171⟩
    · obtain ⟨rfl, qy153⟩ := h156
      subst qy153
      refine q_cVi (As := [.int (q_i 1), .int (q_i 0)]) (rest := []) cx hB (fun _ h => h) hN hmo kmo (by decide) rfl (r_goesBoth1 l g hN hB.2.1 mo hmo kmo 1 (by decide) (by decide) 0 (by decide) (by decide)) q_cX12_358 q_dX12_goesBoth (by decide) rfl rfl hl.1 rfl (Nat.le_of_ble_eq_true rfl) dX12_watch_11 (fun y241 H locs f240 ry241 h242 hF hB => ?_)
      obtain ⟨qy241, z243⟩ := h242
      have z244 : q_is (q_z f240 sr 3) xt := Eq.trans (hF.z hsr (by rw [ksr]; rfl)) hf0
      have z245 : q_is (q_z f240 sr 4) xm := Eq.trans (hF.z hsr (by rw [ksr]; rfl)) hf1
      have z246 : q_is (q_z f240 sr 0) xc := Eq.trans (hF.z hsr (by rw [ksr]; rfl)) hf2
      have z247 : q_ir (q_r f240 mo 13) sr := Eq.trans (hF.r hmo (by rw [kmo]; rfl)) hr0
      have z248 : q_ir (q_r f240 mo 15) as := Eq.trans (hF.r hmo (by rw [kmo]; rfl)) hr1
      have z249 : q_ir (q_r f240 mo 17) pa := Eq.trans (hF.r hmo (by rw [kmo]; rfl)) hr2
      have g250 : q_gr f240 sr := q_gr_fr hgr (fun i9 _ => hF.z hsr (by rw [ksr]; rfl))
      have g251 : q_pk f240 mo pa := q_pk_tr hpk (hF.z hmo (by rw [kmo]; rfl)) (fun i9 => hF.z hpa (by rw [kpa]; rfl))
      have g252 : q_pc f240 mo pa xc := q_pc_tr hpc (hF.z hmo (by rw [kmo]; rfl)) (fun i9 => hF.z hpa (by rw [kpa]; rfl))
      subst qy241
      refine q_ifeq (tgt := 27) cx ⟨by decide, by decide⟩ dX12_watch_14 (by decide) (fun c253 => ?_) (fun c253 => ?_)
      · refine q_iconst cx dX12_watch_27 ?_
        refine q_zret cx hr hlk hB dX12_watch_28 (by decide) (by decide) ?_
        exact ⟨(by decide), (by decide), (q_isl z244 (by omega)), (q_isu z244 (by omega)), (q_isl z245 (by omega)), (q_isu z245 (by omega)), z246, g250, g251, g252⟩
      · exact absurd c253 (by omega)
  · obtain ⟨rfl, qy146⟩ := h149
    subst qy146
    refine q_ald_n cx dX12_watch_6 rfl (lv_at hl 0 rfl) ?_
    refine q_ild_n cx dX12_watch_7 rfl (lv_at hl 2 rfl) ?_
    refine q_cVi (As := [.int (q_i b0)]) (rest := [.int (q_i 0), .ref mo]) cx hB (fun _ h => h) hN hmo kmo (by decide) rfl (r_isDay l g hN hB.2.1 mo hmo kmo b0 (by omega) (by omega) sr hsr ksr hr0 hgr) q_cX12_388 q_dX12_isDay (by decide) rfl rfl hl.1 rfl (Nat.le_of_ble_eq_true rfl) dX12_watch_8 (fun y255 H locs f254 ry255 h256 hF hB => ?_)
    rcases h256 with h257 | h258
    · obtain ⟨rfl, qy255, t259, t260⟩ := h257
      subst qy255
      refine q_cVi (As := [.int (q_i 0), .int (q_i 1)]) (rest := []) cx hB (fun _ h => h) hN hmo kmo (by decide) rfl (r_goesBoth0 l g hN hB.2.1 mo hmo kmo 0 (by decide) (by decide) 1 (by decide) (by decide)) q_cX12_358 q_dX12_goesBoth (by decide) rfl rfl hl.1 rfl (Nat.le_of_ble_eq_true rfl) dX12_watch_11 (fun y262 H locs f261 ry262 h263 hF hB => ?_)
      obtain ⟨qy262, z264⟩ := h263
      have z265 : q_is (q_z f261 sr 3) xt := Eq.trans (hF.z hsr (by rw [ksr]; rfl)) hf0
      have z266 : q_is (q_z f261 sr 4) xm := Eq.trans (hF.z hsr (by rw [ksr]; rfl)) hf1
      have z267 : q_is (q_z f261 sr 0) xc := Eq.trans (hF.z hsr (by rw [ksr]; rfl)) hf2
      have z268 : q_ir (q_r f261 mo 13) sr := Eq.trans (hF.r hmo (by rw [kmo]; rfl)) hr0
      have z269 : q_ir (q_r f261 mo 15) as := Eq.trans (hF.r hmo (by rw [kmo]; rfl)) hr1
      have z270 : q_ir (q_r f261 mo 17) pa := Eq.trans (hF.r hmo (by rw [kmo]; rfl)) hr2
      have g271 : q_gr f261 sr := q_gr_fr hgr (fun i9 _ => hF.z hsr (by rw [ksr]; rfl))
      have g272 : q_pk f261 mo pa := q_pk_tr hpk (hF.z hmo (by rw [kmo]; rfl)) (fun i9 => hF.z hpa (by rw [kpa]; rfl))
      have g273 : q_pc f261 mo pa xc := q_pc_tr hpc (hF.z hmo (by rw [kmo]; rfl)) (fun i9 => hF.z hpa (by rw [kpa]; rfl))
      subst qy262
      refine q_ifeq (tgt := 27) cx ⟨by decide, by decide⟩ dX12_watch_14 (by decide) (fun c274 => ?_) (fun c274 => ?_)
      · refine q_iconst cx dX12_watch_27 ?_
        refine q_zret cx hr hlk hB dX12_watch_28 (by decide) (by decide) ?_
        exact ⟨(by decide), (by decide), (q_isl z265 (by omega)), (q_isu z265 (by omega)), (q_isl z266 (by omega)), (q_isu z266 (by omega)), z267, g271, g272, g273⟩
      · exact absurd c274 (by omega)
    · obtain ⟨rfl, qy255⟩ := h258
      subst qy255
      refine q_cVi (As := [.int (q_i 0), .int (q_i 0)]) (rest := []) cx hB (fun _ h => h) hN hmo kmo (by decide) rfl (r_goesBoth0 l g hN hB.2.1 mo hmo kmo 0 (by decide) (by decide) 0 (by decide) (by decide)) q_cX12_358 q_dX12_goesBoth (by decide) rfl rfl hl.1 rfl (Nat.le_of_ble_eq_true rfl) dX12_watch_11 (fun y276 H locs f275 ry276 h277 hF hB => ?_)
      obtain ⟨qy276, z278⟩ := h277
      have z279 : q_is (q_z f275 sr 3) xt := Eq.trans (hF.z hsr (by rw [ksr]; rfl)) hf0
      have z280 : q_is (q_z f275 sr 4) xm := Eq.trans (hF.z hsr (by rw [ksr]; rfl)) hf1
      have z281 : q_is (q_z f275 sr 0) xc := Eq.trans (hF.z hsr (by rw [ksr]; rfl)) hf2
      have z282 : q_ir (q_r f275 mo 13) sr := Eq.trans (hF.r hmo (by rw [kmo]; rfl)) hr0
      have z283 : q_ir (q_r f275 mo 15) as := Eq.trans (hF.r hmo (by rw [kmo]; rfl)) hr1
      have z284 : q_ir (q_r f275 mo 17) pa := Eq.trans (hF.r hmo (by rw [kmo]; rfl)) hr2
      have g285 : q_gr f275 sr := q_gr_fr hgr (fun i9 _ => hF.z hsr (by rw [ksr]; rfl))
      have g286 : q_pk f275 mo pa := q_pk_tr hpk (hF.z hmo (by rw [kmo]; rfl)) (fun i9 => hF.z hpa (by rw [kpa]; rfl))
      have g287 : q_pc f275 mo pa xc := q_pc_tr hpc (hF.z hmo (by rw [kmo]; rfl)) (fun i9 => hF.z hpa (by rw [kpa]; rfl))
      subst qy276
      refine q_ifeq (tgt := 27) cx ⟨by decide, by decide⟩ dX12_watch_14 (by decide) (fun c288 => ?_) (fun c288 => ?_)
      · refine q_iconst cx dX12_watch_27 ?_
        refine q_zret cx hr hlk hB dX12_watch_28 (by decide) (by decide) ?_
        exact ⟨(by decide), (by decide), (q_isl z279 (by omega)), (q_isu z279 (by omega)), (q_isl z280 (by omega)), (q_isu z280 (by omega)), z281, g285, g286, g287⟩
      · exact absurd c288 (by omega)
set_option maxHeartbeats 4000000 in
set_option maxRecDepth 100000 in
theorem r_setMiss (l : Launch) (g : q_G) {K : Nat → Nat} {L : List Nat} (hN : L.Nodup) {f : Nat → va_E} (hT : q_Ty g K L f) (mo : Nat) (hmo : mo ∈ L) (kmo : K mo = 12) (a0 : Int) (la0 : (-2147483648) ≤ a0) (ua0 : a0 ≤ 2147483647) (sr : Nat) (hsr : sr ∈ L) (ksr : K sr = 151) (as : Nat) (has : as ∈ L) (kas : K as = 153) (pa : Nat) (hpa : pa ∈ L) (kpa : K pa = 155) (xt : Int) (lxt : 0 ≤ xt) (uxt : xt ≤ 9999) (xm : Int) (lxm : 0 ≤ xm) (uxm : xm ≤ 60) (xc : Int) (lxc : 0 ≤ xc) (uxc : xc ≤ 10) (hf0 : q_is (q_z f sr 3) xt) (hf1 : q_is (q_z f sr 4) xm) (hf2 : q_is (q_z f sr 0) xc) (hr0 : q_ir (q_r f mo 13) sr) (hr1 : q_ir (q_r f mo 15) as) (hr2 : q_ir (q_r f mo 17) pa) (hgr : q_gr f sr) (hpk : q_pk f mo pa) (hpc : q_pc f mo pa xc) : q_Ct l g K L yX12_setMiss cX12_setMiss 2 (some .int) 3 66 [.ref mo, .int (q_i a0)] f [(12, 0, 0), (12, 21, 21), (151, 8, 8), (153, 0, 657), (155, 0, 3947)] (q_Pi (fun (z : Int) (f1 : Nat → va_E) => 0 ≤ z ∧ z ≤ 9 ∧ 0 ≤ q_z f1 sr 3 ∧ q_z f1 sr 3 ≤ 9999 ∧ 0 ≤ q_z f1 sr 4 ∧ q_z f1 sr 4 ≤ 60 ∧ q_is (q_z f1 sr 0) xc ∧ q_gr f1 sr ∧ (q_pk f1 mo pa) ∧ (q_pc f1 mo pa xc))) := by
  refine q_ofb (by decide +kernel) hN hT (Nat.le_of_ble_eq_true rfl) ?_
  intro p e s m below meth c ls cx hr hlk hB hl
  have hl : lv_has ls 2 [(0, .ref mo), (1, .int (q_i a0))] := hl
  obtain ⟨H, hH⟩ : ∃ H : Heap, H = s.heap := ⟨_, rfl⟩
  obtain ⟨locs, hlocs⟩ : ∃ z : List Loc, z = [] := ⟨_, rfl⟩
  rw [← hH, ← hlocs] at hB
  rw [← hH, ← hlocs]
  refine q_ald_n cx dX12_setMiss_0 rfl (lv_at hl 0 rfl) ?_
  refine q_ild_n cx dX12_setMiss_1 rfl (lv_at hl 1 rfl) ?_
  refine q_i2l cx ⟨by omega, by omega⟩ dX12_setMiss_2 ?_
  refine q_lconst (z := 1) cx (by decide) dX12_setMiss_3 ?_
  refine lv_ldc2 (v := q_l 9) cx.1 cx.2.1 cx.2.2.2.1 (cx.2.2.2.2 _ q_h2207) dX12_setMiss_4 ?_
  refine q_cSi (As := [.long (q_l a0), .long (q_l 1), .long (q_l 9)]) (rest := [.ref mo]) cx hB (fun _ h => h) hN (r_isIn l g hN hB.2.1 a0 (by omega) (by omega) 1 (by decide) (by decide) 9 (by decide) (by decide)) q_cX12_93 q_dX12_isIn (by decide) rfl rfl hl.1 rfl (Nat.le_of_ble_eq_true rfl) dX12_setMiss_7 (fun y84 H locs f83 ry84 h85 hF hB => ?_)
  rcases h85 with h86 | h87
  · obtain ⟨rfl, qy84, t88, t89⟩ := h86
    subst qy84
    refine q_cVi (As := [.int (q_i 1)]) (rest := []) cx hB (fun _ h => h) hN hmo kmo (by decide) rfl (r_goes1 l g hN hB.2.1 mo hmo kmo 1 (by decide) (by decide)) q_cX12_85 q_dX12_goes (by decide) rfl rfl hl.1 rfl (Nat.le_of_ble_eq_true rfl) dX12_setMiss_10 (fun y91 H locs f90 ry91 h92 hF hB => ?_)
    obtain ⟨qy91, z93⟩ := h92
    have z94 : q_is (q_z f90 sr 3) xt := Eq.trans (hF.z hsr (by rw [ksr]; rfl)) hf0
    have z95 : q_is (q_z f90 sr 4) xm := Eq.trans (hF.z hsr (by rw [ksr]; rfl)) hf1
    have z96 : q_is (q_z f90 sr 0) xc := Eq.trans (hF.z hsr (by rw [ksr]; rfl)) hf2
    have z97 : q_ir (q_r f90 mo 13) sr := Eq.trans (hF.r hmo (by rw [kmo]; rfl)) hr0
    have z98 : q_ir (q_r f90 mo 15) as := Eq.trans (hF.r hmo (by rw [kmo]; rfl)) hr1
    have z99 : q_ir (q_r f90 mo 17) pa := Eq.trans (hF.r hmo (by rw [kmo]; rfl)) hr2
    have g100 : q_gr f90 sr := q_gr_fr hgr (fun i9 _ => hF.z hsr (by rw [ksr]; rfl))
    have g101 : q_pk f90 mo pa := q_pk_tr hpk (hF.z hmo (by rw [kmo]; rfl)) (fun i9 => hF.z hpa (by rw [kpa]; rfl))
    have g102 : q_pc f90 mo pa xc := q_pc_tr hpc (hF.z hmo (by rw [kmo]; rfl)) (fun i9 => hF.z hpa (by rw [kpa]; rfl))
    subst qy91
    refine q_ifne (tgt := 18) cx ⟨by decide, by decide⟩ dX12_setMiss_13 (by decide) (fun c103 => ?_) (fun c103 => ?_)
    · refine q_ald_n cx dX12_setMiss_18 rfl (lv_at hl 0 rfl) ?_
      refine q_cVv (As := []) (rest := []) cx hB (fun _ h => h) hN hmo kmo (by decide) rfl (r_laysAside l g hN hB.2.1 mo hmo kmo sr hsr ksr as has kas xt (by omega) (by omega) xm (by omega) (by omega) xc (by omega) (by omega) z94 z95 z96 z97 z98 g100) q_cX12_247 q_dX12_laysAside (by decide) rfl rfl hl.1 rfl (Nat.le_of_ble_eq_true rfl) dX12_setMiss_19 (fun H locs f104 h106 hF hB => ?_)
      obtain ⟨lz107, uz107, z108⟩ := h106
      have z109 : q_is (q_z f104 sr 3) xt := Eq.trans (hF.z hsr (by rw [ksr]; rfl)) z94
      have z110 : q_is (q_z f104 sr 4) xm := Eq.trans (hF.z hsr (by rw [ksr]; rfl)) z95
      have z111 : q_is (q_z f104 sr 0) xc := Eq.trans (hF.z hsr (by rw [ksr]; rfl)) z96
      have z112 : q_is (q_z f104 mo 0) 0 := Eq.trans (hF.z hmo (by rw [kmo]; rfl)) z93
      have z113 : q_ir (q_r f104 mo 13) sr := Eq.trans (hF.r hmo (by rw [kmo]; rfl)) z97
      have z114 : q_ir (q_r f104 mo 15) as := Eq.trans (hF.r hmo (by rw [kmo]; rfl)) z98
      have z115 : q_ir (q_r f104 mo 17) pa := Eq.trans (hF.r hmo (by rw [kmo]; rfl)) z99
      have g116 : q_gr f104 sr := q_gr_fr g100 (fun i9 _ => hF.z hsr (by rw [ksr]; rfl))
      have g117 : q_pk f104 mo pa := q_pk_tr g101 (hF.z hmo (by rw [kmo]; rfl)) (fun i9 => hF.z hpa (by rw [kpa]; rfl))
      have g118 : q_pc f104 mo pa xc := q_pc_tr g102 (hF.z hmo (by rw [kmo]; rfl)) (fun i9 => hF.z hpa (by rw [kpa]; rfl))
      obtain ⟨x119, ex119⟩ : ∃ zz, q_is (q_z f104 as 2) zz := ⟨_, q_isr _⟩
      obtain ⟨lx119, ux119⟩ := q_isb ex119 ⟨lz107, uz107⟩
      refine q_ald_n cx dX12_setMiss_22 rfl (lv_at hl 0 rfl) ?_
      refine q_ald_n cx dX12_setMiss_23 rfl (lv_at hl 0 rfl) ?_
      refine q_bipush cx dX12_setMiss_24 rfl ?_
      refine q_ild_n cx dX12_setMiss_26 rfl (lv_at hl 1 rfl) ?_
      refine q_cVi (As := [.int (q_i 8), .int (q_i a0)]) (rest := [.ref mo]) cx hB (fun _ h => h) hN hmo kmo (by decide) rfl (r_swapsCell8 l g hN hB.2.1 mo hmo kmo 8 (by decide) (by decide) a0 (by omega) (by omega) sr hsr ksr z113 g116) q_cX12_462 q_dX12_swapsCell (by decide) rfl rfl hl.1 rfl (Nat.le_of_ble_eq_true rfl) dX12_setMiss_27 (fun y121 H locs f120 ry121 h122 hF hB => ?_)
      obtain ⟨ly121, uy121, g123⟩ := h122
      have z124 : q_is (q_z f120 sr 3) xt := Eq.trans (hF.z hsr (by rw [ksr]; rfl)) z109
      have z125 : q_is (q_z f120 sr 4) xm := Eq.trans (hF.z hsr (by rw [ksr]; rfl)) z110
      have z126 : q_is (q_z f120 sr 0) xc := Eq.trans (hF.z hsr (by rw [ksr]; rfl)) z111
      have z127 : q_is (q_z f120 mo 0) 0 := Eq.trans (hF.z hmo (by rw [kmo]; rfl)) z112
      have z128 : q_is (q_z f120 as 2) x119 := Eq.trans (hF.z has (by rw [kas]; rfl)) ex119
      have z129 : q_is (q_z f120 as 0) xc := Eq.trans (hF.z has (by rw [kas]; rfl)) z108
      have z130 : q_ir (q_r f120 mo 13) sr := Eq.trans (hF.r hmo (by rw [kmo]; rfl)) z113
      have z131 : q_ir (q_r f120 mo 15) as := Eq.trans (hF.r hmo (by rw [kmo]; rfl)) z114
      have z132 : q_ir (q_r f120 mo 17) pa := Eq.trans (hF.r hmo (by rw [kmo]; rfl)) z115
      have g133 : q_pk f120 mo pa := q_pk_tr g117 (hF.z hmo (by rw [kmo]; rfl)) (fun i9 => hF.z hpa (by rw [kpa]; rfl))
      have g134 : q_pc f120 mo pa xc := q_pc_tr g118 (hF.z hmo (by rw [kmo]; rfl)) (fun i9 => hF.z hpa (by rw [kpa]; rfl))
      refine q_cVi (As := [.int (q_i y121)]) (rest := []) cx hB (fun _ h => h) hN hmo kmo (by decide) rfl (r_kept l g hN hB.2.1 mo hmo kmo y121 (by omega) (by omega) as has kas pa hpa kpa x119 (by omega) (by omega) xc (by omega) (by omega) z128 z129 z131 z132 g133 g134) q_cX12_449 q_dX12_kept (by decide) rfl rfl hl.1 rfl (Nat.le_of_ble_eq_true rfl) dX12_setMiss_30 (fun y136 H locs f135 ry136 h137 hF hB => ?_)
      obtain ⟨qy136, g138, g139⟩ := h137
      have z140 : q_is (q_z f135 sr 3) xt := Eq.trans (hF.z hsr (by rw [ksr]; rfl)) z124
      have z141 : q_is (q_z f135 sr 4) xm := Eq.trans (hF.z hsr (by rw [ksr]; rfl)) z125
      have z142 : q_is (q_z f135 sr 0) xc := Eq.trans (hF.z hsr (by rw [ksr]; rfl)) z126
      have z143 : q_is (q_z f135 mo 0) 0 := Eq.trans (hF.z hmo (by rw [kmo]; rfl)) z127
      have z144 : q_is (q_z f135 as 2) x119 := Eq.trans (hF.z has (by rw [kas]; rfl)) z128
      have z145 : q_is (q_z f135 as 0) xc := Eq.trans (hF.z has (by rw [kas]; rfl)) z129
      have z146 : q_ir (q_r f135 mo 13) sr := Eq.trans (hF.r hmo (by rw [kmo]; rfl)) z130
      have z147 : q_ir (q_r f135 mo 15) as := Eq.trans (hF.r hmo (by rw [kmo]; rfl)) z131
      have z148 : q_ir (q_r f135 mo 17) pa := Eq.trans (hF.r hmo (by rw [kmo]; rfl)) z132
      have g149 : q_gr f135 sr := q_gr_fr g123 (fun i9 _ => hF.z hsr (by rw [ksr]; rfl))
      refine q_iret cx hr hlk hB dX12_setMiss_33 ⟨by omega, by omega⟩ ?_
      exact ⟨(by omega), (by omega), (q_isl z140 (by omega)), (q_isu z140 (by omega)), (q_isl z141 (by omega)), (q_isu z141 (by omega)), z142, g149, g138, g139⟩
    · exact absurd c103 (by omega)
  · obtain ⟨rfl, qy84, t150⟩ := h87
    subst qy84
    refine q_cVi (As := [.int (q_i 0)]) (rest := []) cx hB (fun _ h => h) hN hmo kmo (by decide) rfl (r_goes0 l g hN hB.2.1 mo hmo kmo 0 (by decide) (by decide)) q_cX12_85 q_dX12_goes (by decide) rfl rfl hl.1 rfl (Nat.le_of_ble_eq_true rfl) dX12_setMiss_10 (fun y152 H locs f151 ry152 h153 hF hB => ?_)
    obtain ⟨qy152, z154⟩ := h153
    have z155 : q_is (q_z f151 sr 3) xt := Eq.trans (hF.z hsr (by rw [ksr]; rfl)) hf0
    have z156 : q_is (q_z f151 sr 4) xm := Eq.trans (hF.z hsr (by rw [ksr]; rfl)) hf1
    have z157 : q_is (q_z f151 sr 0) xc := Eq.trans (hF.z hsr (by rw [ksr]; rfl)) hf2
    have z158 : q_ir (q_r f151 mo 13) sr := Eq.trans (hF.r hmo (by rw [kmo]; rfl)) hr0
    have z159 : q_ir (q_r f151 mo 15) as := Eq.trans (hF.r hmo (by rw [kmo]; rfl)) hr1
    have z160 : q_ir (q_r f151 mo 17) pa := Eq.trans (hF.r hmo (by rw [kmo]; rfl)) hr2
    have g161 : q_gr f151 sr := q_gr_fr hgr (fun i9 _ => hF.z hsr (by rw [ksr]; rfl))
    have g162 : q_pk f151 mo pa := q_pk_tr hpk (hF.z hmo (by rw [kmo]; rfl)) (fun i9 => hF.z hpa (by rw [kpa]; rfl))
    have g163 : q_pc f151 mo pa xc := q_pc_tr hpc (hF.z hmo (by rw [kmo]; rfl)) (fun i9 => hF.z hpa (by rw [kpa]; rfl))
    subst qy152
    refine q_ifne (tgt := 18) cx ⟨by decide, by decide⟩ dX12_setMiss_13 (by decide) (fun c164 => ?_) (fun c164 => ?_)
    · exact absurd c164 (by omega)
    · refine q_iconst cx dX12_setMiss_16 ?_
      refine q_iret cx hr hlk hB dX12_setMiss_17 ⟨by decide, by decide⟩ ?_
      exact ⟨(by decide), (by decide), (q_isl z155 (by omega)), (q_isu z155 (by omega)), (q_isl z156 (by omega)), (q_isu z156 (by omega)), z157, g161, g162, g163⟩
