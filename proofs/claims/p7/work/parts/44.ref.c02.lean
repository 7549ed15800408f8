set_option maxHeartbeats 4000000 in
set_option maxRecDepth 100000 in
theorem r_energyIn (l : Launch) (g : q_G) {K : Nat → Nat} {L : List Nat} (hN : L.Nodup) {f : Nat → va_E} (hT : q_Ty g K L f) (mo : Nat) (hmo : mo ∈ L) (kmo : K mo = 12) (a0 : Int) (la0 : (-2147483648) ≤ a0) (ua0 : a0 ≤ 2147483647) (b0 : Int) (lb0 : (-2147483648) ≤ b0) (ub0 : b0 ≤ 2147483647) (sr : Nat) (hsr : sr ∈ L) (ksr : K sr = 151) (hp : Nat) (hhp : hp ∈ L) (khp : K hp = 159) (dy : Nat) (hdy : dy ∈ L) (kdy : K dy = 160) (aw : Nat) (haw : aw ∈ L) (kaw : K aw = 154) (xt : Int) (lxt : 0 ≤ xt) (uxt : xt ≤ 9999) (xm : Int) (lxm : 0 ≤ xm) (uxm : xm ≤ 60) (xc : Int) (lxc : 0 ≤ xc) (uxc : xc ≤ 10) (hf0 : q_is (q_z f sr 3) xt) (hf1 : q_is (q_z f sr 4) xm) (hf2 : q_is (q_z f sr 0) xc) (hr0 : q_ir (q_r f mo 13) sr) (hr1 : q_ir (q_r f mo 24) hp) (hr2 : q_ir (q_r f mo 25) dy) (hr3 : q_ir (q_r f mo 16) aw) (hgr : q_gr f sr) : q_Ct l g K L yX12_energyIn cX12_energyIn 4 (some .int) 10 228 [.ref mo, .int (q_i a0), .int (q_i b0)] f [(12, 0, 0), (12, 26, 28), (151, 0, 657), (154, 0, 657), (159, 0, 9), (160, 0, 9)] (q_Pi (fun (z : Int) (f1 : Nat → va_E) => (-198) ≤ z ∧ z ≤ 9999 ∧ 0 ≤ q_z f1 sr 3 ∧ q_z f1 sr 3 ≤ 9999 ∧ 0 ≤ q_z f1 sr 4 ∧ q_z f1 sr 4 ≤ 60 ∧ q_is (q_z f1 sr 0) xc ∧ q_gr f1 sr)) := by
  refine q_ofb (by decide +kernel) hN hT (Nat.le_of_ble_eq_true rfl) ?_
  intro p e s m below meth c ls cx hr hlk hB hl
  have hl : lv_has ls 4 [(0, .ref mo), (1, .int (q_i a0)), (2, .int (q_i b0))] := hl
  obtain ⟨H, hH⟩ : ∃ H : Heap, H = s.heap := ⟨_, rfl⟩
  obtain ⟨locs, hlocs⟩ : ∃ z : List Loc, z = [] := ⟨_, rfl⟩
  rw [← hH, ← hlocs] at hB
  rw [← hH, ← hlocs]
  refine q_ald_n cx dX12_energyIn_0 rfl (lv_at hl 0 rfl) ?_
  refine q_ald_n cx dX12_energyIn_1 rfl (lv_at hl 0 rfl) ?_
  refine q_ild_n cx dX12_energyIn_2 rfl (lv_at hl 1 rfl) ?_
  refine q_cVi (As := [.int (q_i a0)]) (rest := [.ref mo]) cx hB (fun _ h => h) hN hmo kmo (by decide) rfl (r_isNode l g hN hB.2.1 mo hmo kmo a0 (by omega) (by omega) sr hsr ksr hr0) q_cX12_355 q_dX12_isNode (by decide) rfl rfl hl.1 rfl (Nat.le_of_ble_eq_true rfl) dX12_energyIn_3 (fun y127 H locs f126 ry127 h128 hF hB => ?_)
  rcases h128 with h129 | h130
  · obtain ⟨rfl, qy127, t131, t132⟩ := h129
    subst qy127
    refine q_ild_n cx dX12_energyIn_6 rfl (lv_at hl 2 rfl) ?_
    refine q_i2l cx ⟨by omega, by omega⟩ dX12_energyIn_7 ?_
    refine q_lconst (z := 0) cx (by decide) dX12_energyIn_8 ?_
    refine lv_ldc2 (v := q_l 200) cx.1 cx.2.1 cx.2.2.2.1 (cx.2.2.2.2 _ q_h2115) dX12_energyIn_9 ?_
    refine q_cSi (As := [.long (q_l b0), .long (q_l 0), .long (q_l 200)]) (rest := [.int (q_i 1), .ref mo]) cx hB (fun _ h => h) hN (r_isIn l g hN hB.2.1 b0 (by omega) (by omega) 0 (by decide) (by decide) 200 (by decide) (by decide)) q_cX12_93 q_dX12_isIn (by decide) rfl rfl hl.1 rfl (Nat.le_of_ble_eq_true rfl) dX12_energyIn_12 (fun y134 H locs f133 ry134 h135 hF hB => ?_)
    rcases h135 with h136 | h137
    · obtain ⟨rfl, qy134, t138, t139⟩ := h136
      subst qy134
      refine q_cVi (As := [.int (q_i 1), .int (q_i 1)]) (rest := []) cx hB (fun _ h => h) hN hmo kmo (by decide) rfl (r_goesBoth2 l g hN hB.2.1 mo hmo kmo 1 (by decide) (by decide) 1 (by decide) (by decide)) q_cX12_358 q_dX12_goesBoth (by decide) rfl rfl hl.1 rfl (Nat.le_of_ble_eq_true rfl) dX12_energyIn_15 (fun y141 H locs f140 ry141 h142 hF hB => ?_)
      obtain ⟨qy141, z143⟩ := h142
      have z144 : q_is (q_z f140 sr 3) xt := Eq.trans (hF.z hsr (by rw [ksr]; rfl)) hf0
      have z145 : q_is (q_z f140 sr 4) xm := Eq.trans (hF.z hsr (by rw [ksr]; rfl)) hf1
      have z146 : q_is (q_z f140 sr 0) xc := Eq.trans (hF.z hsr (by rw [ksr]; rfl)) hf2
      have z147 : q_ir (q_r f140 mo 13) sr := Eq.trans (hF.r hmo (by rw [kmo]; rfl)) hr0
      have z148 : q_ir (q_r f140 mo 24) hp := Eq.trans (hF.r hmo (by rw [kmo]; rfl)) hr1
      have z149 : q_ir (q_r f140 mo 25) dy := Eq.trans (hF.r hmo (by rw [kmo]; rfl)) hr2
      have z150 : q_ir (q_r f140 mo 16) aw := Eq.trans (hF.r hmo (by rw [kmo]; rfl)) hr3
      have g151 : q_gr f140 sr := q_gr_fr hgr (fun i9 _ => hF.z hsr (by rw [ksr]; rfl))
      subst qy141
      refine q_ifne (tgt := 23) cx ⟨by decide, by decide⟩ dX12_energyIn_18 (by decide) (fun c152 => ?_) (fun c152 => ?_)
      · refine q_ald_n cx dX12_energyIn_23 rfl (lv_at hl 0 rfl) ?_
        refine q_cVv (As := []) (rest := []) cx hB (fun _ h => h) hN hmo kmo (by decide) rfl (r_leaves l g hN hB.2.1 mo hmo kmo sr hsr ksr aw haw kaw xt (by omega) (by omega) xm (by omega) (by omega) xc (by omega) (by omega) z144 z145 z146 z147 z150 g151) q_cX12_405 q_dX12_leaves (by decide) rfl rfl hl.1 rfl (Nat.le_of_ble_eq_true rfl) dX12_energyIn_24 (fun H locs f153 h155 hF hB => ?_)
        obtain ⟨lz156, uz156, z157⟩ := h155
        have z158 : q_is (q_z f153 sr 3) xt := Eq.trans (hF.z hsr (by rw [ksr]; rfl)) z144
        have z159 : q_is (q_z f153 sr 4) xm := Eq.trans (hF.z hsr (by rw [ksr]; rfl)) z145
        have z160 : q_is (q_z f153 sr 0) xc := Eq.trans (hF.z hsr (by rw [ksr]; rfl)) z146
        have z161 : q_is (q_z f153 mo 0) 0 := Eq.trans (hF.z hmo (by rw [kmo]; rfl)) z143
        have z162 : q_ir (q_r f153 mo 13) sr := Eq.trans (hF.r hmo (by rw [kmo]; rfl)) z147
        have z163 : q_ir (q_r f153 mo 24) hp := Eq.trans (hF.r hmo (by rw [kmo]; rfl)) z148
        have z164 : q_ir (q_r f153 mo 25) dy := Eq.trans (hF.r hmo (by rw [kmo]; rfl)) z149
        have z165 : q_ir (q_r f153 mo 16) aw := Eq.trans (hF.r hmo (by rw [kmo]; rfl)) z150
        have g166 : q_gr f153 sr := q_gr_fr g151 (fun i9 _ => hF.z hsr (by rw [ksr]; rfl))
        obtain ⟨x167, ex167⟩ : ∃ zz, q_is (q_z f153 aw 2) zz := ⟨_, q_isr _⟩
        obtain ⟨lx167, ux167⟩ := q_isb ex167 ⟨lz156, uz156⟩
        refine q_ald_n cx dX12_energyIn_27 rfl (lv_at hl 0 rfl) ?_
        refine q_ild_n cx dX12_energyIn_28 rfl (lv_at hl 2 rfl) ?_
        refine q_cVi (As := [.int (q_i b0)]) (rest := []) cx hB (fun _ h => h) hN hmo kmo (by decide) rfl (r_ticksOn l g hN hB.2.1 mo hmo kmo b0 (by omega) (by omega) sr hsr ksr hp hhp khp dy hdy kdy xt (by omega) (by omega) xm (by omega) (by omega) z158 z159 z162 z163 z164 g166) q_cX12_427 q_dX12_ticksOn (by decide) rfl rfl hl.1 rfl (Nat.le_of_ble_eq_true rfl) dX12_energyIn_29 (fun y169 H locs f168 ry169 h170 hF hB => ?_)
        obtain ⟨z171, z172, g173⟩ := h170
        have z174 : q_is (q_z f168 sr 4) xm := Eq.trans (hF.z hsr (by rw [ksr]; rfl)) z159
        have z175 : q_is (q_z f168 sr 0) xc := Eq.trans (hF.z hsr (by rw [ksr]; rfl)) z160
        have z176 : q_is (q_z f168 mo 0) 0 := Eq.trans (hF.z hmo (by rw [kmo]; rfl)) z161
        have z177 : q_is (q_z f168 aw 2) x167 := Eq.trans (hF.z haw (by rw [kaw]; rfl)) ex167
        have z178 : q_is (q_z f168 aw 0) xc := Eq.trans (hF.z haw (by rw [kaw]; rfl)) z157
        have z179 : q_ir (q_r f168 mo 13) sr := Eq.trans (hF.r hmo (by rw [kmo]; rfl)) z162
        have z180 : q_ir (q_r f168 mo 24) hp := Eq.trans (hF.r hmo (by rw [kmo]; rfl)) z163
        have z181 : q_ir (q_r f168 mo 25) dy := Eq.trans (hF.r hmo (by rw [kmo]; rfl)) z164
        have z182 : q_ir (q_r f168 mo 16) aw := Eq.trans (hF.r hmo (by rw [kmo]; rfl)) z165
        refine lv_istore_n (lv' := [(3, .int (q_i y169)), (0, .ref mo), (1, .int (q_i a0)), (2, .int (q_i b0))]) cx.1 cx.2.1 dX12_energyIn_32 rfl hl (by decide) rfl (fun ls hl => ?_)
        refine q_ald_n cx dX12_energyIn_33 rfl (lv_at hl 1 rfl) ?_
        refine q_ald_n cx dX12_energyIn_34 rfl (lv_at hl 1 rfl) ?_
        refine q_ild_n cx dX12_energyIn_35 rfl (lv_at hl 2 rfl) ?_
        refine q_iconst cx dX12_energyIn_36 ?_
        refine q_cVi (As := [.int (q_i a0), .int (q_i 2)]) (rest := [.ref mo]) cx hB (fun _ h => h) hN hmo kmo (by decide) rfl (r_ofNode2 l g hN hB.2.1 mo hmo kmo a0 (by omega) (by omega) 2 (by decide) (by decide) sr hsr ksr z179 g173) q_cX12_256 q_dX12_ofNode (by decide) rfl rfl hl.1 rfl (Nat.le_of_ble_eq_true rfl) dX12_energyIn_37 (fun y184 H locs f183 ry184 h185 hF hB => ?_)
        obtain ⟨rfl, ly184, uy184, t186⟩ := h185
        refine q_cVi (As := [.int (q_i y184)]) (rest := []) cx hB (fun _ h => h) hN hmo kmo (by decide) rfl (r_comesBack l g hN hB.2.1 mo hmo kmo y184 (by omega) (by omega) sr hsr ksr aw haw kaw x167 (by omega) (by omega) xc (by omega) (by omega) z177 z178 z179 z182) q_cX12_411 q_dX12_comesBack (by decide) rfl rfl hl.1 rfl (Nat.le_of_ble_eq_true rfl) dX12_energyIn_40 (fun y188 H locs f187 ry188 h189 hF hB => ?_)
        obtain ⟨qy188, lz190, uz190, lz191, uz191, z192, g193⟩ := h189
        have z194 : q_is (q_z f187 mo 0) 0 := Eq.trans (hF.z hmo (by rw [kmo]; rfl)) z176
        have z195 : q_is (q_z f187 aw 2) x167 := Eq.trans (hF.z haw (by rw [kaw]; rfl)) z177
        have z196 : q_is (q_z f187 aw 0) xc := Eq.trans (hF.z haw (by rw [kaw]; rfl)) z178
        have z197 : q_ir (q_r f187 mo 13) sr := Eq.trans (hF.r hmo (by rw [kmo]; rfl)) z179
        have z198 : q_ir (q_r f187 mo 24) hp := Eq.trans (hF.r hmo (by rw [kmo]; rfl)) z180
        have z199 : q_ir (q_r f187 mo 25) dy := Eq.trans (hF.r hmo (by rw [kmo]; rfl)) z181
        have z200 : q_ir (q_r f187 mo 16) aw := Eq.trans (hF.r hmo (by rw [kmo]; rfl)) z182
        obtain ⟨x201, ex201⟩ : ∃ zz, q_is (q_z f187 sr 3) zz := ⟨_, q_isr _⟩
        obtain ⟨lx201, ux201⟩ := q_isb ex201 ⟨lz190, uz190⟩
        obtain ⟨x202, ex202⟩ : ∃ zz, q_is (q_z f187 sr 4) zz := ⟨_, q_isr _⟩
        obtain ⟨lx202, ux202⟩ := q_isb ex202 ⟨lz191, uz191⟩
        refine q_iret cx hr hlk hB dX12_energyIn_43 ⟨by omega, by omega⟩ ?_
        exact ⟨(by omega), (by omega), (q_isl ex201 (by omega)), (q_isu ex201 (by omega)), (q_isl ex202 (by omega)), (q_isu ex202 (by omega)), z192, g193⟩
      · exact absurd c152 (by omega)
    · obtain ⟨rfl, qy134, t203⟩ := h137
      subst qy134
      refine q_cVi (As := [.int (q_i 1), .int (q_i 0)]) (rest := []) cx hB (fun _ h => h) hN hmo kmo (by decide) rfl (r_goesBoth1 l g hN hB.2.1 mo hmo kmo 1 (by decide) (by decide) 0 (by decide) (by decide)) q_cX12_358 q_dX12_goesBoth (by decide) rfl rfl hl.1 rfl (Nat.le_of_ble_eq_true rfl) dX12_energyIn_15 (fun y205 H locs f204 ry205 h206 hF hB => ?_)
      obtain ⟨qy205, z207⟩ := h206
      have z208 : q_is (q_z f204 sr 3) xt := Eq.trans (hF.z hsr (by rw [ksr]; rfl)) hf0
      have z209 : q_is (q_z f204 sr 4) xm := Eq.trans (hF.z hsr (by rw [ksr]; rfl)) hf1
      have z210 : q_is (q_z f204 sr 0) xc := Eq.trans (hF.z hsr (by rw [ksr]; rfl)) hf2
      have z211 : q_ir (q_r f204 mo 13) sr := Eq.trans (hF.r hmo (by rw [kmo]; rfl)) hr0
      have z212 : q_ir (q_r f204 mo 24) hp := Eq.trans (hF.r hmo (by rw [kmo]; rfl)) hr1
      have z213 : q_ir (q_r f204 mo 25) dy := Eq.trans (hF.r hmo (by rw [kmo]; rfl)) hr2
      have z214 : q_ir (q_r f204 mo 16) aw := Eq.trans (hF.r hmo (by rw [kmo]; rfl)) hr3
      have g215 : q_gr f204 sr := q_gr_fr hgr (fun i9 _ => hF.z hsr (by rw [ksr]; rfl))
      subst qy205
      refine q_ifne (tgt := 23) cx ⟨by decide, by decide⟩ dX12_energyIn_18 (by decide) (fun c216 => ?_) (fun c216 => ?_)
      · exact absurd c216 (by omega)
      · refine q_iconst cx dX12_energyIn_21 ?_
        refine q_iret cx hr hlk hB dX12_energyIn_22 ⟨by decide, by decide⟩ ?_
        exact ⟨(by decide), (by decide), (q_isl z208 (by omega)), (q_isu z208 (by omega)), (q_isl z209 (by omega)), (q_isu z209 (by omega)), z210, g215⟩
  · obtain ⟨rfl, qy127⟩ := h130
    subst qy127
    refine q_ild_n cx dX12_energyIn_6 rfl (lv_at hl 2 rfl) ?_
    refine q_i2l cx ⟨by omega, by omega⟩ dX12_energyIn_7 ?_
    refine q_lconst (z := 0) cx (by decide) dX12_energyIn_8 ?_
    refine lv_ldc2 (v := q_l 200) cx.1 cx.2.1 cx.2.2.2.1 (cx.2.2.2.2 _ q_h2115) dX12_energyIn_9 ?_
    refine q_cSi (As := [.long (q_l b0), .long (q_l 0), .long (q_l 200)]) (rest := [.int (q_i 0), .ref mo]) cx hB (fun _ h => h) hN (r_isIn l g hN hB.2.1 b0 (by omega) (by omega) 0 (by decide) (by decide) 200 (by decide) (by decide)) q_cX12_93 q_dX12_isIn (by decide) rfl rfl hl.1 rfl (Nat.le_of_ble_eq_true rfl) dX12_energyIn_12 (fun y218 H locs f217 ry218 h219 hF hB => ?_)
    rcases h219 with h220 | h221
    · obtain ⟨rfl, qy218, t222, t223⟩ := h220
      subst qy218
      refine q_cVi (As := [.int (q_i 0), .int (q_i 1)]) (rest := []) cx hB (fun _ h => h) hN hmo kmo (by decide) rfl (r_goesBoth0 l g hN hB.2.1 mo hmo kmo 0 (by decide) (by decide) 1 (by decide) (by decide)) q_cX12_358 q_dX12_goesBoth (by decide) rfl rfl hl.1 rfl (Nat.le_of_ble_eq_true rfl) dX12_energyIn_15 (fun y225 H locs f224 ry225 h226 hF hB => ?_)
      obtain ⟨qy225, z227⟩ := h226
      have z228 : q_is (q_z f224 sr 3) xt := Eq.trans (hF.z hsr (by rw [ksr]; rfl)) hf0
      have z229 : q_is (q_z f224 sr 4) xm := Eq.trans (hF.z hsr (by rw [ksr]; rfl)) hf1
      have z230 : q_is (q_z f224 sr 0) xc := Eq.trans (hF.z hsr (by rw [ksr]; rfl)) hf2
      have z231 : q_ir (q_r f224 mo 13) sr := Eq.trans (hF.r hmo (by rw [kmo]; rfl)) hr0
      have z232 : q_ir (q_r f224 mo 24) hp := Eq.trans (hF.r hmo (by rw [kmo]; rfl)) hr1
      have z233 : q_ir (q_r f224 mo 25) dy := Eq.trans (hF.r hmo (by rw [kmo]; rfl)) hr2
      have z234 : q_ir (q_r f224 mo 16) aw := Eq.trans (hF.r hmo (by rw [kmo]; rfl)) hr3
      have g235 : q_gr f224 sr := q_gr_fr hgr (fun i9 _ => hF.z hsr (by rw [ksr]; rfl))
      subst qy225
      refine q_ifne (tgt := 23) cx ⟨by decide, by decide⟩ dX12_energyIn_18 (by decide) (fun c236 => ?_) (fun c236 => ?_)
      · exact absurd c236 (by omega)
      · refine q_iconst cx dX12_energyIn_21 ?_
        refine q_iret cx hr hlk hB dX12_energyIn_22 ⟨by decide, by decide⟩ ?_
        exact ⟨(by decide), (by decide), (q_isl z228 (by omega)), (q_isu z228 (by omega)), (q_isl z229 (by omega)), (q_isu z229 (by omega)), z230, g235⟩
    · obtain ⟨rfl, qy218, t237⟩ := h221
      subst qy218
      refine q_cVi (As := [.int (q_i 0), .int (q_i 0)]) (rest := []) cx hB (fun _ h => h) hN hmo kmo (by decide) rfl (r_goesBoth0 l g hN hB.2.1 mo hmo kmo 0 (by decide) (by decide) 0 (by decide) (by decide)) q_cX12_358 q_dX12_goesBoth (by decide) rfl rfl hl.1 rfl (Nat.le_of_ble_eq_true rfl) dX12_energyIn_15 (fun y239 H locs f238 ry239 h240 hF hB => ?_)
      obtain ⟨qy239, z241⟩ := h240
      have z242 : q_is (q_z f238 sr 3) xt := Eq.trans (hF.z hsr (by rw [ksr]; rfl)) hf0
      have z243 : q_is (q_z f238 sr 4) xm := Eq.trans (hF.z hsr (by rw [ksr]; rfl)) hf1
      have z244 : q_is (q_z f238 sr 0) xc := Eq.trans (hF.z hsr (by rw [ksr]; rfl)) hf2
      have z245 : q_ir (q_r f238 mo 13) sr := Eq.trans (hF.r hmo (by rw [kmo]; rfl)) hr0
      have z246 : q_ir (q_r f238 mo 24) hp := Eq.trans (hF.r hmo (by rw [kmo]; rfl)) hr1
      have z247 : q_ir (q_r f238 mo 25) dy := Eq.trans (hF.r hmo (by rw [kmo]; rfl)) hr2
      have z248 : q_ir (q_r f238 mo 16) aw := Eq.trans (hF.r hmo (by rw [kmo]; rfl)) hr3
      have g249 : q_gr f238 sr := q_gr_fr hgr (fun i9 _ => hF.z hsr (by rw [ksr]; rfl))
      subst qy239
      refine q_ifne (tgt := 23) cx ⟨by decide, by decide⟩ dX12_energyIn_18 (by decide) (fun c250 => ?_) (fun c250 => ?_)
      · exact absurd c250 (by omega)
      · refine q_iconst cx dX12_energyIn_21 ?_
        refine q_iret cx hr hlk hB dX12_energyIn_22 ⟨by decide, by decide⟩ ?_
        exact ⟨(by decide), (by decide), (q_isl z242 (by omega)), (q_isu z242 (by omega)), (q_isl z243 (by omega)), (q_isu z243 (by omega)), z244, g249⟩
set_option maxHeartbeats 4000000 in
set_option maxRecDepth 100000 in
theorem r_takesIn (l : Launch) (g : q_G) {K : Nat → Nat} {L : List Nat} (hN : L.Nodup) {f : Nat → va_E} (hT : q_Ty g K L f) (mo : Nat) (hmo : mo ∈ L) (kmo : K mo = 12) (sr : Nat) (hsr : sr ∈ L) (ksr : K sr = 151) (hp : Nat) (hhp : hp ∈ L) (khp : K hp = 159) (dy : Nat) (hdy : dy ∈ L) (kdy : K dy = 160) (aw : Nat) (haw : aw ∈ L) (kaw : K aw = 154) (xt : Int) (lxt : 0 ≤ xt) (uxt : xt ≤ 9999) (xm : Int) (lxm : 0 ≤ xm) (uxm : xm ≤ 60) (xc : Int) (lxc : 0 ≤ xc) (uxc : xc ≤ 10) (hf0 : q_is (q_z f sr 3) xt) (hf1 : q_is (q_z f sr 4) xm) (hf2 : q_is (q_z f sr 0) xc) (hr0 : q_ir (q_r f mo 13) sr) (hr1 : q_ir (q_r f mo 24) hp) (hr2 : q_ir (q_r f mo 25) dy) (hr3 : q_ir (q_r f mo 16) aw) (hgr : q_gr f sr) : q_Ct l g K L yX12_takesIn cX12_takesIn 4 (some .int) 9 205 [.ref mo] f [(12, 0, 0), (12, 26, 28), (151, 0, 657), (154, 0, 657), (159, 0, 9), (160, 0, 9)] (q_Pi (fun (z : Int) (f1 : Nat → va_E) => (-1) ≤ z ∧ z ≤ 200 ∧ 0 ≤ q_z f1 sr 3 ∧ q_z f1 sr 3 ≤ 9999 ∧ 0 ≤ q_z f1 sr 4 ∧ q_z f1 sr 4 ≤ 60 ∧ q_is (q_z f1 sr 0) xc ∧ q_gr f1 sr)) := by
  refine q_ofb (by decide +kernel) hN hT (Nat.le_of_ble_eq_true rfl) ?_
  intro p e s m below meth c ls cx hr hlk hB hl
  have hl : lv_has ls 4 [(0, .ref mo)] := hl
  have J21 : ∀ (n : Nat) (f21 : Nat → va_E) (v21_1 : Int) (lv21_1 : (-2147483648) ≤ v21_1) (uv21_1 : v21_1 ≤ 2147483647) (v21_2 : Int) (lv21_2 : 0 ≤ v21_2) (uv21_2 : v21_2 ≤ 200) (v21_3 : Int) (lv21_3 : (-2147483648) ≤ v21_3) (uv21_3 : v21_3 ≤ 2147483647) (w21_aw_2 : Int) (lw21_aw_2 : 4 ≤ w21_aw_2) (uw21_aw_2 : w21_aw_2 ≤ 60) (w21_sr_3 : Int) (lw21_sr_3 : 0 ≤ w21_sr_3) (uw21_sr_3 : w21_sr_3 ≤ 10199) (hj_sr_4 : q_is (q_z f21 sr 4) xm) (hj_sr_0 : q_is (q_z f21 sr 0) xc) (hj_aw_2 : q_is (q_z f21 aw 2) w21_aw_2) (hj_aw_0 : q_is (q_z f21 aw 0) xc) (hj_sr_3 : q_is (q_z f21 sr 3) w21_sr_3) (hq_mo_13 : q_ir (q_r f21 mo 13) sr) (hq_mo_24 : q_ir (q_r f21 mo 24) hp) (hq_mo_25 : q_ir (q_r f21 mo 25) dy) (hq_mo_16 : q_ir (q_r f21 mo 16) aw) (hgr21 : q_gr f21 sr) (hrl21_0 : 0 ≤ 1 * w21_sr_3 + -1 * xt + -1 * v21_2 + 0 ∧ 1 * w21_sr_3 + -1 * xt + -1 * v21_2 + 0 ≤ 0) (hrl21_1 : 0 ≤ 1 * v21_2 + 0 ∧ 1 * v21_2 + 0 ≤ 200) (hmu : (Int.toNat (201 - v21_2)) < n) (H : Heap) (locs : List Loc) (hB : q_B g K L (fun q => q ∈ L) [(12, 0, 0), (12, 26, 28), (151, 0, 657), (154, 0, 657), (159, 0, 9), (160, 0, 9)] f f21 s H locs) (ls : Array Slot) (hl : lv_has ls 4 [(0, .ref mo), (1, .int (q_i v21_1)), (2, .int (q_i v21_2)), (3, .int (q_i v21_3))]), W p l e { frames := 9, cells := 0, slots := 0, locals := 205 } s m ([.ref mo] : List Value).toArray below meth c H locs 0 0 (MQ below (q_Q g K L [(12, 0, 0), (12, 26, 28), (151, 0, 657), (154, 0, 657), (159, 0, 9), (160, 0, 9)] f (q_Pi (fun (z : Int) (f1 : Nat → va_E) => (-1) ≤ z ∧ z ≤ 200 ∧ 0 ≤ q_z f1 sr 3 ∧ q_z f1 sr 3 ≤ 9999 ∧ 0 ≤ q_z f1 sr 4 ∧ q_z f1 sr 4 ≤ 60 ∧ q_is (q_z f1 sr 0) xc ∧ q_gr f1 sr))) ([.ref mo] : List Value).toArray s 0 0 (fun q => q ∈ L)) (F0 m 21 ls []) := by
    intro n
    induction n with
    | zero =>
      intro f21 v21_1 lv21_1 uv21_1 v21_2 lv21_2 uv21_2 v21_3 lv21_3 uv21_3 w21_aw_2 lw21_aw_2 uw21_aw_2 w21_sr_3 lw21_sr_3 uw21_sr_3 hj_sr_4 hj_sr_0 hj_aw_2 hj_aw_0 hj_sr_3 hq_mo_13 hq_mo_24 hq_mo_25 hq_mo_16 hgr21 hrl21_0 hrl21_1 hmu
      exact absurd hmu (Nat.not_lt_zero _)
    | succ n ih21 =>
      intro f21 v21_1 lv21_1 uv21_1 v21_2 lv21_2 uv21_2 v21_3 lv21_3 uv21_3 w21_aw_2 lw21_aw_2 uw21_aw_2 w21_sr_3 lw21_sr_3 uw21_sr_3 hj_sr_4 hj_sr_0 hj_aw_2 hj_aw_0 hj_sr_3 hq_mo_13 hq_mo_24 hq_mo_25 hq_mo_16 hgr21 hrl21_0 hrl21_1 hmu H locs hB ls hl
      refine q_ild_n cx dX12_takesIn_21 rfl (lv_at hl 2 rfl) ?_
      refine q_sipush cx dX12_takesIn_22 rfl ?_
      refine q_icge (tgt := 52) cx ⟨by omega, by omega⟩ ⟨by decide, by decide⟩ dX12_takesIn_25 (by decide) (fun c204 => ?_) (fun c204 => ?_)
      · refine q_ald_n cx dX12_takesIn_52 rfl (lv_at hl 0 rfl) ?_
        refine q_ald_n cx dX12_takesIn_53 rfl (lv_at hl 0 rfl) ?_
        refine q_gX12_20 cx hB hmo kmo hq_mo_13 dX12_takesIn_54 (fun hb205 kb205 => ?_)
        refine q_bipush cx dX12_takesIn_57 rfl ?_
        obtain ⟨x206, ex206⟩ : ∃ zz, q_is (q_z f21 sr (Int.toNat 9)) zz := ⟨_, q_isr _⟩
        refine q_sald cx hB hsr ksr (by decide) (by decide) ex206 dX12_takesIn_59 (fun rx206 => ?_)
        refine q_ild_n cx dX12_takesIn_60 rfl (lv_at hl 1 rfl) ?_
        refine q_icle (tgt := 68) cx ⟨by omega, by omega⟩ ⟨by omega, by omega⟩ dX12_takesIn_61 (by decide) (fun c208 => ?_) (fun c208 => ?_)
        · refine q_iconst cx dX12_takesIn_68 ?_
          refine q_cVi (As := [.int (q_i (-1))]) (rest := []) cx hB (fun _ h => h) hN hmo kmo (by decide) rfl (r_comesBack l g hN hB.2.1 mo hmo kmo (-1) (by decide) (by decide) sr hsr ksr aw haw kaw w21_aw_2 (by omega) (by omega) xc (by omega) (by omega) hj_aw_2 hj_aw_0 hq_mo_13 hq_mo_16) q_cX12_411 q_dX12_comesBack (by decide) rfl rfl hl.1 rfl (Nat.le_of_ble_eq_true rfl) dX12_takesIn_69 (fun y210 H locs f209 ry210 h211 hF hB => ?_)
          obtain ⟨qy210, lz212, uz212, lz213, uz213, z214, g215⟩ := h211
          have z216 : q_is (q_z f209 aw 2) w21_aw_2 := Eq.trans (hF.z haw (by rw [kaw]; rfl)) hj_aw_2
          have z217 : q_is (q_z f209 aw 0) xc := Eq.trans (hF.z haw (by rw [kaw]; rfl)) hj_aw_0
          have z218 : q_ir (q_r f209 mo 13) sr := Eq.trans (hF.r hmo (by rw [kmo]; rfl)) hq_mo_13
          have z219 : q_ir (q_r f209 mo 24) hp := Eq.trans (hF.r hmo (by rw [kmo]; rfl)) hq_mo_24
          have z220 : q_ir (q_r f209 mo 25) dy := Eq.trans (hF.r hmo (by rw [kmo]; rfl)) hq_mo_25
          have z221 : q_ir (q_r f209 mo 16) aw := Eq.trans (hF.r hmo (by rw [kmo]; rfl)) hq_mo_16
          obtain ⟨x222, ex222⟩ : ∃ zz, q_is (q_z f209 sr 3) zz := ⟨_, q_isr _⟩
          obtain ⟨lx222, ux222⟩ := q_isb ex222 ⟨lz212, uz212⟩
          obtain ⟨x223, ex223⟩ : ∃ zz, q_is (q_z f209 sr 4) zz := ⟨_, q_isr _⟩
          obtain ⟨lx223, ux223⟩ := q_isb ex223 ⟨lz213, uz213⟩
          subst qy210
          refine q_iret cx hr hlk hB dX12_takesIn_72 ⟨by decide, by decide⟩ ?_
          exact ⟨(by decide), (by decide), (q_isl ex222 (by omega)), (q_isu ex222 (by omega)), (q_isl ex223 (by omega)), (q_isu ex223 (by omega)), z214, g215⟩
        · refine q_ild_n cx dX12_takesIn_64 rfl (lv_at hl 2 rfl) ?_
          refine lv_goto (tgt := 69) cx.1 cx.2.1 dX12_takesIn_65 (by decide) ?_
          refine q_cVi (As := [.int (q_i v21_2)]) (rest := []) cx hB (fun _ h => h) hN hmo kmo (by decide) rfl (r_comesBack l g hN hB.2.1 mo hmo kmo v21_2 (by omega) (by omega) sr hsr ksr aw haw kaw w21_aw_2 (by omega) (by omega) xc (by omega) (by omega) hj_aw_2 hj_aw_0 hq_mo_13 hq_mo_16) q_cX12_411 q_dX12_comesBack (by decide) rfl rfl hl.1 rfl (Nat.le_of_ble_eq_true rfl) dX12_takesIn_69 (fun y225 H locs f224 ry225 h226 hF hB => ?_)
          obtain ⟨qy225, lz227, uz227, lz228, uz228, z229, g230⟩ := h226
          have z231 : q_is (q_z f224 aw 2) w21_aw_2 := Eq.trans (hF.z haw (by rw [kaw]; rfl)) hj_aw_2
          have z232 : q_is (q_z f224 aw 0) xc := Eq.trans (hF.z haw (by rw [kaw]; rfl)) hj_aw_0
          have z233 : q_ir (q_r f224 mo 13) sr := Eq.trans (hF.r hmo (by rw [kmo]; rfl)) hq_mo_13
          have z234 : q_ir (q_r f224 mo 24) hp := Eq.trans (hF.r hmo (by rw [kmo]; rfl)) hq_mo_24
          have z235 : q_ir (q_r f224 mo 25) dy := Eq.trans (hF.r hmo (by rw [kmo]; rfl)) hq_mo_25
          have z236 : q_ir (q_r f224 mo 16) aw := Eq.trans (hF.r hmo (by rw [kmo]; rfl)) hq_mo_16
          obtain ⟨x237, ex237⟩ : ∃ zz, q_is (q_z f224 sr 3) zz := ⟨_, q_isr _⟩
          obtain ⟨lx237, ux237⟩ := q_isb ex237 ⟨lz227, uz227⟩
          obtain ⟨x238, ex238⟩ : ∃ zz, q_is (q_z f224 sr 4) zz := ⟨_, q_isr _⟩
          obtain ⟨lx238, ux238⟩ := q_isb ex238 ⟨lz228, uz228⟩
          refine q_iret cx hr hlk hB dX12_takesIn_72 ⟨by omega, by omega⟩ ?_
          exact ⟨(by omega), (by omega), (q_isl ex237 (by omega)), (q_isu ex237 (by omega)), (q_isl ex238 (by omega)), (q_isu ex238 (by omega)), z229, g230⟩
      · refine q_ald_n cx dX12_takesIn_28 rfl (lv_at hl 0 rfl) ?_
        refine q_gX12_20 cx hB hmo kmo hq_mo_13 dX12_takesIn_29 (fun hb239 kb239 => ?_)
        refine q_bipush cx dX12_takesIn_32 rfl ?_
        obtain ⟨x240, ex240⟩ : ∃ zz, q_is (q_z f21 sr (Int.toNat 9)) zz := ⟨_, q_isr _⟩
        refine q_sald cx hB hsr ksr (by decide) (by decide) ex240 dX12_takesIn_34 (fun rx240 => ?_)
        refine q_ild_n cx dX12_takesIn_35 rfl (lv_at hl 1 rfl) ?_
        refine q_icne (tgt := 52) cx ⟨by omega, by omega⟩ ⟨by omega, by omega⟩ dX12_takesIn_36 (by decide) (fun c242 => ?_) (fun c242 => ?_)
        · refine q_ald_n cx dX12_takesIn_52 rfl (lv_at hl 0 rfl) ?_
          refine q_ald_n cx dX12_takesIn_53 rfl (lv_at hl 0 rfl) ?_
          refine q_gX12_20 cx hB hmo kmo hq_mo_13 dX12_takesIn_54 (fun hb243 kb243 => ?_)
          refine q_bipush cx dX12_takesIn_57 rfl ?_
          refine q_iald (lo := (-2147483648)) (hi := 2147483647) (n := 658) cx hB hsr ksr (by decide) rfl rfl (by decide) (by decide) (by decide) rfl ex240 dX12_takesIn_59 (fun lb245 ub245 => ?_)
          refine q_ild_n cx dX12_takesIn_60 rfl (lv_at hl 1 rfl) ?_
          refine q_icle (tgt := 68) cx ⟨by omega, by omega⟩ ⟨by omega, by omega⟩ dX12_takesIn_61 (by decide) (fun c246 => ?_) (fun c246 => ?_)
          · refine q_iconst cx dX12_takesIn_68 ?_
            refine q_cVi (As := [.int (q_i (-1))]) (rest := []) cx hB (fun _ h => h) hN hmo kmo (by decide) rfl (r_comesBack l g hN hB.2.1 mo hmo kmo (-1) (by decide) (by decide) sr hsr ksr aw haw kaw w21_aw_2 (by omega) (by omega) xc (by omega) (by omega) hj_aw_2 hj_aw_0 hq_mo_13 hq_mo_16) q_cX12_411 q_dX12_comesBack (by decide) rfl rfl hl.1 rfl (Nat.le_of_ble_eq_true rfl) dX12_takesIn_69 (fun y248 H locs f247 ry248 h249 hF hB => ?_)
            obtain ⟨qy248, lz250, uz250, lz251, uz251, z252, g253⟩ := h249
            have z254 : q_is (q_z f247 aw 2) w21_aw_2 := Eq.trans (hF.z haw (by rw [kaw]; rfl)) hj_aw_2
            have z255 : q_is (q_z f247 aw 0) xc := Eq.trans (hF.z haw (by rw [kaw]; rfl)) hj_aw_0
            have z256 : q_ir (q_r f247 mo 13) sr := Eq.trans (hF.r hmo (by rw [kmo]; rfl)) hq_mo_13
            have z257 : q_ir (q_r f247 mo 24) hp := Eq.trans (hF.r hmo (by rw [kmo]; rfl)) hq_mo_24
            have z258 : q_ir (q_r f247 mo 25) dy := Eq.trans (hF.r hmo (by rw [kmo]; rfl)) hq_mo_25
            have z259 : q_ir (q_r f247 mo 16) aw := Eq.trans (hF.r hmo (by rw [kmo]; rfl)) hq_mo_16
            obtain ⟨x260, ex260⟩ : ∃ zz, q_is (q_z f247 sr 3) zz := ⟨_, q_isr _⟩
            obtain ⟨lx260, ux260⟩ := q_isb ex260 ⟨lz250, uz250⟩
            obtain ⟨x261, ex261⟩ : ∃ zz, q_is (q_z f247 sr 4) zz := ⟨_, q_isr _⟩
            obtain ⟨lx261, ux261⟩ := q_isb ex261 ⟨lz251, uz251⟩
            subst qy248
            refine q_iret cx hr hlk hB dX12_takesIn_72 ⟨by decide, by decide⟩ ?_
            exact ⟨(by decide), (by decide), (q_isl ex260 (by omega)), (q_isu ex260 (by omega)), (q_isl ex261 (by omega)), (q_isu ex261 (by omega)), z252, g253⟩
          · refine q_ild_n cx dX12_takesIn_64 rfl (lv_at hl 2 rfl) ?_
            refine lv_goto (tgt := 69) cx.1 cx.2.1 dX12_takesIn_65 (by decide) ?_
            refine q_cVi (As := [.int (q_i v21_2)]) (rest := []) cx hB (fun _ h => h) hN hmo kmo (by decide) rfl (r_comesBack l g hN hB.2.1 mo hmo kmo v21_2 (by omega) (by omega) sr hsr ksr aw haw kaw w21_aw_2 (by omega) (by omega) xc (by omega) (by omega) hj_aw_2 hj_aw_0 hq_mo_13 hq_mo_16) q_cX12_411 q_dX12_comesBack (by decide) rfl rfl hl.1 rfl (Nat.le_of_ble_eq_true rfl) dX12_takesIn_69 (fun y263 H locs f262 ry263 h264 hF hB => ?_)
            obtain ⟨qy263, lz265, uz265, lz266, uz266, z267, g268⟩ := h264
            have z269 : q_is (q_z f262 aw 2) w21_aw_2 := Eq.trans (hF.z haw (by rw [kaw]; rfl)) hj_aw_2
            have z270 : q_is (q_z f262 aw 0) xc := Eq.trans (hF.z haw (by rw [kaw]; rfl)) hj_aw_0
            have z271 : q_ir (q_r f262 mo 13) sr := Eq.trans (hF.r hmo (by rw [kmo]; rfl)) hq_mo_13
            have z272 : q_ir (q_r f262 mo 24) hp := Eq.trans (hF.r hmo (by rw [kmo]; rfl)) hq_mo_24
            have z273 : q_ir (q_r f262 mo 25) dy := Eq.trans (hF.r hmo (by rw [kmo]; rfl)) hq_mo_25
            have z274 : q_ir (q_r f262 mo 16) aw := Eq.trans (hF.r hmo (by rw [kmo]; rfl)) hq_mo_16
            obtain ⟨x275, ex275⟩ : ∃ zz, q_is (q_z f262 sr 3) zz := ⟨_, q_isr _⟩
            obtain ⟨lx275, ux275⟩ := q_isb ex275 ⟨lz265, uz265⟩
            obtain ⟨x276, ex276⟩ : ∃ zz, q_is (q_z f262 sr 4) zz := ⟨_, q_isr _⟩
            obtain ⟨lx276, ux276⟩ := q_isb ex276 ⟨lz266, uz266⟩
            refine q_iret cx hr hlk hB dX12_takesIn_72 ⟨by omega, by omega⟩ ?_
            exact ⟨(by omega), (by omega), (q_isl ex275 (by omega)), (q_isu ex275 (by omega)), (q_isl ex276 (by omega)), (q_isu ex276 (by omega)), z267, g268⟩
        · refine q_ild_n cx dX12_takesIn_39 rfl (lv_at hl 3 rfl) ?_
          refine q_ald_n cx dX12_takesIn_40 rfl (lv_at hl 0 rfl) ?_
          refine q_cVi (As := []) (rest := [.int (q_i v21_3)]) cx hB (fun _ h => h) hN hmo kmo (by decide) rfl (r_ticksOnce l g hN hB.2.1 mo hmo kmo sr hsr ksr hp hhp khp dy hdy kdy w21_sr_3 (by omega) (by omega) xm (by omega) (by omega) hj_sr_3 hj_sr_4 hq_mo_13 hq_mo_24 hq_mo_25 hgr21) q_cX12_338 q_dX12_ticksOnce (by decide) rfl rfl hl.1 rfl (Nat.le_of_ble_eq_true rfl) dX12_takesIn_41 (fun y278 H locs f277 ry278 h279 hF hB => ?_)
          obtain ⟨z280, z281, g282⟩ := h279
          have z283 : q_is (q_z f277 sr 4) xm := Eq.trans (hF.z hsr (by rw [ksr]; rfl)) hj_sr_4
          have z284 : q_is (q_z f277 sr 0) xc := Eq.trans (hF.z hsr (by rw [ksr]; rfl)) hj_sr_0
          have z285 : q_is (q_z f277 aw 2) w21_aw_2 := Eq.trans (hF.z haw (by rw [kaw]; rfl)) hj_aw_2
          have z286 : q_is (q_z f277 aw 0) xc := Eq.trans (hF.z haw (by rw [kaw]; rfl)) hj_aw_0
          have z287 : q_ir (q_r f277 mo 13) sr := Eq.trans (hF.r hmo (by rw [kmo]; rfl)) hq_mo_13
          have z288 : q_ir (q_r f277 mo 24) hp := Eq.trans (hF.r hmo (by rw [kmo]; rfl)) hq_mo_24
          have z289 : q_ir (q_r f277 mo 25) dy := Eq.trans (hF.r hmo (by rw [kmo]; rfl)) hq_mo_25
          have z290 : q_ir (q_r f277 mo 16) aw := Eq.trans (hF.r hmo (by rw [kmo]; rfl)) hq_mo_16
          refine q_iadd cx dX12_takesIn_44 ?_
          refine q_any (fun y291 ry291 ey291 => ?_)
          refine lv_istore_n (lv' := [(3, .int (q_i y291)), (0, .ref mo), (1, .int (q_i v21_1)), (2, .int (q_i v21_2))]) cx.1 cx.2.1 dX12_takesIn_45 rfl hl (by decide) rfl (fun ls hl => ?_)
          refine q_iinc (lv' := [(2, .int (q_i (v21_2 + 1))), (3, .int (q_i y291)), (0, .ref mo), (1, .int (q_i v21_1))]) cx dX12_takesIn_46 hl (k := 3) rfl (by decide) rfl (fun ls hl => ?_)
          refine lv_goto (tgt := 21) cx.1 cx.2.1 dX12_takesIn_49 (by decide) ?_
          exact ih21 f277 v21_1 (by omega) (by omega) (v21_2 + 1) (by omega) (by omega) y291 (by omega) (by omega) w21_aw_2 (by omega) (by omega) (w21_sr_3 + 1) (by omega) (by omega) z281 z284 z285 z286 z280 z287 z288 z289 z290 g282 (by omega) (by omega) (by omega) H locs hB ls (lv_sub hl [2, 3, 0, 1] rfl)
  obtain ⟨H, hH⟩ : ∃ H : Heap, H = s.heap := ⟨_, rfl⟩
  obtain ⟨locs, hlocs⟩ : ∃ z : List Loc, z = [] := ⟨_, rfl⟩
  rw [← hH, ← hlocs] at hB
  rw [← hH, ← hlocs]
  refine q_ald_n cx dX12_takesIn_0 rfl (lv_at hl 0 rfl) ?_
  refine q_iconst cx dX12_takesIn_1 ?_
  refine q_pX12_75 cx hB hmo kmo ⟨by decide, by decide⟩ (by decide) (by decide) rfl dX12_takesIn_2 (fun H locs f292 ef292 z293 hB => ?_)
  have z294 : q_is (q_z f292 sr 3) xt := by rw [ef292, q_setz (Or.inr (by decide))]; exact hf0
  have z295 : q_is (q_z f292 sr 4) xm := by rw [ef292, q_setz (Or.inr (by decide))]; exact hf1
  have z296 : q_is (q_z f292 sr 0) xc := by rw [ef292, q_setz (Or.inl (fun q => by rw [q, kmo] at ksr; exact absurd ksr (by decide)))]; exact hf2
  have z297 : q_ir (q_r f292 mo 13) sr := by rw [ef292, q_setr (Or.inr (by decide))]; exact hr0
  have z298 : q_ir (q_r f292 mo 24) hp := by rw [ef292, q_setr (Or.inr (by decide))]; exact hr1
  have z299 : q_ir (q_r f292 mo 25) dy := by rw [ef292, q_setr (Or.inr (by decide))]; exact hr2
  have z300 : q_ir (q_r f292 mo 16) aw := by rw [ef292, q_setr (Or.inr (by decide))]; exact hr3
  have g301 : q_gr f292 sr := q_gr_ne hgr ef292 (fun q => q_kne (k := 151) (k2 := 12) (by decide) ksr kmo q)
  refine q_ald_n cx dX12_takesIn_5 rfl (lv_at hl 0 rfl) ?_
  refine q_cVv (As := []) (rest := []) cx hB (fun _ h => h) hN hmo kmo (by decide) rfl (r_leaves l g hN hB.2.1 mo hmo kmo sr hsr ksr aw haw kaw xt (by omega) (by omega) xm (by omega) (by omega) xc (by omega) (by omega) z294 z295 z296 z297 z300 g301) q_cX12_405 q_dX12_leaves (by decide) rfl rfl hl.1 rfl (Nat.le_of_ble_eq_true rfl) dX12_takesIn_6 (fun H locs f302 h304 hF hB => ?_)
  obtain ⟨lz305, uz305, z306⟩ := h304
  have z307 : q_is (q_z f302 sr 3) xt := Eq.trans (hF.z hsr (by rw [ksr]; rfl)) z294
  have z308 : q_is (q_z f302 sr 4) xm := Eq.trans (hF.z hsr (by rw [ksr]; rfl)) z295
  have z309 : q_is (q_z f302 sr 0) xc := Eq.trans (hF.z hsr (by rw [ksr]; rfl)) z296
  have z310 : q_is (q_z f302 mo 0) 0 := Eq.trans (hF.z hmo (by rw [kmo]; rfl)) z293
  have z311 : q_ir (q_r f302 mo 13) sr := Eq.trans (hF.r hmo (by rw [kmo]; rfl)) z297
  have z312 : q_ir (q_r f302 mo 24) hp := Eq.trans (hF.r hmo (by rw [kmo]; rfl)) z298
  have z313 : q_ir (q_r f302 mo 25) dy := Eq.trans (hF.r hmo (by rw [kmo]; rfl)) z299
  have z314 : q_ir (q_r f302 mo 16) aw := Eq.trans (hF.r hmo (by rw [kmo]; rfl)) z300
  have g315 : q_gr f302 sr := q_gr_fr g301 (fun i9 _ => hF.z hsr (by rw [ksr]; rfl))
  obtain ⟨x316, ex316⟩ : ∃ zz, q_is (q_z f302 aw 2) zz := ⟨_, q_isr _⟩
  obtain ⟨lx316, ux316⟩ := q_isb ex316 ⟨lz305, uz305⟩
  refine q_ald_n cx dX12_takesIn_9 rfl (lv_at hl 0 rfl) ?_
  refine q_gX12_20 cx hB hmo kmo z311 dX12_takesIn_10 (fun hb317 kb317 => ?_)
  refine q_bipush cx dX12_takesIn_13 rfl ?_
  obtain ⟨x318, ex318⟩ : ∃ zz, q_is (q_z f302 sr (Int.toNat 9)) zz := ⟨_, q_isr _⟩
  refine q_sald cx hB hsr ksr (by decide) (by decide) ex318 dX12_takesIn_15 (fun rx318 => ?_)
  refine lv_istore_n (lv' := [(1, .int (q_i x318)), (0, .ref mo)]) cx.1 cx.2.1 dX12_takesIn_16 rfl hl (by decide) rfl (fun ls hl => ?_)
  refine q_iconst cx dX12_takesIn_17 ?_
  refine lv_istore_n (lv' := [(2, .int (q_i 0)), (1, .int (q_i x318)), (0, .ref mo)]) cx.1 cx.2.1 dX12_takesIn_18 rfl hl (by decide) rfl (fun ls hl => ?_)
  refine q_iconst cx dX12_takesIn_19 ?_
  refine lv_istore_n (lv' := [(3, .int (q_i 0)), (2, .int (q_i 0)), (1, .int (q_i x318)), (0, .ref mo)]) cx.1 cx.2.1 dX12_takesIn_20 rfl hl (by decide) rfl (fun ls hl => ?_)
  exact J21 ((Int.toNat (201 - 0)) + 1) f302 x318 (by omega) (by omega) 0 (by decide) (by decide) 0 (by decide) (by decide) x316 (by omega) (by omega) xt (by omega) (by omega) z308 z309 ex316 z306 z307 z311 z312 z313 z314 g315 (by omega) (by omega) (Nat.lt_succ_self _) H locs hB ls (lv_sub hl [3, 2, 1, 0] rfl)
set_option maxHeartbeats 4000000 in
set_option maxRecDepth 100000 in
theorem r_latestMeeting (l : Launch) (g : q_G) {K : Nat → Nat} {L : List Nat} (hN : L.Nodup) {f : Nat → va_E} (hT : q_Ty g K L f) (mo : Nat) (hmo : mo ∈ L) (kmo : K mo = 12) (a0 : Int) (la0 : 0 ≤ a0) (ua0 : a0 ≤ 9) (sr : Nat) (hsr : sr ∈ L) (ksr : K sr = 151) (hr0 : q_ir (q_r f mo 13) sr) (hgr : q_gr f sr) : q_Ct l g K L yX12_latestMeeting cX12_latestMeeting 5 (some .int) 7 158 [.ref mo, .int (q_i a0)] f [] (q_Pi (fun (z : Int) (f1 : Nat → va_E) => f = f1 ∧ 0 ≤ z ∧ z ≤ 1000)) := by
  refine q_ofb (by decide +kernel) hN hT (Nat.le_of_ble_eq_true rfl) ?_
  intro p e s m below meth c ls cx hr hlk hB hl
  have hl : lv_has ls 5 [(0, .ref mo), (1, .int (q_i a0))] := hl
  have J11 : ∀ (n : Nat) (v11_2 : Int) (lv11_2 : (-2147483648) ≤ v11_2) (uv11_2 : v11_2 ≤ 2147483647) (v11_3 : Int) (lv11_3 : 0 ≤ v11_3) (uv11_3 : v11_3 ≤ 1000) (v11_4 : Int) (lv11_4 : 0 ≤ v11_4) (uv11_4 : v11_4 ≤ 10) (hq_mo_13 : q_ir (q_r f mo 13) sr) (hgr11 : q_gr f sr) (hmu : (Int.toNat (2147483647 - v11_4)) < n) (H : Heap) (locs : List Loc) (hB : q_B g K L (fun q => q ∈ L) [] f f s H locs) (ls : Array Slot) (hl : lv_has ls 5 [(0, .ref mo), (1, .int (q_i a0)), (2, .int (q_i v11_2)), (3, .int (q_i v11_3)), (4, .int (q_i v11_4))]), W p l e { frames := 7, cells := 0, slots := 0, locals := 158 } s m ([.ref mo, .int (q_i a0)] : List Value).toArray below meth c H locs 0 0 (MQ below (q_Q g K L [] f (q_Pi (fun (z : Int) (f1 : Nat → va_E) => f = f1 ∧ 0 ≤ z ∧ z ≤ 1000))) ([.ref mo, .int (q_i a0)] : List Value).toArray s 0 0 (fun q => q ∈ L)) (F0 m 11 ls []) := by
    intro n
    induction n with
    | zero =>
      intro v11_2 lv11_2 uv11_2 v11_3 lv11_3 uv11_3 v11_4 lv11_4 uv11_4 hq_mo_13 hgr11 hmu
      exact absurd hmu (Nat.not_lt_zero _)
    | succ n ih11 =>
      intro v11_2 lv11_2 uv11_2 v11_3 lv11_3 uv11_3 v11_4 lv11_4 uv11_4 hq_mo_13 hgr11 hmu H locs hB ls hl
      refine lv_iload cx.1 cx.2.1 dX12_latestMeeting_11 (lv_at hl 4 rfl) ?_
      refine q_ald_n cx dX12_latestMeeting_13 rfl (lv_at hl 0 rfl) ?_
      refine q_gX12_20 cx hB hmo kmo hq_mo_13 dX12_latestMeeting_14 (fun hb184 kb184 => ?_)
      refine q_iconst cx dX12_latestMeeting_17 ?_
      obtain ⟨x185, ex185⟩ : ∃ zz, q_is (q_z f sr (Int.toNat 0)) zz := ⟨_, q_isr _⟩
      refine q_iald (lo := 0) (hi := 10) (n := 658) cx hB hsr ksr (by decide) rfl rfl (by decide) (by decide) (by decide) rfl ex185 dX12_latestMeeting_18 (fun lb186 ub186 => ?_)
      refine q_icge (tgt := 49) cx ⟨by omega, by omega⟩ ⟨by omega, by omega⟩ dX12_latestMeeting_19 (by decide) (fun c187 => ?_) (fun c187 => ?_)
      · refine q_ild_n cx dX12_latestMeeting_49 rfl (lv_at hl 3 rfl) ?_
        refine q_iret cx hr hlk hB dX12_latestMeeting_50 ⟨by omega, by omega⟩ ?_
        exact ⟨rfl, (by omega), (by omega)⟩
      · refine q_ild_n cx dX12_latestMeeting_22 rfl (lv_at hl 2 rfl) ?_
        refine lv_iload cx.1 cx.2.1 dX12_latestMeeting_23 (lv_at hl 4 rfl) ?_
        refine q_cSi (As := [.int (q_i v11_2), .int (q_i v11_4)]) (rest := []) cx hB (fun _ h => h) hN (r_has l g hN hB.2.1 v11_2 (by omega) (by omega) v11_4 (by omega) (by omega)) q_cX12_185 q_dX12_has (by decide) rfl rfl hl.1 rfl (Nat.le_of_ble_eq_true rfl) dX12_latestMeeting_25 (fun y189 H locs f188 ry189 h190 hF hB => ?_)
        obtain ⟨rfl, ly189, uy189⟩ := h190
        refine q_ifeq (tgt := 43) cx ⟨by omega, by omega⟩ dX12_latestMeeting_28 (by decide) (fun c191 => ?_) (fun c191 => ?_)
        · refine q_iinc (lv' := [(4, .int (q_i (v11_4 + 1))), (0, .ref mo), (1, .int (q_i a0)), (2, .int (q_i v11_2)), (3, .int (q_i v11_3))]) cx dX12_latestMeeting_43 hl (k := 4) rfl (by decide) rfl (fun ls hl => ?_)
          refine lv_goto (tgt := 11) cx.1 cx.2.1 dX12_latestMeeting_46 (by decide) ?_
          exact ih11 v11_2 (by omega) (by omega) v11_3 (by omega) (by omega) (v11_4 + 1) (by omega) (by omega) hq_mo_13 hgr11 (by omega) H locs hB ls (lv_sub hl [1, 2, 3, 4, 0] rfl)
        · refine q_ild_n cx dX12_latestMeeting_31 rfl (lv_at hl 3 rfl) ?_
          refine q_ald_n cx dX12_latestMeeting_32 rfl (lv_at hl 0 rfl) ?_
          refine q_ild_n cx dX12_latestMeeting_33 rfl (lv_at hl 1 rfl) ?_
          refine lv_iload cx.1 cx.2.1 dX12_latestMeeting_34 (lv_at hl 4 rfl) ?_
          refine q_cVi (As := [.int (q_i a0), .int (q_i v11_4)]) (rest := [.int (q_i v11_3)]) cx hB (fun _ h => h) hN hmo kmo (by decide) rfl (r_lateness l g hN hB.2.1 mo hmo kmo a0 (by omega) (by omega) v11_4 (by omega) (by omega) sr hsr ksr hq_mo_13 hgr11) q_cX12_396 q_dX12_lateness (by decide) rfl rfl hl.1 rfl (Nat.le_of_ble_eq_true rfl) dX12_latestMeeting_36 (fun y193 H locs f192 ry193 h194 hF hB => ?_)
          obtain ⟨rfl, ly193, uy193⟩ := h194
          refine q_cSi (As := [.int (q_i v11_3), .int (q_i y193)]) (rest := []) cx hB (fun _ h => h) hN (r_greater l g hN hB.2.1 v11_3 (by omega) (by omega) y193 (by omega) (by omega)) q_cX12_299 q_dX12_greater (by decide) rfl rfl hl.1 rfl (Nat.le_of_ble_eq_true rfl) dX12_latestMeeting_39 (fun y196 H locs f195 ry196 h197 hF hB => ?_)
          rcases h197 with h198 | h199
          · obtain ⟨rfl, qy196, t200⟩ := h198
            refine lv_istore_n (lv' := [(3, .int (q_i y196)), (0, .ref mo), (1, .int (q_i a0)), (2, .int (q_i v11_2)), (4, .int (q_i v11_4))]) cx.1 cx.2.1 dX12_latestMeeting_42 rfl hl (by decide) rfl (fun ls hl => ?_)
            refine q_iinc (lv' := [(4, .int (q_i (v11_4 + 1))), (3, .int (q_i y196)), (0, .ref mo), (1, .int (q_i a0)), (2, .int (q_i v11_2))]) cx dX12_latestMeeting_43 hl (k := 4) rfl (by decide) rfl (fun ls hl => ?_)
            refine lv_goto (tgt := 11) cx.1 cx.2.1 dX12_latestMeeting_46 (by decide) ?_
            exact ih11 v11_2 (by omega) (by omega) y196 (by omega) (by omega) (v11_4 + 1) (by omega) (by omega) hq_mo_13 hgr11 (by omega) H locs hB ls (lv_sub hl [2, 3, 4, 1, 0] rfl)
          · obtain ⟨rfl, qy196, t201⟩ := h199
            refine lv_istore_n (lv' := [(3, .int (q_i y196)), (0, .ref mo), (1, .int (q_i a0)), (2, .int (q_i v11_2)), (4, .int (q_i v11_4))]) cx.1 cx.2.1 dX12_latestMeeting_42 rfl hl (by decide) rfl (fun ls hl => ?_)
            refine q_iinc (lv' := [(4, .int (q_i (v11_4 + 1))), (3, .int (q_i y196)), (0, .ref mo), (1, .int (q_i a0)), (2, .int (q_i v11_2))]) cx dX12_latestMeeting_43 hl (k := 4) rfl (by decide) rfl (fun ls hl => ?_)
            refine lv_goto (tgt := 11) cx.1 cx.2.1 dX12_latestMeeting_46 (by decide) ?_
            exact ih11 v11_2 (by omega) (by omega) y196 (by omega) (by omega) (v11_4 + 1) (by omega) (by omega) hq_mo_13 hgr11 (by omega) H locs hB ls (lv_sub hl [2, 3, 4, 1, 0] rfl)
  obtain ⟨H, hH⟩ : ∃ H : Heap, H = s.heap := ⟨_, rfl⟩
  obtain ⟨locs, hlocs⟩ : ∃ z : List Loc, z = [] := ⟨_, rfl⟩
  rw [← hH, ← hlocs] at hB
  rw [← hH, ← hlocs]
  refine q_ald_n cx dX12_latestMeeting_0 rfl (lv_at hl 0 rfl) ?_
  refine q_ild_n cx dX12_latestMeeting_1 rfl (lv_at hl 1 rfl) ?_
  refine q_cVi (As := [.int (q_i a0)]) (rest := []) cx hB (fun _ h => h) hN hmo kmo (by decide) rfl (r_neighbours l g hN hB.2.1 mo hmo kmo a0 (by omega) (by omega) sr hsr ksr hr0 hgr) q_cX12_265 q_dX12_neighbours (by decide) rfl rfl hl.1 rfl (Nat.le_of_ble_eq_true rfl) dX12_latestMeeting_2 (fun y203 H locs f202 ry203 h204 hF hB => ?_)
  obtain rfl := h204
  refine lv_istore_n (lv' := [(2, .int (q_i y203)), (0, .ref mo), (1, .int (q_i a0))]) cx.1 cx.2.1 dX12_latestMeeting_5 rfl hl (by decide) rfl (fun ls hl => ?_)
  refine q_iconst cx dX12_latestMeeting_6 ?_
  refine lv_istore_n (lv' := [(3, .int (q_i 0)), (2, .int (q_i y203)), (0, .ref mo), (1, .int (q_i a0))]) cx.1 cx.2.1 dX12_latestMeeting_7 rfl hl (by decide) rfl (fun ls hl => ?_)
  refine q_iconst cx dX12_latestMeeting_8 ?_
  refine lv_istore (lv' := [(4, .int (q_i 0)), (3, .int (q_i 0)), (2, .int (q_i y203)), (0, .ref mo), (1, .int (q_i a0))]) cx.1 cx.2.1 dX12_latestMeeting_9 hl (by decide) rfl (fun ls hl => ?_)
  exact J11 ((Int.toNat (2147483647 - 0)) + 1) y203 (by omega) (by omega) 0 (by decide) (by decide) 0 (by decide) (by decide) hr0 hgr (Nat.lt_succ_self _) H locs hB ls (lv_sub hl [3, 4, 2, 1, 0] rfl)
set_option maxHeartbeats 4000000 in
set_option maxRecDepth 100000 in
theorem r_byShift (l : Launch) (g : q_G) {K : Nat → Nat} {L : List Nat} (hN : L.Nodup) {f : Nat → va_E} (hT : q_Ty g K L f) (mo : Nat) (hmo : mo ∈ L) (kmo : K mo = 12) (a0 : Int) (la0 : 0 ≤ a0) (ua0 : a0 ≤ 9) (b0 : Int) (lb0 : 0 ≤ b0) (ub0 : b0 ≤ 59) (sr : Nat) (hsr : sr ∈ L) (ksr : K sr = 151) (aw : Nat) (haw : aw ∈ L) (kaw : K aw = 154) (xt : Int) (lxt : 0 ≤ xt) (uxt : xt ≤ 9999) (xm : Int) (lxm : 0 ≤ xm) (uxm : xm ≤ 60) (xc : Int) (lxc : 0 ≤ xc) (uxc : xc ≤ 10) (hf0 : q_is (q_z f sr 3) xt) (hf1 : q_is (q_z f sr 4) xm) (hf2 : q_is (q_z f sr 0) xc) (hr0 : q_ir (q_r f mo 13) sr) (hr1 : q_ir (q_r f mo 16) aw) (hgr : q_gr f sr) : q_Ct l g K L yX12_byShift cX12_byShift 3 (some .int) 8 182 [.ref mo, .int (q_i a0), .int (q_i b0)] f [(151, 0, 657), (154, 0, 657)] (q_Pi (fun (z : Int) (f1 : Nat → va_E) => 0 ≤ z ∧ z ≤ 1000 ∧ 0 ≤ q_z f1 sr 3 ∧ q_z f1 sr 3 ≤ 9999 ∧ 0 ≤ q_z f1 sr 4 ∧ q_z f1 sr 4 ≤ 60 ∧ q_is (q_z f1 sr 0) xc ∧ q_gr f1 sr)) := by
  refine q_ofb (by decide +kernel) hN hT (Nat.le_of_ble_eq_true rfl) ?_
  intro p e s m below meth c ls cx hr hlk hB hl
  have hl : lv_has ls 3 [(0, .ref mo), (1, .int (q_i a0)), (2, .int (q_i b0))] := hl
  obtain ⟨H, hH⟩ : ∃ H : Heap, H = s.heap := ⟨_, rfl⟩
  obtain ⟨locs, hlocs⟩ : ∃ z : List Loc, z = [] := ⟨_, rfl⟩
  rw [← hH, ← hlocs] at hB
  rw [← hH, ← hlocs]
  refine q_ald_n cx dX12_byShift_0 rfl (lv_at hl 0 rfl) ?_
  refine q_cVv (As := []) (rest := []) cx hB (fun _ h => h) hN hmo kmo (by decide) rfl (r_leaves l g hN hB.2.1 mo hmo kmo sr hsr ksr aw haw kaw xt (by omega) (by omega) xm (by omega) (by omega) xc (by omega) (by omega) hf0 hf1 hf2 hr0 hr1 hgr) q_cX12_405 q_dX12_leaves (by decide) rfl rfl hl.1 rfl (Nat.le_of_ble_eq_true rfl) dX12_byShift_1 (fun H locs f40 h42 hF hB => ?_)
  obtain ⟨lz43, uz43, z44⟩ := h42
  have z45 : q_is (q_z f40 sr 3) xt := Eq.trans (hF.z hsr (by rw [ksr]; rfl)) hf0
  have z46 : q_is (q_z f40 sr 4) xm := Eq.trans (hF.z hsr (by rw [ksr]; rfl)) hf1
  have z47 : q_is (q_z f40 sr 0) xc := Eq.trans (hF.z hsr (by rw [ksr]; rfl)) hf2
  have z48 : q_ir (q_r f40 mo 13) sr := Eq.trans (hF.r hmo (by rw [kmo]; rfl)) hr0
  have z49 : q_ir (q_r f40 mo 16) aw := Eq.trans (hF.r hmo (by rw [kmo]; rfl)) hr1
  have g50 : q_gr f40 sr := q_gr_fr hgr (fun i9 _ => hF.z hsr (by rw [ksr]; rfl))
  obtain ⟨x51, ex51⟩ : ∃ zz, q_is (q_z f40 aw 2) zz := ⟨_, q_isr _⟩
  obtain ⟨lx51, ux51⟩ := q_isb ex51 ⟨lz43, uz43⟩
  refine q_ald_n cx dX12_byShift_4 rfl (lv_at hl 0 rfl) ?_
  refine q_ild_n cx dX12_byShift_5 rfl (lv_at hl 1 rfl) ?_
  refine q_iconst cx dX12_byShift_6 ?_
  refine q_ild_n cx dX12_byShift_7 rfl (lv_at hl 2 rfl) ?_
  refine q_cVv (As := [.int (q_i a0), .int (q_i 1), .int (q_i b0)]) (rest := []) cx hB (fun _ h => h) hN hmo kmo (by decide) rfl (r_setsNode1 l g hN hB.2.1 mo hmo kmo a0 (by omega) (by omega) 1 (by decide) (by decide) b0 (by omega) (by omega) sr hsr ksr z48 g50) q_cX12_202 q_dX12_setsNode (by decide) rfl rfl hl.1 rfl (Nat.le_of_ble_eq_true rfl) dX12_byShift_8 (fun H locs f52 h54 hF hB => ?_)
  have g55 := h54
  have z56 : q_is (q_z f52 sr 3) xt := Eq.trans (hF.z hsr (by rw [ksr]; rfl)) z45
  have z57 : q_is (q_z f52 sr 4) xm := Eq.trans (hF.z hsr (by rw [ksr]; rfl)) z46
  have z58 : q_is (q_z f52 sr 0) xc := Eq.trans (hF.z hsr (by rw [ksr]; rfl)) z47
  have z59 : q_is (q_z f52 aw 2) x51 := Eq.trans (hF.z haw (by rw [kaw]; rfl)) ex51
  have z60 : q_is (q_z f52 aw 0) xc := Eq.trans (hF.z haw (by rw [kaw]; rfl)) z44
  have z61 : q_ir (q_r f52 mo 13) sr := Eq.trans (hF.r hmo (by rw [kmo]; rfl)) z48
  have z62 : q_ir (q_r f52 mo 16) aw := Eq.trans (hF.r hmo (by rw [kmo]; rfl)) z49
  refine q_ald_n cx dX12_byShift_11 rfl (lv_at hl 0 rfl) ?_
  refine q_ald_n cx dX12_byShift_12 rfl (lv_at hl 0 rfl) ?_
  refine q_ild_n cx dX12_byShift_13 rfl (lv_at hl 1 rfl) ?_
  refine q_cVi (As := [.int (q_i a0)]) (rest := [.ref mo]) cx hB (fun _ h => h) hN hmo kmo (by decide) rfl (r_latestMeeting l g hN hB.2.1 mo hmo kmo a0 (by omega) (by omega) sr hsr ksr z61 g55) q_cX12_430 q_dX12_latestMeeting (by decide) rfl rfl hl.1 rfl (Nat.le_of_ble_eq_true rfl) dX12_byShift_14 (fun y64 H locs f63 ry64 h65 hF hB => ?_)
  obtain ⟨rfl, ly64, uy64⟩ := h65
  refine q_cVi (As := [.int (q_i y64)]) (rest := []) cx hB (fun _ h => h) hN hmo kmo (by decide) rfl (r_comesBack l g hN hB.2.1 mo hmo kmo y64 (by omega) (by omega) sr hsr ksr aw haw kaw x51 (by omega) (by omega) xc (by omega) (by omega) z59 z60 z61 z62) q_cX12_411 q_dX12_comesBack (by decide) rfl rfl hl.1 rfl (Nat.le_of_ble_eq_true rfl) dX12_byShift_17 (fun y67 H locs f66 ry67 h68 hF hB => ?_)
  obtain ⟨qy67, lz69, uz69, lz70, uz70, z71, g72⟩ := h68
  have z73 : q_is (q_z f66 aw 2) x51 := Eq.trans (hF.z haw (by rw [kaw]; rfl)) z59
  have z74 : q_is (q_z f66 aw 0) xc := Eq.trans (hF.z haw (by rw [kaw]; rfl)) z60
  have z75 : q_ir (q_r f66 mo 13) sr := Eq.trans (hF.r hmo (by rw [kmo]; rfl)) z61
  have z76 : q_ir (q_r f66 mo 16) aw := Eq.trans (hF.r hmo (by rw [kmo]; rfl)) z62
  obtain ⟨x77, ex77⟩ : ∃ zz, q_is (q_z f66 sr 3) zz := ⟨_, q_isr _⟩
  obtain ⟨lx77, ux77⟩ := q_isb ex77 ⟨lz69, uz69⟩
  obtain ⟨x78, ex78⟩ : ∃ zz, q_is (q_z f66 sr 4) zz := ⟨_, q_isr _⟩
  obtain ⟨lx78, ux78⟩ := q_isb ex78 ⟨lz70, uz70⟩
  refine q_iret cx hr hlk hB dX12_byShift_20 ⟨by omega, by omega⟩ ?_
  exact ⟨(by omega), (by omega), (q_isl ex77 (by omega)), (q_isu ex77 (by omega)), (q_isl ex78 (by omega)), (q_isu ex78 (by omega)), z71, g72⟩
set_option maxHeartbeats 4000000 in
set_option maxRecDepth 100000 in
theorem r_bestShift (l : Launch) (g : q_G) {K : Nat → Nat} {L : List Nat} (hN : L.Nodup) {f : Nat → va_E} (hT : q_Ty g K L f) (mo : Nat) (hmo : mo ∈ L) (kmo : K mo = 12) (a0 : Int) (la0 : (-2147483648) ≤ a0) (ua0 : a0 ≤ 2147483647) (sr : Nat) (hsr : sr ∈ L) (ksr : K sr = 151) (aw : Nat) (haw : aw ∈ L) (kaw : K aw = 154) (xt : Int) (lxt : 0 ≤ xt) (uxt : xt ≤ 9999) (xm : Int) (lxm : 0 ≤ xm) (uxm : xm ≤ 60) (xc : Int) (lxc : 0 ≤ xc) (uxc : xc ≤ 10) (hf0 : q_is (q_z f sr 3) xt) (hf1 : q_is (q_z f sr 4) xm) (hf2 : q_is (q_z f sr 0) xc) (hr0 : q_ir (q_r f mo 13) sr) (hr1 : q_ir (q_r f mo 16) aw) (hgr : q_gr f sr) : q_Ct l g K L yX12_bestShift cX12_bestShift 6 (some .int) 9 204 [.ref mo, .int (q_i a0)] f [(12, 0, 0), (151, 0, 657), (154, 0, 657)] (q_Pi (fun (z : Int) (f1 : Nat → va_E) => (-1) ≤ z ∧ z ≤ 59 ∧ 0 ≤ q_z f1 sr 3 ∧ q_z f1 sr 3 ≤ 9999 ∧ 0 ≤ q_z f1 sr 4 ∧ q_z f1 sr 4 ≤ 60 ∧ q_is (q_z f1 sr 0) xc ∧ q_gr f1 sr)) := by
  refine q_ofb (by decide +kernel) hN hT (Nat.le_of_ble_eq_true rfl) ?_
  intro p e s m below meth c ls cx hr hlk hB hl
  have hl : lv_has ls 6 [(0, .ref mo), (1, .int (q_i a0))] := hl
  have J36 : ∀ (n : Nat) (f36 : Nat → va_E) (v36_2 : Int) (lv36_2 : 0 ≤ v36_2) (uv36_2 : v36_2 ≤ 59) (v36_3 : Int) (lv36_3 : 0 ≤ v36_3) (uv36_3 : v36_3 ≤ 1000) (v36_4 : Int) (lv36_4 : 1 ≤ v36_4) (uv36_4 : v36_4 ≤ 60) (w36_sr_3 : Int) (lw36_sr_3 : 0 ≤ w36_sr_3) (uw36_sr_3 : w36_sr_3 ≤ 9999) (w36_sr_4 : Int) (lw36_sr_4 : 0 ≤ w36_sr_4) (uw36_sr_4 : w36_sr_4 ≤ 60) (bla0 : 0 ≤ a0) (bua0 : a0 ≤ 9) (hj_sr_3 : q_is (q_z f36 sr 3) w36_sr_3) (hj_sr_4 : q_is (q_z f36 sr 4) w36_sr_4) (hj_sr_0 : q_is (q_z f36 sr 0) xc) (hq_mo_13 : q_ir (q_r f36 mo 13) sr) (hq_mo_16 : q_ir (q_r f36 mo 16) aw) (hgr36 : q_gr f36 sr) (hmu : (Int.toNat (2147483647 - v36_4)) < n) (H : Heap) (locs : List Loc) (hB : q_B g K L (fun q => q ∈ L) [(12, 0, 0), (151, 0, 657), (154, 0, 657)] f f36 s H locs) (ls : Array Slot) (hl : lv_has ls 6 [(0, .ref mo), (1, .int (q_i a0)), (2, .int (q_i v36_2)), (3, .int (q_i v36_3)), (4, .int (q_i v36_4))]), W p l e { frames := 9, cells := 0, slots := 0, locals := 204 } s m ([.ref mo, .int (q_i a0)] : List Value).toArray below meth c H locs 0 0 (MQ below (q_Q g K L [(12, 0, 0), (151, 0, 657), (154, 0, 657)] f (q_Pi (fun (z : Int) (f1 : Nat → va_E) => (-1) ≤ z ∧ z ≤ 59 ∧ 0 ≤ q_z f1 sr 3 ∧ q_z f1 sr 3 ≤ 9999 ∧ 0 ≤ q_z f1 sr 4 ∧ q_z f1 sr 4 ≤ 60 ∧ q_is (q_z f1 sr 0) xc ∧ q_gr f1 sr))) ([.ref mo, .int (q_i a0)] : List Value).toArray s 0 0 (fun q => q ∈ L)) (F0 m 36 ls []) := by
    intro n
    induction n with
    | zero =>
      intro f36 v36_2 lv36_2 uv36_2 v36_3 lv36_3 uv36_3 v36_4 lv36_4 uv36_4 w36_sr_3 lw36_sr_3 uw36_sr_3 w36_sr_4 lw36_sr_4 uw36_sr_4 bla0 bua0 hj_sr_3 hj_sr_4 hj_sr_0 hq_mo_13 hq_mo_16 hgr36 hmu
      exact absurd hmu (Nat.not_lt_zero _)
    | succ n ih36 =>
      intro f36 v36_2 lv36_2 uv36_2 v36_3 lv36_3 uv36_3 v36_4 lv36_4 uv36_4 w36_sr_3 lw36_sr_3 uw36_sr_3 w36_sr_4 lw36_sr_4 uw36_sr_4 bla0 bua0 hj_sr_3 hj_sr_4 hj_sr_0 hq_mo_13 hq_mo_16 hgr36 hmu H locs hB ls hl
      refine lv_iload cx.1 cx.2.1 dX12_bestShift_36 (lv_at hl 4 rfl) ?_
      refine q_ald_n cx dX12_bestShift_38 rfl (lv_at hl 0 rfl) ?_
      refine q_gX12_20 cx hB hmo kmo hq_mo_13 dX12_bestShift_39 (fun hb350 kb350 => ?_)
      refine q_iconst cx dX12_bestShift_42 ?_
      obtain ⟨x351, ex351⟩ : ∃ zz, q_is (q_z f36 sr (Int.toNat 2)) zz := ⟨_, q_isr _⟩
      refine q_sald cx hB hsr ksr (by decide) (by decide) ex351 dX12_bestShift_43 (fun rx351 => ?_)
      obtain ⟨lx351, ux351⟩ : 4 ≤ x351 ∧ x351 ≤ 60 := q_isb ex351 (q_gr_at hgr36 (by decide) rfl)
      refine q_icge (tgt := 77) cx ⟨by omega, by omega⟩ ⟨by omega, by omega⟩ dX12_bestShift_44 (by decide) (fun c353 => ?_) (fun c353 => ?_)
      · refine q_ild_n cx dX12_bestShift_77 rfl (lv_at hl 2 rfl) ?_
        refine q_iret cx hr hlk hB dX12_bestShift_78 ⟨by omega, by omega⟩ ?_
        exact ⟨(by omega), (by omega), (q_isl hj_sr_3 (by omega)), (q_isu hj_sr_3 (by omega)), (q_isl hj_sr_4 (by omega)), (q_isu hj_sr_4 (by omega)), hj_sr_0, hgr36⟩
      · refine q_ald_n cx dX12_bestShift_47 rfl (lv_at hl 0 rfl) ?_
        refine q_ild_n cx dX12_bestShift_48 rfl (lv_at hl 1 rfl) ?_
        refine lv_iload cx.1 cx.2.1 dX12_bestShift_49 (lv_at hl 4 rfl) ?_
        refine q_cVi (As := [.int (q_i a0), .int (q_i v36_4)]) (rest := []) cx hB (fun _ h => h) hN hmo kmo (by decide) rfl (r_byShift l g hN hB.2.1 mo hmo kmo a0 (by omega) (by omega) v36_4 (by omega) (by omega) sr hsr ksr aw haw kaw w36_sr_3 (by omega) (by omega) w36_sr_4 (by omega) (by omega) xc (by omega) (by omega) hj_sr_3 hj_sr_4 hj_sr_0 hq_mo_13 hq_mo_16 hgr36) q_cX12_433 q_dX12_byShift (by decide) rfl rfl hl.1 rfl (Nat.le_of_ble_eq_true rfl) dX12_bestShift_51 (fun y355 H locs f354 ry355 h356 hF hB => ?_)
        obtain ⟨ly355, uy355, lz357, uz357, lz358, uz358, z359, g360⟩ := h356
        have z361 : q_ir (q_r f354 mo 13) sr := Eq.trans (hF.r hmo (by rw [kmo]; rfl)) hq_mo_13
        have z362 : q_ir (q_r f354 mo 16) aw := Eq.trans (hF.r hmo (by rw [kmo]; rfl)) hq_mo_16
        obtain ⟨x363, ex363⟩ : ∃ zz, q_is (q_z f354 sr 3) zz := ⟨_, q_isr _⟩
        obtain ⟨lx363, ux363⟩ := q_isb ex363 ⟨lz357, uz357⟩
        obtain ⟨x364, ex364⟩ : ∃ zz, q_is (q_z f354 sr 4) zz := ⟨_, q_isr _⟩
        obtain ⟨lx364, ux364⟩ := q_isb ex364 ⟨lz358, uz358⟩
        refine lv_istore (lv' := [(5, .int (q_i y355)), (0, .ref mo), (1, .int (q_i a0)), (2, .int (q_i v36_2)), (3, .int (q_i v36_3)), (4, .int (q_i v36_4))]) cx.1 cx.2.1 dX12_bestShift_54 hl (by decide) rfl (fun ls hl => ?_)
        refine lv_iload cx.1 cx.2.1 dX12_bestShift_56 (lv_at hl 0 rfl) ?_
        refine q_ild_n cx dX12_bestShift_58 rfl (lv_at hl 4 rfl) ?_
        refine q_iclt (tgt := 65) cx ⟨by omega, by omega⟩ ⟨by omega, by omega⟩ dX12_bestShift_59 (by decide) (fun c365 => ?_) (fun c365 => ?_)
        · refine lv_iload cx.1 cx.2.1 dX12_bestShift_65 (lv_at hl 0 rfl) ?_
          refine lv_istore_n (lv' := [(3, .int (q_i y355)), (5, .int (q_i y355)), (0, .ref mo), (1, .int (q_i a0)), (2, .int (q_i v36_2)), (4, .int (q_i v36_4))]) cx.1 cx.2.1 dX12_bestShift_67 rfl hl (by decide) rfl (fun ls hl => ?_)
          refine lv_iload cx.1 cx.2.1 dX12_bestShift_68 (lv_at hl 5 rfl) ?_
          refine lv_istore_n (lv' := [(2, .int (q_i v36_4)), (3, .int (q_i y355)), (5, .int (q_i y355)), (0, .ref mo), (1, .int (q_i a0)), (4, .int (q_i v36_4))]) cx.1 cx.2.1 dX12_bestShift_70 rfl hl (by decide) rfl (fun ls hl => ?_)
          refine q_iinc (lv' := [(4, .int (q_i (v36_4 + 1))), (2, .int (q_i v36_4)), (3, .int (q_i y355)), (5, .int (q_i y355)), (0, .ref mo), (1, .int (q_i a0))]) cx dX12_bestShift_71 hl (k := 5) rfl (by decide) rfl (fun ls hl => ?_)
          refine lv_goto (tgt := 36) cx.1 cx.2.1 dX12_bestShift_74 (by decide) ?_
          exact ih36 f354 v36_4 (by omega) (by omega) y355 (by omega) (by omega) (v36_4 + 1) (by omega) (by omega) x363 (by omega) (by omega) x364 (by omega) (by omega) (by omega) (by omega) ex363 ex364 z359 z361 z362 g360 (by omega) H locs hB ls (lv_sub hl [4, 5, 1, 2, 0] rfl)
        · refine lv_goto (tgt := 71) cx.1 cx.2.1 dX12_bestShift_62 (by decide) ?_
          refine q_iinc (lv' := [(4, .int (q_i (v36_4 + 1))), (5, .int (q_i y355)), (0, .ref mo), (1, .int (q_i a0)), (2, .int (q_i v36_2)), (3, .int (q_i v36_3))]) cx dX12_bestShift_71 hl (k := 5) rfl (by decide) rfl (fun ls hl => ?_)
          refine lv_goto (tgt := 36) cx.1 cx.2.1 dX12_bestShift_74 (by decide) ?_
          exact ih36 f354 v36_2 (by omega) (by omega) v36_3 (by omega) (by omega) (v36_4 + 1) (by omega) (by omega) x363 (by omega) (by omega) x364 (by omega) (by omega) (by omega) (by omega) ex363 ex364 z359 z361 z362 g360 (by omega) H locs hB ls (lv_sub hl [2, 3, 4, 5, 0] rfl)
  obtain ⟨H, hH⟩ : ∃ H : Heap, H = s.heap := ⟨_, rfl⟩
  obtain ⟨locs, hlocs⟩ : ∃ z : List Loc, z = [] := ⟨_, rfl⟩
  rw [← hH, ← hlocs] at hB
  rw [← hH, ← hlocs]
  refine q_ald_n cx dX12_bestShift_0 rfl (lv_at hl 0 rfl) ?_
  refine q_ald_n cx dX12_bestShift_1 rfl (lv_at hl 0 rfl) ?_
  refine q_ild_n cx dX12_bestShift_2 rfl (lv_at hl 1 rfl) ?_
  refine q_cVi (As := [.int (q_i a0)]) (rest := [.ref mo]) cx hB (fun _ h => h) hN hmo kmo (by decide) rfl (r_isNode l g hN hB.2.1 mo hmo kmo a0 (by omega) (by omega) sr hsr ksr hr0) q_cX12_355 q_dX12_isNode (by decide) rfl rfl hl.1 rfl (Nat.le_of_ble_eq_true rfl) dX12_bestShift_3 (fun y367 H locs f366 ry367 h368 hF hB => ?_)
  rcases h368 with h369 | h370
  · obtain ⟨rfl, qy367, t371, t372⟩ := h369
    subst qy367
    refine q_cVi (As := [.int (q_i 1)]) (rest := []) cx hB (fun _ h => h) hN hmo kmo (by decide) rfl (r_goes1 l g hN hB.2.1 mo hmo kmo 1 (by decide) (by decide)) q_cX12_85 q_dX12_goes (by decide) rfl rfl hl.1 rfl (Nat.le_of_ble_eq_true rfl) dX12_bestShift_6 (fun y374 H locs f373 ry374 h375 hF hB => ?_)
    obtain ⟨qy374, z376⟩ := h375
    have z377 : q_is (q_z f373 sr 3) xt := Eq.trans (hF.z hsr (by rw [ksr]; rfl)) hf0
    have z378 : q_is (q_z f373 sr 4) xm := Eq.trans (hF.z hsr (by rw [ksr]; rfl)) hf1
    have z379 : q_is (q_z f373 sr 0) xc := Eq.trans (hF.z hsr (by rw [ksr]; rfl)) hf2
    have z380 : q_ir (q_r f373 mo 13) sr := Eq.trans (hF.r hmo (by rw [kmo]; rfl)) hr0
    have z381 : q_ir (q_r f373 mo 16) aw := Eq.trans (hF.r hmo (by rw [kmo]; rfl)) hr1
    have g382 : q_gr f373 sr := q_gr_fr hgr (fun i9 _ => hF.z hsr (by rw [ksr]; rfl))
    subst qy374
    refine q_ifne (tgt := 14) cx ⟨by decide, by decide⟩ dX12_bestShift_9 (by decide) (fun c383 => ?_) (fun c383 => ?_)
    · refine q_ald_n cx dX12_bestShift_14 rfl (lv_at hl 0 rfl) ?_
      refine q_ild_n cx dX12_bestShift_15 rfl (lv_at hl 1 rfl) ?_
      refine q_cVi (As := [.int (q_i a0)]) (rest := []) cx hB (fun _ h => h) hN hmo kmo (by decide) rfl (r_neighbours l g hN hB.2.1 mo hmo kmo a0 (by omega) (by omega) sr hsr ksr z380 g382) q_cX12_265 q_dX12_neighbours (by decide) rfl rfl hl.1 rfl (Nat.le_of_ble_eq_true rfl) dX12_bestShift_16 (fun y385 H locs f384 ry385 h386 hF hB => ?_)
      obtain rfl := h386
      refine q_ifne (tgt := 24) cx ⟨by omega, by omega⟩ dX12_bestShift_19 (by decide) (fun c387 => ?_) (fun c387 => ?_)
      · refine q_iconst cx dX12_bestShift_24 ?_
        refine lv_istore_n (lv' := [(2, .int (q_i 0)), (0, .ref mo), (1, .int (q_i a0))]) cx.1 cx.2.1 dX12_bestShift_25 rfl hl (by decide) rfl (fun ls hl => ?_)
        refine q_ald_n cx dX12_bestShift_26 rfl (lv_at hl 1 rfl) ?_
        refine q_ild_n cx dX12_bestShift_27 rfl (lv_at hl 2 rfl) ?_
        refine q_iconst cx dX12_bestShift_28 ?_
        refine q_cVi (As := [.int (q_i a0), .int (q_i 0)]) (rest := []) cx hB (fun _ h => h) hN hmo kmo (by decide) rfl (r_byShift l g hN hB.2.1 mo hmo kmo a0 (by omega) (by omega) 0 (by decide) (by decide) sr hsr ksr aw haw kaw xt (by omega) (by omega) xm (by omega) (by omega) xc (by omega) (by omega) z377 z378 z379 z380 z381 g382) q_cX12_433 q_dX12_byShift (by decide) rfl rfl hl.1 rfl (Nat.le_of_ble_eq_true rfl) dX12_bestShift_29 (fun y389 H locs f388 ry389 h390 hF hB => ?_)
        obtain ⟨ly389, uy389, lz391, uz391, lz392, uz392, z393, g394⟩ := h390
        have z395 : q_is (q_z f388 mo 0) 0 := Eq.trans (hF.z hmo (by rw [kmo]; rfl)) z376
        have z396 : q_ir (q_r f388 mo 13) sr := Eq.trans (hF.r hmo (by rw [kmo]; rfl)) z380
        have z397 : q_ir (q_r f388 mo 16) aw := Eq.trans (hF.r hmo (by rw [kmo]; rfl)) z381
        obtain ⟨x398, ex398⟩ : ∃ zz, q_is (q_z f388 sr 3) zz := ⟨_, q_isr _⟩
        obtain ⟨lx398, ux398⟩ := q_isb ex398 ⟨lz391, uz391⟩
        obtain ⟨x399, ex399⟩ : ∃ zz, q_is (q_z f388 sr 4) zz := ⟨_, q_isr _⟩
        obtain ⟨lx399, ux399⟩ := q_isb ex399 ⟨lz392, uz392⟩
        refine lv_istore_n (lv' := [(3, .int (q_i y389)), (2, .int (q_i 0)), (0, .ref mo), (1, .int (q_i a0))]) cx.1 cx.2.1 dX12_bestShift_32 rfl hl (by decide) rfl (fun ls hl => ?_)
        refine q_iconst cx dX12_bestShift_33 ?_
        refine lv_istore (lv' := [(4, .int (q_i 1)), (3, .int (q_i y389)), (2, .int (q_i 0)), (0, .ref mo), (1, .int (q_i a0))]) cx.1 cx.2.1 dX12_bestShift_34 hl (by decide) rfl (fun ls hl => ?_)
        exact J36 ((Int.toNat (2147483647 - 1)) + 1) f388 0 (by decide) (by decide) y389 (by omega) (by omega) 1 (by decide) (by decide) x398 (by omega) (by omega) x399 (by omega) (by omega) (by omega) (by omega) ex398 ex399 z393 z396 z397 g394 (Nat.lt_succ_self _) H locs hB ls (lv_sub hl [3, 4, 2, 1, 0] rfl)
      · refine q_iconst cx dX12_bestShift_22 ?_
        refine q_iret cx hr hlk hB dX12_bestShift_23 ⟨by decide, by decide⟩ ?_
        exact ⟨(by decide), (by decide), (q_isl z377 (by omega)), (q_isu z377 (by omega)), (q_isl z378 (by omega)), (q_isu z378 (by omega)), z379, g382⟩
    · exact absurd c383 (by omega)
  · obtain ⟨rfl, qy367⟩ := h370
    subst qy367
    refine q_cVi (As := [.int (q_i 0)]) (rest := []) cx hB (fun _ h => h) hN hmo kmo (by decide) rfl (r_goes0 l g hN hB.2.1 mo hmo kmo 0 (by decide) (by decide)) q_cX12_85 q_dX12_goes (by decide) rfl rfl hl.1 rfl (Nat.le_of_ble_eq_true rfl) dX12_bestShift_6 (fun y401 H locs f400 ry401 h402 hF hB => ?_)
    obtain ⟨qy401, z403⟩ := h402
    have z404 : q_is (q_z f400 sr 3) xt := Eq.trans (hF.z hsr (by rw [ksr]; rfl)) hf0
    have z405 : q_is (q_z f400 sr 4) xm := Eq.trans (hF.z hsr (by rw [ksr]; rfl)) hf1
    have z406 : q_is (q_z f400 sr 0) xc := Eq.trans (hF.z hsr (by rw [ksr]; rfl)) hf2
    have z407 : q_ir (q_r f400 mo 13) sr := Eq.trans (hF.r hmo (by rw [kmo]; rfl)) hr0
    have z408 : q_ir (q_r f400 mo 16) aw := Eq.trans (hF.r hmo (by rw [kmo]; rfl)) hr1
    have g409 : q_gr f400 sr := q_gr_fr hgr (fun i9 _ => hF.z hsr (by rw [ksr]; rfl))
    subst qy401
    refine q_ifne (tgt := 14) cx ⟨by decide, by decide⟩ dX12_bestShift_9 (by decide) (fun c410 => ?_) (fun c410 => ?_)
    · exact absurd c410 (by omega)
    · refine q_iconst cx dX12_bestShift_12 ?_
      refine q_iret cx hr hlk hB dX12_bestShift_13 ⟨by decide, by decide⟩ ?_
      exact ⟨(by decide), (by decide), (q_isl z404 (by omega)), (q_isu z404 (by omega)), (q_isl z405 (by omega)), (q_isu z405 (by omega)), z406, g409⟩
set_option maxHeartbeats 4000000 in
set_option maxRecDepth 100000 in
theorem r_watches (l : Launch) (g : q_G) {K : Nat → Nat} {L : List Nat} (hN : L.Nodup) {f : Nat → va_E} (hT : q_Ty g K L f) (mo : Nat) (hmo : mo ∈ L) (kmo : K mo = 12) (a0 : Int) (la0 : 0 ≤ a0) (ua0 : a0 ≤ 9) (b0 : Int) (lb0 : 0 ≤ b0) (ub0 : b0 ≤ 59) (c0 : Int) (lc0 : 0 ≤ c0) (uc0 : c0 ≤ 1) (sr : Nat) (hsr : sr ∈ L) (ksr : K sr = 151) (hr0 : q_ir (q_r f mo 13) sr) (hgr : q_gr f sr) : q_Ct l g K L yX12_watches cX12_watches 6 none 1 21 [.ref mo, .int (q_i a0), .int (q_i b0), .int (q_i c0)] f [(151, 16, 89)] (q_Pv (fun (f1 : Nat → va_E) => q_gr f1 sr)) := by
  refine q_ofb (by decide +kernel) hN hT (Nat.le_of_ble_eq_true rfl) ?_
  intro p e s m below meth c ls cx hr hlk hB hl
  have hl : lv_has ls 6 [(0, .ref mo), (1, .int (q_i a0)), (2, .int (q_i b0)), (3, .int (q_i c0))] := hl
  obtain ⟨H, hH⟩ : ∃ H : Heap, H = s.heap := ⟨_, rfl⟩
  obtain ⟨locs, hlocs⟩ : ∃ z : List Loc, z = [] := ⟨_, rfl⟩
  rw [← hH, ← hlocs] at hB
  rw [← hH, ← hlocs]
  refine q_ild_n cx dX12_watches_0 rfl (lv_at hl 1 rfl) ?_
  refine q_bipush cx dX12_watches_1 rfl ?_
  refine q_ild_n cx dX12_watches_3 rfl (lv_at hl 2 rfl) ?_
  refine q_bipush cx dX12_watches_4 rfl ?_
  refine q_idiv cx ⟨by omega, by omega⟩ ⟨by decide, by decide⟩ (by omega) dX12_watches_6 ?_
  obtain ⟨y26, ey26⟩ : ∃ zz, Int.tdiv b0 30 = zz := ⟨_, rfl⟩
  obtain ⟨ly26, my26, uy26⟩ := q_tdb (x := b0) (y := 30) (by omega) (by decide)
  rw [ey26] at ly26 my26 uy26
  rw [ey26]
  refine q_iadd cx dX12_watches_7 ?_
  refine q_cSi (As := [.int (q_i a0), .int (q_i (6 + y26))]) (rest := []) cx hB (fun _ h => h) hN (r_nodeCell l g hN hB.2.1 a0 (by omega) (by omega) (6 + y26) (by omega) (by omega)) q_cX12_172 q_dX12_nodeCell (by decide) rfl rfl hl.1 rfl (Nat.le_of_ble_eq_true rfl) dX12_watches_8 (fun y28 H locs f27 ry28 h29 hF hB => ?_)
  obtain ⟨rfl, qy28⟩ := h29
  refine lv_istore (lv' := [(4, .int (q_i y28)), (0, .ref mo), (1, .int (q_i a0)), (2, .int (q_i b0)), (3, .int (q_i c0))]) cx.1 cx.2.1 dX12_watches_11 hl (by decide) rfl (fun ls hl => ?_)
  refine q_iconst cx dX12_watches_13 ?_
  refine q_ild_n cx dX12_watches_14 rfl (lv_at hl 3 rfl) ?_
  refine q_bipush cx dX12_watches_15 rfl ?_
  refine q_irem cx ⟨by omega, by omega⟩ ⟨by decide, by decide⟩ (by omega) dX12_watches_17 (fun y30 ey30 ay30 by30 ny30 => ?_)
  refine q_ishl cx dX12_watches_18 (fun y31 ry31 ey31 => ?_)
  refine lv_istore (lv' := [(5, .int (q_i y31)), (4, .int (q_i y28)), (0, .ref mo), (1, .int (q_i a0)), (2, .int (q_i b0)), (3, .int (q_i c0))]) cx.1 cx.2.1 dX12_watches_19 hl (by decide) rfl (fun ls hl => ?_)
  refine q_ald_n cx dX12_watches_21 rfl (lv_at hl 2 rfl) ?_
  refine q_gX12_20 cx hB hmo kmo hr0 dX12_watches_22 (fun hb32 kb32 => ?_)
  refine lv_iload cx.1 cx.2.1 dX12_watches_25 (lv_at hl 1 rfl) ?_
  refine q_ild_n cx dX12_watches_27 rfl (lv_at hl 5 rfl) ?_
  refine q_ifeq (tgt := 44) cx ⟨by omega, by omega⟩ dX12_watches_28 (by decide) (fun c33 => ?_) (fun c33 => ?_)
  · refine q_ald_n cx dX12_watches_44 rfl (lv_at hl 2 rfl) ?_
    refine q_gX12_20 cx hB hmo kmo hr0 dX12_watches_45 (fun hb34 kb34 => ?_)
    refine lv_iload cx.1 cx.2.1 dX12_watches_48 (lv_at hl 1 rfl) ?_
    obtain ⟨x35, ex35⟩ : ∃ zz, q_is (q_z f sr (Int.toNat y28)) zz := ⟨_, q_isr _⟩
    refine q_sald cx hB hsr ksr (by omega) (by omega) ex35 dX12_watches_50 (fun rx35 => ?_)
    refine lv_iload cx.1 cx.2.1 dX12_watches_51 (lv_at hl 0 rfl) ?_
    refine q_iconst cx dX12_watches_53 ?_
    refine q_ixor cx dX12_watches_54 (fun y37 ry37 ey37 => ?_)
    refine q_iand cx dX12_watches_55 (fun y38 ry38 ey38 => ?_)
    refine q_sast cx hB hsr ksr (by omega) (by omega) ⟨by omega, by omega⟩ (q_inWi (lo := 16) (hi := 89) (by decide) (by omega) (by omega)) dX12_watches_56 (fun H locs f39 ef39 z40 hB => ?_)
    have z41 : q_ir (q_r f39 mo 13) sr := by rw [ef39, q_setr (Or.inl (fun q => by rw [q, ksr] at kmo; exact absurd kmo (by decide)))]; exact hr0
    have g42 : q_gr f39 sr := q_gr_put hgr ef39 z40 (q_egw (n := a0) (w := y26) (by omega) (by omega) (by omega) (by omega) (by omega)) (by omega) (by omega)
    refine q_vret cx hr hlk hB dX12_watches_57 ?_
    exact g42
  · refine q_ald_n cx dX12_watches_31 rfl (lv_at hl 2 rfl) ?_
    refine q_gX12_20 cx hB hmo kmo hr0 dX12_watches_32 (fun hb43 kb43 => ?_)
    refine lv_iload cx.1 cx.2.1 dX12_watches_35 (lv_at hl 1 rfl) ?_
    obtain ⟨x44, ex44⟩ : ∃ zz, q_is (q_z f sr (Int.toNat y28)) zz := ⟨_, q_isr _⟩
    refine q_sald cx hB hsr ksr (by omega) (by omega) ex44 dX12_watches_37 (fun rx44 => ?_)
    refine lv_iload cx.1 cx.2.1 dX12_watches_38 (lv_at hl 0 rfl) ?_
    refine q_ior cx dX12_watches_40 (fun y46 ry46 ey46 => ?_)
    refine lv_goto (tgt := 56) cx.1 cx.2.1 dX12_watches_41 (by decide) ?_
    refine q_sast cx hB hsr ksr (by omega) (by omega) ⟨by omega, by omega⟩ (q_inWi (lo := 16) (hi := 89) (by decide) (by omega) (by omega)) dX12_watches_56 (fun H locs f47 ef47 z48 hB => ?_)
    have z49 : q_ir (q_r f47 mo 13) sr := by rw [ef47, q_setr (Or.inl (fun q => by rw [q, ksr] at kmo; exact absurd kmo (by decide)))]; exact hr0
    have g50 : q_gr f47 sr := q_gr_put hgr ef47 z48 (q_egw (n := a0) (w := y26) (by omega) (by omega) (by omega) (by omega) (by omega)) (by omega) (by omega)
    refine q_vret cx hr hlk hB dX12_watches_57 ?_
    exact g50
set_option maxHeartbeats 4000000 in
set_option maxRecDepth 100000 in
theorem r_byWatch (l : Launch) (g : q_G) {K : Nat → Nat} {L : List Nat} (hN : L.Nodup) {f : Nat → va_E} (hT : q_Ty g K L f) (mo : Nat) (hmo : mo ∈ L) (kmo : K mo = 12) (a0 : Int) (la0 : 0 ≤ a0) (ua0 : a0 ≤ 9) (b0 : Int) (lb0 : 0 ≤ b0) (ub0 : b0 ≤ 9) (c0 : Int) (lc0 : 0 ≤ c0) (uc0 : c0 ≤ 59) (sr : Nat) (hsr : sr ∈ L) (ksr : K sr = 151) (hp : Nat) (hhp : hp ∈ L) (khp : K hp = 159) (dy : Nat) (hdy : dy ∈ L) (kdy : K dy = 160) (aw : Nat) (haw : aw ∈ L) (kaw : K aw = 154) (xt : Int) (lxt : 0 ≤ xt) (uxt : xt ≤ 9999) (xm : Int) (lxm : 0 ≤ xm) (uxm : xm ≤ 60) (xc : Int) (lxc : 0 ≤ xc) (uxc : xc ≤ 10) (hf0 : q_is (q_z f sr 3) xt) (hf1 : q_is (q_z f sr 4) xm) (hf2 : q_is (q_z f sr 0) xc) (hr0 : q_ir (q_r f mo 13) sr) (hr1 : q_ir (q_r f mo 24) hp) (hr2 : q_ir (q_r f mo 25) dy) (hr3 : q_ir (q_r f mo 16) aw) (hgr : q_gr f sr) : q_Ct l g K L yX12_byWatch cX12_byWatch 4 (some .int) 11 252 [.ref mo, .int (q_i a0), .int (q_i b0), .int (q_i c0)] f [(12, 26, 28), (151, 0, 657), (154, 0, 657), (159, 0, 9), (160, 0, 9)] (q_Pi (fun (z : Int) (f1 : Nat → va_E) => (-1) ≤ z ∧ z ≤ 200 ∧ 0 ≤ q_z f1 sr 3 ∧ q_z f1 sr 3 ≤ 9999 ∧ 0 ≤ q_z f1 sr 4 ∧ q_z f1 sr 4 ≤ 60 ∧ q_is (q_z f1 sr 0) xc ∧ q_gr f1 sr)) := by
  refine q_ofb (by decide +kernel) hN hT (Nat.le_of_ble_eq_true rfl) ?_
  intro p e s m below meth c ls cx hr hlk hB hl
  have hl : lv_has ls 4 [(0, .ref mo), (1, .int (q_i a0)), (2, .int (q_i b0)), (3, .int (q_i c0))] := hl
  obtain ⟨H, hH⟩ : ∃ H : Heap, H = s.heap := ⟨_, rfl⟩
  obtain ⟨locs, hlocs⟩ : ∃ z : List Loc, z = [] := ⟨_, rfl⟩
  rw [← hH, ← hlocs] at hB
  rw [← hH, ← hlocs]
  refine q_ald_n cx dX12_byWatch_0 rfl (lv_at hl 0 rfl) ?_
  refine q_cVv (As := []) (rest := []) cx hB (fun _ h => h) hN hmo kmo (by decide) rfl (r_leaves l g hN hB.2.1 mo hmo kmo sr hsr ksr aw haw kaw xt (by omega) (by omega) xm (by omega) (by omega) xc (by omega) (by omega) hf0 hf1 hf2 hr0 hr3 hgr) q_cX12_405 q_dX12_leaves (by decide) rfl rfl hl.1 rfl (Nat.le_of_ble_eq_true rfl) dX12_byWatch_1 (fun H locs f43 h45 hF hB => ?_)
  obtain ⟨lz46, uz46, z47⟩ := h45
  have z48 : q_is (q_z f43 sr 3) xt := Eq.trans (hF.z hsr (by rw [ksr]; rfl)) hf0
  have z49 : q_is (q_z f43 sr 4) xm := Eq.trans (hF.z hsr (by rw [ksr]; rfl)) hf1
  have z50 : q_is (q_z f43 sr 0) xc := Eq.trans (hF.z hsr (by rw [ksr]; rfl)) hf2
  have z51 : q_ir (q_r f43 mo 13) sr := Eq.trans (hF.r hmo (by rw [kmo]; rfl)) hr0
  have z52 : q_ir (q_r f43 mo 24) hp := Eq.trans (hF.r hmo (by rw [kmo]; rfl)) hr1
  have z53 : q_ir (q_r f43 mo 25) dy := Eq.trans (hF.r hmo (by rw [kmo]; rfl)) hr2
  have z54 : q_ir (q_r f43 mo 16) aw := Eq.trans (hF.r hmo (by rw [kmo]; rfl)) hr3
  have g55 : q_gr f43 sr := q_gr_fr hgr (fun i9 _ => hF.z hsr (by rw [ksr]; rfl))
  obtain ⟨x56, ex56⟩ : ∃ zz, q_is (q_z f43 aw 2) zz := ⟨_, q_isr _⟩
  obtain ⟨lx56, ux56⟩ := q_isb ex56 ⟨lz46, uz46⟩
  refine q_ald_n cx dX12_byWatch_4 rfl (lv_at hl 0 rfl) ?_
  refine q_ild_n cx dX12_byWatch_5 rfl (lv_at hl 1 rfl) ?_
  refine q_ild_n cx dX12_byWatch_6 rfl (lv_at hl 3 rfl) ?_
  refine q_iconst cx dX12_byWatch_7 ?_
  refine q_cVv (As := [.int (q_i a0), .int (q_i c0), .int (q_i 1)]) (rest := []) cx hB (fun _ h => h) hN hmo kmo (by decide) rfl (r_watches l g hN hB.2.1 mo hmo kmo a0 (by omega) (by omega) c0 (by omega) (by omega) 1 (by decide) (by decide) sr hsr ksr z51 g55) q_cX12_436 q_dX12_watches (by decide) rfl rfl hl.1 rfl (Nat.le_of_ble_eq_true rfl) dX12_byWatch_8 (fun H locs f57 h59 hF hB => ?_)
  have g60 := h59
  have z61 : q_is (q_z f57 sr 3) xt := Eq.trans (hF.z hsr (by rw [ksr]; rfl)) z48
  have z62 : q_is (q_z f57 sr 4) xm := Eq.trans (hF.z hsr (by rw [ksr]; rfl)) z49
  have z63 : q_is (q_z f57 sr 0) xc := Eq.trans (hF.z hsr (by rw [ksr]; rfl)) z50
  have z64 : q_is (q_z f57 aw 2) x56 := Eq.trans (hF.z haw (by rw [kaw]; rfl)) ex56
  have z65 : q_is (q_z f57 aw 0) xc := Eq.trans (hF.z haw (by rw [kaw]; rfl)) z47
  have z66 : q_ir (q_r f57 mo 13) sr := Eq.trans (hF.r hmo (by rw [kmo]; rfl)) z51
  have z67 : q_ir (q_r f57 mo 24) hp := Eq.trans (hF.r hmo (by rw [kmo]; rfl)) z52
  have z68 : q_ir (q_r f57 mo 25) dy := Eq.trans (hF.r hmo (by rw [kmo]; rfl)) z53
  have z69 : q_ir (q_r f57 mo 16) aw := Eq.trans (hF.r hmo (by rw [kmo]; rfl)) z54
  refine q_ald_n cx dX12_byWatch_11 rfl (lv_at hl 0 rfl) ?_
  refine q_ild_n cx dX12_byWatch_12 rfl (lv_at hl 1 rfl) ?_
  refine q_ild_n cx dX12_byWatch_13 rfl (lv_at hl 2 rfl) ?_
  refine q_iconst cx dX12_byWatch_14 ?_
  refine q_cVi (As := [.int (q_i a0), .int (q_i b0), .int (q_i 0)]) (rest := []) cx hB (fun _ h => h) hN hmo kmo (by decide) rfl (r_byMessage l g hN hB.2.1 mo hmo kmo a0 (by omega) (by omega) b0 (by omega) (by omega) 0 (by decide) (by decide) sr hsr ksr hp hhp khp dy hdy kdy aw haw kaw xt (by omega) (by omega) xm (by omega) (by omega) xc (by omega) (by omega) x56 (by omega) (by omega) z61 z62 z63 z64 z65 z66 z67 z68 z69 g60) q_cX12_421 q_dX12_byMessage (by decide) rfl rfl hl.1 rfl (Nat.le_of_ble_eq_true rfl) dX12_byWatch_15 (fun y71 H locs f70 ry71 h72 hF hB => ?_)
  obtain ⟨ly71, uy71, lz73, uz73, lz74, uz74, z75, g76⟩ := h72
  have z77 : q_is (q_z f70 aw 2) x56 := Eq.trans (hF.z haw (by rw [kaw]; rfl)) z64
  have z78 : q_is (q_z f70 aw 0) xc := Eq.trans (hF.z haw (by rw [kaw]; rfl)) z65
  have z79 : q_ir (q_r f70 mo 13) sr := Eq.trans (hF.r hmo (by rw [kmo]; rfl)) z66
  have z80 : q_ir (q_r f70 mo 24) hp := Eq.trans (hF.r hmo (by rw [kmo]; rfl)) z67
  have z81 : q_ir (q_r f70 mo 25) dy := Eq.trans (hF.r hmo (by rw [kmo]; rfl)) z68
  have z82 : q_ir (q_r f70 mo 16) aw := Eq.trans (hF.r hmo (by rw [kmo]; rfl)) z69
  obtain ⟨x83, ex83⟩ : ∃ zz, q_is (q_z f70 sr 3) zz := ⟨_, q_isr _⟩
  obtain ⟨lx83, ux83⟩ := q_isb ex83 ⟨lz73, uz73⟩
  obtain ⟨x84, ex84⟩ : ∃ zz, q_is (q_z f70 sr 4) zz := ⟨_, q_isr _⟩
  obtain ⟨lx84, ux84⟩ := q_isb ex84 ⟨lz74, uz74⟩
  refine q_iret cx hr hlk hB dX12_byWatch_18 ⟨by omega, by omega⟩ ?_
  exact ⟨(by omega), (by omega), (q_isl ex83 (by omega)), (q_isu ex83 (by omega)), (q_isl ex84 (by omega)), (q_isu ex84 (by omega)), z75, g76⟩
