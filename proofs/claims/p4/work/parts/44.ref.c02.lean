set_option maxHeartbeats 4000000 in
set_option maxRecDepth 100000 in
theorem r_energyIn (l : Launch) (g : q_G) {K : Nat → Nat} {L : List Nat} (hN : L.Nodup) {f : Nat → va_E} (hT : q_Ty g K L f) (mo : Nat) (hmo : mo ∈ L) (kmo : K mo = 12) (a0 : Int) (la0 : (-2147483648) ≤ a0) (ua0 : a0 ≤ 2147483647) (b0 : Int) (lb0 : (-2147483648) ≤ b0) (ub0 : b0 ≤ 2147483647) (sr : Nat) (hsr : sr ∈ L) (ksr : K sr = 151) (hp : Nat) (hhp : hp ∈ L) (khp : K hp = 159) (dy : Nat) (hdy : dy ∈ L) (kdy : K dy = 160) (aw : Nat) (haw : aw ∈ L) (kaw : K aw = 154) (xt : Int) (lxt : 0 ≤ xt) (uxt : xt ≤ 9999) (xm : Int) (lxm : 0 ≤ xm) (uxm : xm ≤ 60) (hf0 : q_is (q_z f sr 3) xt) (hf1 : q_is (q_z f sr 4) xm) (hr0 : q_ir (q_r f mo 13) sr) (hr1 : q_ir (q_r f mo 24) hp) (hr2 : q_ir (q_r f mo 25) dy) (hr3 : q_ir (q_r f mo 16) aw) (hgr : q_gr f sr) : q_Ct l g K L yX12_energyIn cX12_energyIn 4 (some .int) 10 228 [.ref mo, .int (q_i a0), .int (q_i b0)] f [(12, 0, 0), (12, 26, 28), (151, 0, 657), (154, 0, 657), (159, 0, 9), (160, 0, 9)] (q_Pi (fun (z : Int) (f1 : Nat → va_E) => (-198) ≤ z ∧ z ≤ 9999 ∧ 0 ≤ q_z f1 sr 3 ∧ q_z f1 sr 3 ≤ 9999 ∧ 0 ≤ q_z f1 sr 4 ∧ q_z f1 sr 4 ≤ 60 ∧ q_gr f1 sr)) := by
  refine q_ofb (by decide +kernel) hN hT (Nat.le_of_ble_eq_true rfl) ?_
  intro p e s m below meth c ls cx hr hlk hB hl
  have hl : lv_has ls 4 [(0, .ref mo), (1, .int (q_i a0)), (2, .int (q_i b0))] := hl
  obtain ⟨H, hH⟩ : ∃ H : Heap, H = s.heap := ⟨_, rfl⟩
  obtain ⟨locs, hlocs⟩ : ∃ z : List Loc, z = [] := ⟨_, rfl⟩
  rw [← hH, ← hlocs] at hB
  rw [← hH, ← hlocs]
  refine q_ald_n cx dX12_energyIn_0 rfl (lv_at hl 0 rfl) ?_
  refine q_ald_n cx dX12_energyIn_1 rfl (lv_at hl 0 rfl) ?_
  refine q_ild_n cx dX12_energyIn_2 rfl (lv_at hl 1 rfl) ?_
  refine q_cVi (As := [.int (q_i a0)]) (rest := [.ref mo]) cx hB (fun _ h => h) hN hmo kmo (by decide) rfl (r_isNode l g hN hB.2.1 mo hmo kmo a0 (by omega) (by omega) sr hsr ksr hr0) q_cX12_355 q_dX12_isNode (by decide) rfl rfl hl.1 rfl (Nat.le_of_ble_eq_true rfl) dX12_energyIn_3 (fun y117 H locs f116 ry117 h118 hF hB => ?_)
  rcases h118 with h119 | h120
  · obtain ⟨rfl, qy117, t121, t122⟩ := h119
    subst qy117
    refine q_ild_n cx dX12_energyIn_6 rfl (lv_at hl 2 rfl) ?_
    refine q_i2l cx ⟨by omega, by omega⟩ dX12_energyIn_7 ?_
    refine q_lconst (z := 0) cx (by decide) dX12_energyIn_8 ?_
    refine lv_ldc2 (v := q_l 200) cx.1 cx.2.1 cx.2.2.2.1 (cx.2.2.2.2 _ q_h2119) dX12_energyIn_9 ?_
    refine q_cSi (As := [.long (q_l b0), .long (q_l 0), .long (q_l 200)]) (rest := [.int (q_i 1), .ref mo]) cx hB (fun _ h => h) hN (r_isIn l g hN hB.2.1 b0 (by omega) (by omega) 0 (by decide) (by decide) 200 (by decide) (by decide)) q_cX12_93 q_dX12_isIn (by decide) rfl rfl hl.1 rfl (Nat.le_of_ble_eq_true rfl) dX12_energyIn_12 (fun y124 H locs f123 ry124 h125 hF hB => ?_)
    rcases h125 with h126 | h127
    · obtain ⟨rfl, qy124, t128, t129⟩ := h126
      subst qy124
      refine q_cVi (As := [.int (q_i 1), .int (q_i 1)]) (rest := []) cx hB (fun _ h => h) hN hmo kmo (by decide) rfl (r_goesBoth2 l g hN hB.2.1 mo hmo kmo 1 (by decide) (by decide) 1 (by decide) (by decide)) q_cX12_358 q_dX12_goesBoth (by decide) rfl rfl hl.1 rfl (Nat.le_of_ble_eq_true rfl) dX12_energyIn_15 (fun y131 H locs f130 ry131 h132 hF hB => ?_)
      obtain ⟨qy131, z133⟩ := h132
      have z134 : q_is (q_z f130 sr 3) xt := Eq.trans (hF.z hsr (by rw [ksr]; rfl)) hf0
      have z135 : q_is (q_z f130 sr 4) xm := Eq.trans (hF.z hsr (by rw [ksr]; rfl)) hf1
      have z136 : q_ir (q_r f130 mo 13) sr := Eq.trans (hF.r hmo (by rw [kmo]; rfl)) hr0
      have z137 : q_ir (q_r f130 mo 24) hp := Eq.trans (hF.r hmo (by rw [kmo]; rfl)) hr1
      have z138 : q_ir (q_r f130 mo 25) dy := Eq.trans (hF.r hmo (by rw [kmo]; rfl)) hr2
      have z139 : q_ir (q_r f130 mo 16) aw := Eq.trans (hF.r hmo (by rw [kmo]; rfl)) hr3
      have g140 : q_gr f130 sr := q_gr_fr hgr (fun i9 _ => hF.z hsr (by rw [ksr]; rfl))
      subst qy131
      refine q_ifne (tgt := 23) cx ⟨by decide, by decide⟩ dX12_energyIn_18 (by decide) (fun c141 => ?_) (fun c141 => ?_)
      · refine q_ald_n cx dX12_energyIn_23 rfl (lv_at hl 0 rfl) ?_
        refine q_cVv (As := []) (rest := []) cx hB (fun _ h => h) hN hmo kmo (by decide) rfl (r_leaves l g hN hB.2.1 mo hmo kmo sr hsr ksr aw haw kaw xt (by omega) (by omega) xm (by omega) (by omega) z134 z135 z136 z139 g140) q_cX12_405 q_dX12_leaves (by decide) rfl rfl hl.1 rfl (Nat.le_of_ble_eq_true rfl) dX12_energyIn_24 (fun H locs f142 h144 hF hB => ?_)
        obtain ⟨lz145, uz145⟩ := h144
        have z146 : q_is (q_z f142 sr 3) xt := Eq.trans (hF.z hsr (by rw [ksr]; rfl)) z134
        have z147 : q_is (q_z f142 sr 4) xm := Eq.trans (hF.z hsr (by rw [ksr]; rfl)) z135
        have z148 : q_is (q_z f142 mo 0) 0 := Eq.trans (hF.z hmo (by rw [kmo]; rfl)) z133
        have z149 : q_ir (q_r f142 mo 13) sr := Eq.trans (hF.r hmo (by rw [kmo]; rfl)) z136
        have z150 : q_ir (q_r f142 mo 24) hp := Eq.trans (hF.r hmo (by rw [kmo]; rfl)) z137
        have z151 : q_ir (q_r f142 mo 25) dy := Eq.trans (hF.r hmo (by rw [kmo]; rfl)) z138
        have z152 : q_ir (q_r f142 mo 16) aw := Eq.trans (hF.r hmo (by rw [kmo]; rfl)) z139
        have g153 : q_gr f142 sr := q_gr_fr g140 (fun i9 _ => hF.z hsr (by rw [ksr]; rfl))
        obtain ⟨x154, ex154⟩ : ∃ zz, q_is (q_z f142 aw 2) zz := ⟨_, q_isr _⟩
        obtain ⟨lx154, ux154⟩ := q_isb ex154 ⟨lz145, uz145⟩
        refine q_ald_n cx dX12_energyIn_27 rfl (lv_at hl 0 rfl) ?_
        refine q_ild_n cx dX12_energyIn_28 rfl (lv_at hl 2 rfl) ?_
        refine q_cVi (As := [.int (q_i b0)]) (rest := []) cx hB (fun _ h => h) hN hmo kmo (by decide) rfl (r_ticksOn l g hN hB.2.1 mo hmo kmo b0 (by omega) (by omega) sr hsr ksr hp hhp khp dy hdy kdy xt (by omega) (by omega) xm (by omega) (by omega) z146 z147 z149 z150 z151 g153) q_cX12_427 q_dX12_ticksOn (by decide) rfl rfl hl.1 rfl (Nat.le_of_ble_eq_true rfl) dX12_energyIn_29 (fun y156 H locs f155 ry156 h157 hF hB => ?_)
        obtain ⟨z158, z159, g160⟩ := h157
        have z161 : q_is (q_z f155 sr 4) xm := Eq.trans (hF.z hsr (by rw [ksr]; rfl)) z147
        have z162 : q_is (q_z f155 mo 0) 0 := Eq.trans (hF.z hmo (by rw [kmo]; rfl)) z148
        have z163 : q_is (q_z f155 aw 2) x154 := Eq.trans (hF.z haw (by rw [kaw]; rfl)) ex154
        have z164 : q_ir (q_r f155 mo 13) sr := Eq.trans (hF.r hmo (by rw [kmo]; rfl)) z149
        have z165 : q_ir (q_r f155 mo 24) hp := Eq.trans (hF.r hmo (by rw [kmo]; rfl)) z150
        have z166 : q_ir (q_r f155 mo 25) dy := Eq.trans (hF.r hmo (by rw [kmo]; rfl)) z151
        have z167 : q_ir (q_r f155 mo 16) aw := Eq.trans (hF.r hmo (by rw [kmo]; rfl)) z152
        refine lv_istore_n (lv' := [(3, .int (q_i y156)), (0, .ref mo), (1, .int (q_i a0)), (2, .int (q_i b0))]) cx.1 cx.2.1 dX12_energyIn_32 rfl hl (by decide) rfl (fun ls hl => ?_)
        refine q_ald_n cx dX12_energyIn_33 rfl (lv_at hl 1 rfl) ?_
        refine q_ald_n cx dX12_energyIn_34 rfl (lv_at hl 1 rfl) ?_
        refine q_ild_n cx dX12_energyIn_35 rfl (lv_at hl 2 rfl) ?_
        refine q_iconst cx dX12_energyIn_36 ?_
        refine q_cVi (As := [.int (q_i a0), .int (q_i 2)]) (rest := [.ref mo]) cx hB (fun _ h => h) hN hmo kmo (by decide) rfl (r_ofNode2 l g hN hB.2.1 mo hmo kmo a0 (by omega) (by omega) 2 (by decide) (by decide) sr hsr ksr z164 g160) q_cX12_256 q_dX12_ofNode (by decide) rfl rfl hl.1 rfl (Nat.le_of_ble_eq_true rfl) dX12_energyIn_37 (fun y169 H locs f168 ry169 h170 hF hB => ?_)
        obtain ⟨rfl, ly169, uy169, t171⟩ := h170
        refine q_cVi (As := [.int (q_i y169)]) (rest := []) cx hB (fun _ h => h) hN hmo kmo (by decide) rfl (r_comesBack l g hN hB.2.1 mo hmo kmo y169 (by omega) (by omega) sr hsr ksr aw haw kaw x154 (by omega) (by omega) z163 z164 z167) q_cX12_411 q_dX12_comesBack (by decide) rfl rfl hl.1 rfl (Nat.le_of_ble_eq_true rfl) dX12_energyIn_40 (fun y173 H locs f172 ry173 h174 hF hB => ?_)
        obtain ⟨qy173, lz175, uz175, lz176, uz176, g177⟩ := h174
        have z178 : q_is (q_z f172 mo 0) 0 := Eq.trans (hF.z hmo (by rw [kmo]; rfl)) z162
        have z179 : q_is (q_z f172 aw 2) x154 := Eq.trans (hF.z haw (by rw [kaw]; rfl)) z163
        have z180 : q_ir (q_r f172 mo 13) sr := Eq.trans (hF.r hmo (by rw [kmo]; rfl)) z164
        have z181 : q_ir (q_r f172 mo 24) hp := Eq.trans (hF.r hmo (by rw [kmo]; rfl)) z165
        have z182 : q_ir (q_r f172 mo 25) dy := Eq.trans (hF.r hmo (by rw [kmo]; rfl)) z166
        have z183 : q_ir (q_r f172 mo 16) aw := Eq.trans (hF.r hmo (by rw [kmo]; rfl)) z167
        obtain ⟨x184, ex184⟩ : ∃ zz, q_is (q_z f172 sr 3) zz := ⟨_, q_isr _⟩
        obtain ⟨lx184, ux184⟩ := q_isb ex184 ⟨lz175, uz175⟩
        obtain ⟨x185, ex185⟩ : ∃ zz, q_is (q_z f172 sr 4) zz := ⟨_, q_isr _⟩
        obtain ⟨lx185, ux185⟩ := q_isb ex185 ⟨lz176, uz176⟩
        refine q_iret cx hr hlk hB dX12_energyIn_43 ⟨by omega, by omega⟩ ?_
        exact ⟨(by omega), (by omega), (q_isl ex184 (by omega)), (q_isu ex184 (by omega)), (q_isl ex185 (by omega)), (q_isu ex185 (by omega)), g177⟩
      · exact absurd c141 (by omega)
    · obtain ⟨rfl, qy124, t186⟩ := h127
      subst qy124
      refine q_cVi (As := [.int (q_i 1), .int (q_i 0)]) (rest := []) cx hB (fun _ h => h) hN hmo kmo (by decide) rfl (r_goesBoth1 l g hN hB.2.1 mo hmo kmo 1 (by decide) (by decide) 0 (by decide) (by decide)) q_cX12_358 q_dX12_goesBoth (by decide) rfl rfl hl.1 rfl (Nat.le_of_ble_eq_true rfl) dX12_energyIn_15 (fun y188 H locs f187 ry188 h189 hF hB => ?_)
      obtain ⟨qy188, z190⟩ := h189
      have z191 : q_is (q_z f187 sr 3) xt := Eq.trans (hF.z hsr (by rw [ksr]; rfl)) hf0
      have z192 : q_is (q_z f187 sr 4) xm := Eq.trans (hF.z hsr (by rw [ksr]; rfl)) hf1
      have z193 : q_ir (q_r f187 mo 13) sr := Eq.trans (hF.r hmo (by rw [kmo]; rfl)) hr0
      have z194 : q_ir (q_r f187 mo 24) hp := Eq.trans (hF.r hmo (by rw [kmo]; rfl)) hr1
      have z195 : q_ir (q_r f187 mo 25) dy := Eq.trans (hF.r hmo (by rw [kmo]; rfl)) hr2
      have z196 : q_ir (q_r f187 mo 16) aw := Eq.trans (hF.r hmo (by rw [kmo]; rfl)) hr3
      have g197 : q_gr f187 sr := q_gr_fr hgr (fun i9 _ => hF.z hsr (by rw [ksr]; rfl))
      subst qy188
      refine q_ifne (tgt := 23) cx ⟨by decide, by decide⟩ dX12_energyIn_18 (by decide) (fun c198 => ?_) (fun c198 => ?_)
      · exact absurd c198 (by omega)
      · refine q_iconst cx dX12_energyIn_21 ?_
        refine q_iret cx hr hlk hB dX12_energyIn_22 ⟨by decide, by decide⟩ ?_
        exact ⟨(by decide), (by decide), (q_isl z191 (by omega)), (q_isu z191 (by omega)), (q_isl z192 (by omega)), (q_isu z192 (by omega)), g197⟩
  · obtain ⟨rfl, qy117⟩ := h120
    subst qy117
    refine q_ild_n cx dX12_energyIn_6 rfl (lv_at hl 2 rfl) ?_
    refine q_i2l cx ⟨by omega, by omega⟩ dX12_energyIn_7 ?_
    refine q_lconst (z := 0) cx (by decide) dX12_energyIn_8 ?_
    refine lv_ldc2 (v := q_l 200) cx.1 cx.2.1 cx.2.2.2.1 (cx.2.2.2.2 _ q_h2119) dX12_energyIn_9 ?_
    refine q_cSi (As := [.long (q_l b0), .long (q_l 0), .long (q_l 200)]) (rest := [.int (q_i 0), .ref mo]) cx hB (fun _ h => h) hN (r_isIn l g hN hB.2.1 b0 (by omega) (by omega) 0 (by decide) (by decide) 200 (by decide) (by decide)) q_cX12_93 q_dX12_isIn (by decide) rfl rfl hl.1 rfl (Nat.le_of_ble_eq_true rfl) dX12_energyIn_12 (fun y200 H locs f199 ry200 h201 hF hB => ?_)
    rcases h201 with h202 | h203
    · obtain ⟨rfl, qy200, t204, t205⟩ := h202
      subst qy200
      refine q_cVi (As := [.int (q_i 0), .int (q_i 1)]) (rest := []) cx hB (fun _ h => h) hN hmo kmo (by decide) rfl (r_goesBoth0 l g hN hB.2.1 mo hmo kmo 0 (by decide) (by decide) 1 (by decide) (by decide)) q_cX12_358 q_dX12_goesBoth (by decide) rfl rfl hl.1 rfl (Nat.le_of_ble_eq_true rfl) dX12_energyIn_15 (fun y207 H locs f206 ry207 h208 hF hB => ?_)
      obtain ⟨qy207, z209⟩ := h208
      have z210 : q_is (q_z f206 sr 3) xt := Eq.trans (hF.z hsr (by rw [ksr]; rfl)) hf0
      have z211 : q_is (q_z f206 sr 4) xm := Eq.trans (hF.z hsr (by rw [ksr]; rfl)) hf1
      have z212 : q_ir (q_r f206 mo 13) sr := Eq.trans (hF.r hmo (by rw [kmo]; rfl)) hr0
      have z213 : q_ir (q_r f206 mo 24) hp := Eq.trans (hF.r hmo (by rw [kmo]; rfl)) hr1
      have z214 : q_ir (q_r f206 mo 25) dy := Eq.trans (hF.r hmo (by rw [kmo]; rfl)) hr2
      have z215 : q_ir (q_r f206 mo 16) aw := Eq.trans (hF.r hmo (by rw [kmo]; rfl)) hr3
      have g216 : q_gr f206 sr := q_gr_fr hgr (fun i9 _ => hF.z hsr (by rw [ksr]; rfl))
      subst qy207
      refine q_ifne (tgt := 23) cx ⟨by decide, by decide⟩ dX12_energyIn_18 (by decide) (fun c217 => ?_) (fun c217 => ?_)
      · exact absurd c217 (by omega)
      · refine q_iconst cx dX12_energyIn_21 ?_
        refine q_iret cx hr hlk hB dX12_energyIn_22 ⟨by decide, by decide⟩ ?_
        exact ⟨(by decide), (by decide), (q_isl z210 (by omega)), (q_isu z210 (by omega)), (q_isl z211 (by omega)), (q_isu z211 (by omega)), g216⟩
    · obtain ⟨rfl, qy200, t218⟩ := h203
      subst qy200
      refine q_cVi (As := [.int (q_i 0), .int (q_i 0)]) (rest := []) cx hB (fun _ h => h) hN hmo kmo (by decide) rfl (r_goesBoth0 l g hN hB.2.1 mo hmo kmo 0 (by decide) (by decide) 0 (by decide) (by decide)) q_cX12_358 q_dX12_goesBoth (by decide) rfl rfl hl.1 rfl (Nat.le_of_ble_eq_true rfl) dX12_energyIn_15 (fun y220 H locs f219 ry220 h221 hF hB => ?_)
      obtain ⟨qy220, z222⟩ := h221
      have z223 : q_is (q_z f219 sr 3) xt := Eq.trans (hF.z hsr (by rw [ksr]; rfl)) hf0
      have z224 : q_is (q_z f219 sr 4) xm := Eq.trans (hF.z hsr (by rw [ksr]; rfl)) hf1
      have z225 : q_ir (q_r f219 mo 13) sr := Eq.trans (hF.r hmo (by rw [kmo]; rfl)) hr0
      have z226 : q_ir (q_r f219 mo 24) hp := Eq.trans (hF.r hmo (by rw [kmo]; rfl)) hr1
      have z227 : q_ir (q_r f219 mo 25) dy := Eq.trans (hF.r hmo (by rw [kmo]; rfl)) hr2
      have z228 : q_ir (q_r f219 mo 16) aw := Eq.trans (hF.r hmo (by rw [kmo]; rfl)) hr3
      have g229 : q_gr f219 sr := q_gr_fr hgr (fun i9 _ => hF.z hsr (by rw [ksr]; rfl))
      subst qy220
      refine q_ifne (tgt := 23) cx ⟨by decide, by decide⟩ dX12_energyIn_18 (by decide) (fun c230 => ?_) (fun c230 => ?_)
      · exact absurd c230 (by omega)
      · refine q_iconst cx dX12_energyIn_21 ?_
        refine q_iret cx hr hlk hB dX12_energyIn_22 ⟨by decide, by decide⟩ ?_
        exact ⟨(by decide), (by decide), (q_isl z223 (by omega)), (q_isu z223 (by omega)), (q_isl z224 (by omega)), (q_isu z224 (by omega)), g229⟩
set_option maxHeartbeats 4000000 in
set_option maxRecDepth 100000 in
theorem r_takesIn (l : Launch) (g : q_G) {K : Nat → Nat} {L : List Nat} (hN : L.Nodup) {f : Nat → va_E} (hT : q_Ty g K L f) (mo : Nat) (hmo : mo ∈ L) (kmo : K mo = 12) (sr : Nat) (hsr : sr ∈ L) (ksr : K sr = 151) (hp : Nat) (hhp : hp ∈ L) (khp : K hp = 159) (dy : Nat) (hdy : dy ∈ L) (kdy : K dy = 160) (aw : Nat) (haw : aw ∈ L) (kaw : K aw = 154) (xt : Int) (lxt : 0 ≤ xt) (uxt : xt ≤ 9999) (xm : Int) (lxm : 0 ≤ xm) (uxm : xm ≤ 60) (hf0 : q_is (q_z f sr 3) xt) (hf1 : q_is (q_z f sr 4) xm) (hr0 : q_ir (q_r f mo 13) sr) (hr1 : q_ir (q_r f mo 24) hp) (hr2 : q_ir (q_r f mo 25) dy) (hr3 : q_ir (q_r f mo 16) aw) (hgr : q_gr f sr) : q_Ct l g K L yX12_takesIn cX12_takesIn 4 (some .int) 9 205 [.ref mo] f [(12, 0, 0), (12, 26, 28), (151, 0, 657), (154, 0, 657), (159, 0, 9), (160, 0, 9)] (q_Pi (fun (z : Int) (f1 : Nat → va_E) => (-1) ≤ z ∧ z ≤ 200 ∧ 0 ≤ q_z f1 sr 3 ∧ q_z f1 sr 3 ≤ 9999 ∧ 0 ≤ q_z f1 sr 4 ∧ q_z f1 sr 4 ≤ 60 ∧ q_gr f1 sr)) := by
  refine q_ofb (by decide +kernel) hN hT (Nat.le_of_ble_eq_true rfl) ?_
  intro p e s m below meth c ls cx hr hlk hB hl
  have hl : lv_has ls 4 [(0, .ref mo)] := hl
  have J21 : ∀ (n : Nat) (f21 : Nat → va_E) (v21_1 : Int) (lv21_1 : (-2147483648) ≤ v21_1) (uv21_1 : v21_1 ≤ 2147483647) (v21_2 : Int) (lv21_2 : 0 ≤ v21_2) (uv21_2 : v21_2 ≤ 200) (v21_3 : Int) (lv21_3 : (-2147483648) ≤ v21_3) (uv21_3 : v21_3 ≤ 2147483647) (w21_aw_2 : Int) (lw21_aw_2 : 4 ≤ w21_aw_2) (uw21_aw_2 : w21_aw_2 ≤ 60) (w21_sr_3 : Int) (lw21_sr_3 : 0 ≤ w21_sr_3) (uw21_sr_3 : w21_sr_3 ≤ 10199) (hj_sr_4 : q_is (q_z f21 sr 4) xm) (hj_aw_2 : q_is (q_z f21 aw 2) w21_aw_2) (hj_sr_3 : q_is (q_z f21 sr 3) w21_sr_3) (hq_mo_13 : q_ir (q_r f21 mo 13) sr) (hq_mo_24 : q_ir (q_r f21 mo 24) hp) (hq_mo_25 : q_ir (q_r f21 mo 25) dy) (hq_mo_16 : q_ir (q_r f21 mo 16) aw) (hgr21 : q_gr f21 sr) (hrl21_0 : 0 ≤ 1 * w21_sr_3 + -1 * xt + -1 * v21_2 + 0 ∧ 1 * w21_sr_3 + -1 * xt + -1 * v21_2 + 0 ≤ 0) (hrl21_1 : 0 ≤ 1 * v21_2 + 0 ∧ 1 * v21_2 + 0 ≤ 200) (hmu : (Int.toNat (201 - v21_2)) < n) (H : Heap) (locs : List Loc) (hB : q_B g K L (fun q => q ∈ L) [(12, 0, 0), (12, 26, 28), (151, 0, 657), (154, 0, 657), (159, 0, 9), (160, 0, 9)] f f21 s H locs) (ls : Array Slot) (hl : lv_has ls 4 [(0, .ref mo), (1, .int (q_i v21_1)), (2, .int (q_i v21_2)), (3, .int (q_i v21_3))]), W p l e { frames := 9, cells := 0, slots := 0, locals := 205 } s m ([.ref mo] : List Value).toArray below meth c H locs 0 0 (MQ below (q_Q g K L [(12, 0, 0), (12, 26, 28), (151, 0, 657), (154, 0, 657), (159, 0, 9), (160, 0, 9)] f (q_Pi (fun (z : Int) (f1 : Nat → va_E) => (-1) ≤ z ∧ z ≤ 200 ∧ 0 ≤ q_z f1 sr 3 ∧ q_z f1 sr 3 ≤ 9999 ∧ 0 ≤ q_z f1 sr 4 ∧ q_z f1 sr 4 ≤ 60 ∧ q_gr f1 sr))) ([.ref mo] : List Value).toArray s 0 0 (fun q => q ∈ L)) (F0 m 21 ls []) := by
    intro n
    induction n with
    | zero =>
      intro f21 v21_1 lv21_1 uv21_1 v21_2 lv21_2 uv21_2 v21_3 lv21_3 uv21_3 w21_aw_2 lw21_aw_2 uw21_aw_2 w21_sr_3 lw21_sr_3 uw21_sr_3 hj_sr_4 hj_aw_2 hj_sr_3 hq_mo_13 hq_mo_24 hq_mo_25 hq_mo_16 hgr21 hrl21_0 hrl21_1 hmu
      exact absurd hmu (Nat.not_lt_zero _)
    | succ n ih21 =>
      intro f21 v21_1 lv21_1 uv21_1 v21_2 lv21_2 uv21_2 v21_3 lv21_3 uv21_3 w21_aw_2 lw21_aw_2 uw21_aw_2 w21_sr_3 lw21_sr_3 uw21_sr_3 hj_sr_4 hj_aw_2 hj_sr_3 hq_mo_13 hq_mo_24 hq_mo_25 hq_mo_16 hgr21 hrl21_0 hrl21_1 hmu H locs hB ls hl
      refine q_ild_n cx dX12_takesIn_21 rfl (lv_at hl 2 rfl) ?_
      refine q_sipush cx dX12_takesIn_22 rfl ?_
      refine q_icge (tgt := 52) cx ⟨by omega, by omega⟩ ⟨by decide, by decide⟩ dX12_takesIn_25 (by decide) (fun c181 => ?_) (fun c181 => ?_)
      · refine q_ald_n cx dX12_takesIn_52 rfl (lv_at hl 0 rfl) ?_
        refine q_ald_n cx dX12_takesIn_53 rfl (lv_at hl 0 rfl) ?_
        refine q_gX12_20 cx hB hmo kmo hq_mo_13 dX12_takesIn_54 (fun hb182 kb182 => ?_)
        refine q_bipush cx dX12_takesIn_57 rfl ?_
        obtain ⟨x183, ex183⟩ : ∃ zz, q_is (q_z f21 sr (Int.toNat 9)) zz := ⟨_, q_isr _⟩
        refine q_sald cx hB hsr ksr (by decide) (by decide) ex183 dX12_takesIn_59 (fun rx183 => ?_)
        refine q_ild_n cx dX12_takesIn_60 rfl (lv_at hl 1 rfl) ?_
        refine q_icle (tgt := 68) cx ⟨by omega, by omega⟩ ⟨by omega, by omega⟩ dX12_takesIn_61 (by decide) (fun c185 => ?_) (fun c185 => ?_)
        · refine q_iconst cx dX12_takesIn_68 ?_
          refine q_cVi (As := [.int (q_i (-1))]) (rest := []) cx hB (fun _ h => h) hN hmo kmo (by decide) rfl (r_comesBack l g hN hB.2.1 mo hmo kmo (-1) (by decide) (by decide) sr hsr ksr aw haw kaw w21_aw_2 (by omega) (by omega) hj_aw_2 hq_mo_13 hq_mo_16) q_cX12_411 q_dX12_comesBack (by decide) rfl rfl hl.1 rfl (Nat.le_of_ble_eq_true rfl) dX12_takesIn_69 (fun y187 H locs f186 ry187 h188 hF hB => ?_)
          obtain ⟨qy187, lz189, uz189, lz190, uz190, g191⟩ := h188
          have z192 : q_is (q_z f186 aw 2) w21_aw_2 := Eq.trans (hF.z haw (by rw [kaw]; rfl)) hj_aw_2
          have z193 : q_ir (q_r f186 mo 13) sr := Eq.trans (hF.r hmo (by rw [kmo]; rfl)) hq_mo_13
          have z194 : q_ir (q_r f186 mo 24) hp := Eq.trans (hF.r hmo (by rw [kmo]; rfl)) hq_mo_24
          have z195 : q_ir (q_r f186 mo 25) dy := Eq.trans (hF.r hmo (by rw [kmo]; rfl)) hq_mo_25
          have z196 : q_ir (q_r f186 mo 16) aw := Eq.trans (hF.r hmo (by rw [kmo]; rfl)) hq_mo_16
          obtain ⟨x197, ex197⟩ : ∃ zz, q_is (q_z f186 sr 3) zz := ⟨_, q_isr _⟩
          obtain ⟨lx197, ux197⟩ := q_isb ex197 ⟨lz189, uz189⟩
          obtain ⟨x198, ex198⟩ : ∃ zz, q_is (q_z f186 sr 4) zz := ⟨_, q_isr _⟩
          obtain ⟨lx198, ux198⟩ := q_isb ex198 ⟨lz190, uz190⟩
          subst qy187
          refine q_iret cx hr hlk hB dX12_takesIn_72 ⟨by decide, by decide⟩ ?_
          exact ⟨(by decide), (by decide), (q_isl ex197 (by omega)), (q_isu ex197 (by omega)), (q_isl ex198 (by omega)), (q_isu ex198 (by omega)), g191⟩
        · refine q_ild_n cx dX12_takesIn_64 rfl (lv_at hl 2 rfl) ?_
          refine lv_goto (tgt := 69) cx.1 cx.2.1 dX12_takesIn_65 (by decide) ?_
          refine q_cVi (As := [.int (q_i v21_2)]) (rest := []) cx hB (fun _ h => h) hN hmo kmo (by decide) rfl (r_comesBack l g hN hB.2.1 mo hmo kmo v21_2 (by omega) (by omega) sr hsr ksr aw haw kaw w21_aw_2 (by omega) (by omega) hj_aw_2 hq_mo_13 hq_mo_16) q_cX12_411 q_dX12_comesBack (by decide) rfl rfl hl.1 rfl (Nat.le_of_ble_eq_true rfl) dX12_takesIn_69 (fun y200 H locs f199 ry200 h201 hF hB => ?_)
          obtain ⟨qy200, lz202, uz202, lz203, uz203, g204⟩ := h201
          have z205 : q_is (q_z f199 aw 2) w21_aw_2 := Eq.trans (hF.z haw (by rw [kaw]; rfl)) hj_aw_2
          have z206 : q_ir (q_r f199 mo 13) sr := Eq.trans (hF.r hmo (by rw [kmo]; rfl)) hq_mo_13
          have z207 : q_ir (q_r f199 mo 24) hp := Eq.trans (hF.r hmo (by rw [kmo]; rfl)) hq_mo_24
          have z208 : q_ir (q_r f199 mo 25) dy := Eq.trans (hF.r hmo (by rw [kmo]; rfl)) hq_mo_25
          have z209 : q_ir (q_r f199 mo 16) aw := Eq.trans (hF.r hmo (by rw [kmo]; rfl)) hq_mo_16
          obtain ⟨x210, ex210⟩ : ∃ zz, q_is (q_z f199 sr 3) zz := ⟨_, q_isr _⟩
          obtain ⟨lx210, ux210⟩ := q_isb ex210 ⟨lz202, uz202⟩
          obtain ⟨x211, ex211⟩ : ∃ zz, q_is (q_z f199 sr 4) zz := ⟨_, q_isr _⟩
          obtain ⟨lx211, ux211⟩ := q_isb ex211 ⟨lz203, uz203⟩
          refine q_iret cx hr hlk hB dX12_takesIn_72 ⟨by omega, by omega⟩ ?_
          exact ⟨(by omega), (by omega), (q_isl ex210 (by omega)), (q_isu ex210 (by omega)), (q_isl ex211 (by omega)), (q_isu ex211 (by omega)), g204⟩
      · refine q_ald_n cx dX12_takesIn_28 rfl (lv_at hl 0 rfl) ?_
        refine q_gX12_20 cx hB hmo kmo hq_mo_13 dX12_takesIn_29 (fun hb212 kb212 => ?_)
        refine q_bipush cx dX12_takesIn_32 rfl ?_
        obtain ⟨x213, ex213⟩ : ∃ zz, q_is (q_z f21 sr (Int.toNat 9)) zz := ⟨_, q_isr _⟩
        refine q_sald cx hB hsr ksr (by decide) (by decide) ex213 dX12_takesIn_34 (fun rx213 => ?_)
        refine q_ild_n cx dX12_takesIn_35 rfl (lv_at hl 1 rfl) ?_
        refine q_icne (tgt := 52) cx ⟨by omega, by omega⟩ ⟨by omega, by omega⟩ dX12_takesIn_36 (by decide) (fun c215 => ?_) (fun c215 => ?_)
        · refine q_ald_n cx dX12_takesIn_52 rfl (lv_at hl 0 rfl) ?_
          refine q_ald_n cx dX12_takesIn_53 rfl (lv_at hl 0 rfl) ?_
          refine q_gX12_20 cx hB hmo kmo hq_mo_13 dX12_takesIn_54 (fun hb216 kb216 => ?_)
          refine q_bipush cx dX12_takesIn_57 rfl ?_
          refine q_iald (lo := (-2147483648)) (hi := 2147483647) (n := 658) cx hB hsr ksr (by decide) rfl rfl (by decide) (by decide) (by decide) rfl ex213 dX12_takesIn_59 (fun lb218 ub218 => ?_)
          refine q_ild_n cx dX12_takesIn_60 rfl (lv_at hl 1 rfl) ?_
          refine q_icle (tgt := 68) cx ⟨by omega, by omega⟩ ⟨by omega, by omega⟩ dX12_takesIn_61 (by decide) (fun c219 => ?_) (fun c219 => ?_)
          · refine q_iconst cx dX12_takesIn_68 ?_
            refine q_cVi (As := [.int (q_i (-1))]) (rest := []) cx hB (fun _ h => h) hN hmo kmo (by decide) rfl (r_comesBack l g hN hB.2.1 mo hmo kmo (-1) (by decide) (by decide) sr hsr ksr aw haw kaw w21_aw_2 (by omega) (by omega) hj_aw_2 hq_mo_13 hq_mo_16) q_cX12_411 q_dX12_comesBack (by decide) rfl rfl hl.1 rfl (Nat.le_of_ble_eq_true rfl) dX12_takesIn_69 (fun y221 H locs f220 ry221 h222 hF hB => ?_)
            obtain ⟨qy221, lz223, uz223, lz224, uz224, g225⟩ := h222
            have z226 : q_is (q_z f220 aw 2) w21_aw_2 := Eq.trans (hF.z haw (by rw [kaw]; rfl)) hj_aw_2
            have z227 : q_ir (q_r f220 mo 13) sr := Eq.trans (hF.r hmo (by rw [kmo]; rfl)) hq_mo_13
            have z228 : q_ir (q_r f220 mo 24) hp := Eq.trans (hF.r hmo (by rw [kmo]; rfl)) hq_mo_24
            have z229 : q_ir (q_r f220 mo 25) dy := Eq.trans (hF.r hmo (by rw [kmo]; rfl)) hq_mo_25
            have z230 : q_ir (q_r f220 mo 16) aw := Eq.trans (hF.r hmo (by rw [kmo]; rfl)) hq_mo_16
            obtain ⟨x231, ex231⟩ : ∃ zz, q_is (q_z f220 sr 3) zz := ⟨_, q_isr _⟩
            obtain ⟨lx231, ux231⟩ := q_isb ex231 ⟨lz223, uz223⟩
            obtain ⟨x232, ex232⟩ : ∃ zz, q_is (q_z f220 sr 4) zz := ⟨_, q_isr _⟩
            obtain ⟨lx232, ux232⟩ := q_isb ex232 ⟨lz224, uz224⟩
            subst qy221
            refine q_iret cx hr hlk hB dX12_takesIn_72 ⟨by decide, by decide⟩ ?_
            exact ⟨(by decide), (by decide), (q_isl ex231 (by omega)), (q_isu ex231 (by omega)), (q_isl ex232 (by omega)), (q_isu ex232 (by omega)), g225⟩
          · refine q_ild_n cx dX12_takesIn_64 rfl (lv_at hl 2 rfl) ?_
            refine lv_goto (tgt := 69) cx.1 cx.2.1 dX12_takesIn_65 (by decide) ?_
            refine q_cVi (As := [.int (q_i v21_2)]) (rest := []) cx hB (fun _ h => h) hN hmo kmo (by decide) rfl (r_comesBack l g hN hB.2.1 mo hmo kmo v21_2 (by omega) (by omega) sr hsr ksr aw haw kaw w21_aw_2 (by omega) (by omega) hj_aw_2 hq_mo_13 hq_mo_16) q_cX12_411 q_dX12_comesBack (by decide) rfl rfl hl.1 rfl (Nat.le_of_ble_eq_true rfl) dX12_takesIn_69 (fun y234 H locs f233 ry234 h235 hF hB => ?_)
            obtain ⟨qy234, lz236, uz236, lz237, uz237, g238⟩ := h235
            have z239 : q_is (q_z f233 aw 2) w21_aw_2 := Eq.trans (hF.z haw (by rw [kaw]; rfl)) hj_aw_2
            have z240 : q_ir (q_r f233 mo 13) sr := Eq.trans (hF.r hmo (by rw [kmo]; rfl)) hq_mo_13
            have z241 : q_ir (q_r f233 mo 24) hp := Eq.trans (hF.r hmo (by rw [kmo]; rfl)) hq_mo_24
            have z242 : q_ir (q_r f233 mo 25) dy := Eq.trans (hF.r hmo (by rw [kmo]; rfl)) hq_mo_25
            have z243 : q_ir (q_r f233 mo 16) aw := Eq.trans (hF.r hmo (by rw [kmo]; rfl)) hq_mo_16
            obtain ⟨x244, ex244⟩ : ∃ zz, q_is (q_z f233 sr 3) zz := ⟨_, q_isr _⟩
            obtain ⟨lx244, ux244⟩ := q_isb ex244 ⟨lz236, uz236⟩
            obtain ⟨x245, ex245⟩ : ∃ zz, q_is (q_z f233 sr 4) zz := ⟨_, q_isr _⟩
            obtain ⟨lx245, ux245⟩ := q_isb ex245 ⟨lz237, uz237⟩
            refine q_iret cx hr hlk hB dX12_takesIn_72 ⟨by omega, by omega⟩ ?_
            exact ⟨(by omega), (by omega), (q_isl ex244 (by omega)), (q_isu ex244 (by omega)), (q_isl ex245 (by omega)), (q_isu ex245 (by omega)), g238⟩
        · refine q_ild_n cx dX12_takesIn_39 rfl (lv_at hl 3 rfl) ?_
          refine q_ald_n cx dX12_takesIn_40 rfl (lv_at hl 0 rfl) ?_
          refine q_cVi (As := []) (rest := [.int (q_i v21_3)]) cx hB (fun _ h => h) hN hmo kmo (by decide) rfl (r_ticksOnce l g hN hB.2.1 mo hmo kmo sr hsr ksr hp hhp khp dy hdy kdy w21_sr_3 (by omega) (by omega) xm (by omega) (by omega) hj_sr_3 hj_sr_4 hq_mo_13 hq_mo_24 hq_mo_25 hgr21) q_cX12_338 q_dX12_ticksOnce (by decide) rfl rfl hl.1 rfl (Nat.le_of_ble_eq_true rfl) dX12_takesIn_41 (fun y247 H locs f246 ry247 h248 hF hB => ?_)
          obtain ⟨z249, z250, g251⟩ := h248
          have z252 : q_is (q_z f246 sr 4) xm := Eq.trans (hF.z hsr (by rw [ksr]; rfl)) hj_sr_4
          have z253 : q_is (q_z f246 aw 2) w21_aw_2 := Eq.trans (hF.z haw (by rw [kaw]; rfl)) hj_aw_2
          have z254 : q_ir (q_r f246 mo 13) sr := Eq.trans (hF.r hmo (by rw [kmo]; rfl)) hq_mo_13
          have z255 : q_ir (q_r f246 mo 24) hp := Eq.trans (hF.r hmo (by rw [kmo]; rfl)) hq_mo_24
          have z256 : q_ir (q_r f246 mo 25) dy := Eq.trans (hF.r hmo (by rw [kmo]; rfl)) hq_mo_25
          have z257 : q_ir (q_r f246 mo 16) aw := Eq.trans (hF.r hmo (by rw [kmo]; rfl)) hq_mo_16
          refine q_iadd cx dX12_takesIn_44 ?_
          refine q_any (fun y258 ry258 ey258 => ?_)
          refine lv_istore_n (lv' := [(3, .int (q_i y258)), (0, .ref mo), (1, .int (q_i v21_1)), (2, .int (q_i v21_2))]) cx.1 cx.2.1 dX12_takesIn_45 rfl hl (by decide) rfl (fun ls hl => ?_)
          refine q_iinc (lv' := [(2, .int (q_i (v21_2 + 1))), (3, .int (q_i y258)), (0, .ref mo), (1, .int (q_i v21_1))]) cx dX12_takesIn_46 hl (k := 3) rfl (by decide) rfl (fun ls hl => ?_)
          refine lv_goto (tgt := 21) cx.1 cx.2.1 dX12_takesIn_49 (by decide) ?_
          exact ih21 f246 v21_1 (by omega) (by omega) (v21_2 + 1) (by omega) (by omega) y258 (by omega) (by omega) w21_aw_2 (by omega) (by omega) (w21_sr_3 + 1) (by omega) (by omega) z250 z253 z249 z254 z255 z256 z257 g251 (by omega) (by omega) (by omega) H locs hB ls (lv_sub hl [2, 3, 0, 1] rfl)
  obtain ⟨H, hH⟩ : ∃ H : Heap, H = s.heap := ⟨_, rfl⟩
  obtain ⟨locs, hlocs⟩ : ∃ z : List Loc, z = [] := ⟨_, rfl⟩
  rw [← hH, ← hlocs] at hB
  rw [← hH, ← hlocs]
  refine q_ald_n cx dX12_takesIn_0 rfl (lv_at hl 0 rfl) ?_
  refine q_iconst cx dX12_takesIn_1 ?_
  refine q_pX12_75 cx hB hmo kmo ⟨by decide, by decide⟩ (by decide) (by decide) rfl dX12_takesIn_2 (fun H locs f259 ef259 z260 hB => ?_)
  have z261 : q_is (q_z f259 sr 3) xt := by rw [ef259, q_setz (Or.inr (by decide))]; exact hf0
  have z262 : q_is (q_z f259 sr 4) xm := by rw [ef259, q_setz (Or.inr (by decide))]; exact hf1
  have z263 : q_ir (q_r f259 mo 13) sr := by rw [ef259, q_setr (Or.inr (by decide))]; exact hr0
  have z264 : q_ir (q_r f259 mo 24) hp := by rw [ef259, q_setr (Or.inr (by decide))]; exact hr1
  have z265 : q_ir (q_r f259 mo 25) dy := by rw [ef259, q_setr (Or.inr (by decide))]; exact hr2
  have z266 : q_ir (q_r f259 mo 16) aw := by rw [ef259, q_setr (Or.inr (by decide))]; exact hr3
  have g267 : q_gr f259 sr := q_gr_ne hgr ef259 (fun q => q_kne (k := 151) (k2 := 12) (by decide) ksr kmo q)
  refine q_ald_n cx dX12_takesIn_5 rfl (lv_at hl 0 rfl) ?_
  refine q_cVv (As := []) (rest := []) cx hB (fun _ h => h) hN hmo kmo (by decide) rfl (r_leaves l g hN hB.2.1 mo hmo kmo sr hsr ksr aw haw kaw xt (by omega) (by omega) xm (by omega) (by omega) z261 z262 z263 z266 g267) q_cX12_405 q_dX12_leaves (by decide) rfl rfl hl.1 rfl (Nat.le_of_ble_eq_true rfl) dX12_takesIn_6 (fun H locs f268 h270 hF hB => ?_)
  obtain ⟨lz271, uz271⟩ := h270
  have z272 : q_is (q_z f268 sr 3) xt := Eq.trans (hF.z hsr (by rw [ksr]; rfl)) z261
  have z273 : q_is (q_z f268 sr 4) xm := Eq.trans (hF.z hsr (by rw [ksr]; rfl)) z262
  have z274 : q_is (q_z f268 mo 0) 0 := Eq.trans (hF.z hmo (by rw [kmo]; rfl)) z260
  have z275 : q_ir (q_r f268 mo 13) sr := Eq.trans (hF.r hmo (by rw [kmo]; rfl)) z263
  have z276 : q_ir (q_r f268 mo 24) hp := Eq.trans (hF.r hmo (by rw [kmo]; rfl)) z264
  have z277 : q_ir (q_r f268 mo 25) dy := Eq.trans (hF.r hmo (by rw [kmo]; rfl)) z265
  have z278 : q_ir (q_r f268 mo 16) aw := Eq.trans (hF.r hmo (by rw [kmo]; rfl)) z266
  have g279 : q_gr f268 sr := q_gr_fr g267 (fun i9 _ => hF.z hsr (by rw [ksr]; rfl))
  obtain ⟨x280, ex280⟩ : ∃ zz, q_is (q_z f268 aw 2) zz := ⟨_, q_isr _⟩
  obtain ⟨lx280, ux280⟩ := q_isb ex280 ⟨lz271, uz271⟩
  refine q_ald_n cx dX12_takesIn_9 rfl (lv_at hl 0 rfl) ?_
  refine q_gX12_20 cx hB hmo kmo z275 dX12_takesIn_10 (fun hb281 kb281 => ?_)
  refine q_bipush cx dX12_takesIn_13 rfl ?_
  obtain ⟨x282, ex282⟩ : ∃ zz, q_is (q_z f268 sr (Int.toNat 9)) zz := ⟨_, q_isr _⟩
  refine q_sald cx hB hsr ksr (by decide) (by decide) ex282 dX12_takesIn_15 (fun rx282 => ?_)
  refine lv_istore_n (lv' := [(1, .int (q_i x282)), (0, .ref mo)]) cx.1 cx.2.1 dX12_takesIn_16 rfl hl (by decide) rfl (fun ls hl => ?_)
  refine q_iconst cx dX12_takesIn_17 ?_
  refine lv_istore_n (lv' := [(2, .int (q_i 0)), (1, .int (q_i x282)), (0, .ref mo)]) cx.1 cx.2.1 dX12_takesIn_18 rfl hl (by decide) rfl (fun ls hl => ?_)
  refine q_iconst cx dX12_takesIn_19 ?_
  refine lv_istore_n (lv' := [(3, .int (q_i 0)), (2, .int (q_i 0)), (1, .int (q_i x282)), (0, .ref mo)]) cx.1 cx.2.1 dX12_takesIn_20 rfl hl (by decide) rfl (fun ls hl => ?_)
  exact J21 ((Int.toNat (201 - 0)) + 1) f268 x282 (by omega) (by omega) 0 (by decide) (by decide) 0 (by decide) (by decide) x280 (by omega) (by omega) xt (by omega) (by omega) z273 ex280 z272 z275 z276 z277 z278 g279 (by omega) (by omega) (Nat.lt_succ_self _) H locs hB ls (lv_sub hl [3, 2, 1, 0] rfl)
set_option maxHeartbeats 4000000 in
set_option maxRecDepth 100000 in
theorem r_latestMeeting (l : Launch) (g : q_G) {K : Nat → Nat} {L : List Nat} (hN : L.Nodup) {f : Nat → va_E} (hT : q_Ty g K L f) (mo : Nat) (hmo : mo ∈ L) (kmo : K mo = 12) (a0 : Int) (la0 : 0 ≤ a0) (ua0 : a0 ≤ 9) (sr : Nat) (hsr : sr ∈ L) (ksr : K sr = 151) (hr0 : q_ir (q_r f mo 13) sr) (hgr : q_gr f sr) : q_Ct l g K L yX12_latestMeeting cX12_latestMeeting 5 (some .int) 7 158 [.ref mo, .int (q_i a0)] f [] (q_Pi (fun (z : Int) (f1 : Nat → va_E) => f = f1 ∧ 0 ≤ z ∧ z ≤ 1000)) := by
  refine q_ofb (by decide +kernel) hN hT (Nat.le_of_ble_eq_true rfl) ?_
  intro p e s m below meth c ls cx hr hlk hB hl
  have hl : lv_has ls 5 [(0, .ref mo), (1, .int (q_i a0))] := hl
  have J11 : ∀ (n : Nat) (v11_2 : Int) (lv11_2 : (-2147483648) ≤ v11_2) (uv11_2 : v11_2 ≤ 2147483647) (v11_3 : Int) (lv11_3 : 0 ≤ v11_3) (uv11_3 : v11_3 ≤ 1000) (v11_4 : Int) (lv11_4 : 0 ≤ v11_4) (uv11_4 : v11_4 ≤ 10) (hq_mo_13 : q_ir (q_r f mo 13) sr) (hgr11 : q_gr f sr) (hmu : (Int.toNat (2147483647 - v11_4)) < n) (H : Heap) (locs : List Loc) (hB : q_B g K L (fun q => q ∈ L) [] f f s H locs) (ls : Array Slot) (hl : lv_has ls 5 [(0, .ref mo), (1, .int (q_i a0)), (2, .int (q_i v11_2)), (3, .int (q_i v11_3)), (4, .int (q_i v11_4))]), W p l e { frames := 7, cells := 0, slots := 0, locals := 158 } s m ([.ref mo, .int (q_i a0)] : List Value).toArray below meth c H locs 0 0 (MQ below (q_Q g K L [] f (q_Pi (fun (z : Int) (f1 : Nat → va_E) => f = f1 ∧ 0 ≤ z ∧ z ≤ 1000))) ([.ref mo, .int (q_i a0)] : List Value).toArray s 0 0 (fun q => q ∈ L)) (F0 m 11 ls []) := by
    intro n
    induction n with
    | zero =>
      intro v11_2 lv11_2 uv11_2 v11_3 lv11_3 uv11_3 v11_4 lv11_4 uv11_4 hq_mo_13 hgr11 hmu
      exact absurd hmu (Nat.not_lt_zero _)
    | succ n ih11 =>
      intro v11_2 lv11_2 uv11_2 v11_3 lv11_3 uv11_3 v11_4 lv11_4 uv11_4 hq_mo_13 hgr11 hmu H locs hB ls hl
      refine lv_iload cx.1 cx.2.1 dX12_latestMeeting_11 (lv_at hl 4 rfl) ?_
      refine q_ald_n cx dX12_latestMeeting_13 rfl (lv_at hl 0 rfl) ?_
      refine q_gX12_20 cx hB hmo kmo hq_mo_13 dX12_latestMeeting_14 (fun hb184 kb184 => ?_)
      refine q_iconst cx dX12_latestMeeting_17 ?_
      obtain ⟨x185, ex185⟩ : ∃ zz, q_is (q_z f sr (Int.toNat 0)) zz := ⟨_, q_isr _⟩
      refine q_iald (lo := 0) (hi := 10) (n := 658) cx hB hsr ksr (by decide) rfl rfl (by decide) (by decide) (by decide) rfl ex185 dX12_latestMeeting_18 (fun lb186 ub186 => ?_)
      refine q_icge (tgt := 49) cx ⟨by omega, by omega⟩ ⟨by omega, by omega⟩ dX12_latestMeeting_19 (by decide) (fun c187 => ?_) (fun c187 => ?_)
      · refine q_ild_n cx dX12_latestMeeting_49 rfl (lv_at hl 3 rfl) ?_
        refine q_iret cx hr hlk hB dX12_latestMeeting_50 ⟨by omega, by omega⟩ ?_
        exact ⟨rfl, (by omega), (by omega)⟩
      · refine q_ild_n cx dX12_latestMeeting_22 rfl (lv_at hl 2 rfl) ?_
        refine lv_iload cx.1 cx.2.1 dX12_latestMeeting_23 (lv_at hl 4 rfl) ?_
        refine q_cSi (As := [.int (q_i v11_2), .int (q_i v11_4)]) (rest := []) cx hB (fun _ h => h) hN (r_has l g hN hB.2.1 v11_2 (by omega) (by omega) v11_4 (by omega) (by omega)) q_cX12_185 q_dX12_has (by decide) rfl rfl hl.1 rfl (Nat.le_of_ble_eq_true rfl) dX12_latestMeeting_25 (fun y189 H locs f188 ry189 h190 hF hB => ?_)
        obtain ⟨rfl, ly189, uy189⟩ := h190
        refine q_ifeq (tgt := 43) cx ⟨by omega, by omega⟩ dX12_latestMeeting_28 (by decide) (fun c191 => ?_) (fun c191 => ?_)
        · refine q_iinc (lv' := [(4, .int (q_i (v11_4 + 1))), (0, .ref mo), (1, .int (q_i a0)), (2, .int (q_i v11_2)), (3, .int (q_i v11_3))]) cx dX12_latestMeeting_43 hl (k := 4) rfl (by decide) rfl (fun ls hl => ?_)
          refine lv_goto (tgt := 11) cx.1 cx.2.1 dX12_latestMeeting_46 (by decide) ?_
          exact ih11 v11_2 (by omega) (by omega) v11_3 (by omega) (by omega) (v11_4 + 1) (by omega) (by omega) hq_mo_13 hgr11 (by omega) H locs hB ls (lv_sub hl [1, 2, 3, 4, 0] rfl)
        · refine q_ild_n cx dX12_latestMeeting_31 rfl (lv_at hl 3 rfl) ?_
          refine q_ald_n cx dX12_latestMeeting_32 rfl (lv_at hl 0 rfl) ?_
          refine q_ild_n cx dX12_latestMeeting_33 rfl (lv_at hl 1 rfl) ?_
          refine lv_iload cx.1 cx.2.1 dX12_latestMeeting_34 (lv_at hl 4 rfl) ?_
          refine q_cVi (As := [.int (q_i a0), .int (q_i v11_4)]) (rest := [.int (q_i v11_3)]) cx hB (fun _ h => h) hN hmo kmo (by decide) rfl (r_lateness l g hN hB.2.1 mo hmo kmo a0 (by omega) (by omega) v11_4 (by omega) (by omega) sr hsr ksr hq_mo_13 hgr11) q_cX12_396 q_dX12_lateness (by decide) rfl rfl hl.1 rfl (Nat.le_of_ble_eq_true rfl) dX12_latestMeeting_36 (fun y193 H locs f192 ry193 h194 hF hB => ?_)
          obtain ⟨rfl, ly193, uy193⟩ := h194
          refine q_cSi (As := [.int (q_i v11_3), .int (q_i y193)]) (rest := []) cx hB (fun _ h => h) hN (r_greater l g hN hB.2.1 v11_3 (by omega) (by omega) y193 (by omega) (by omega)) q_cX12_299 q_dX12_greater (by decide) rfl rfl hl.1 rfl (Nat.le_of_ble_eq_true rfl) dX12_latestMeeting_39 (fun y196 H locs f195 ry196 h197 hF hB => ?_)
          rcases h197 with h198 | h199
          · obtain ⟨rfl, qy196, t200⟩ := h198
            refine lv_istore_n (lv' := [(3, .int (q_i y196)), (0, .ref mo), (1, .int (q_i a0)), (2, .int (q_i v11_2)), (4, .int (q_i v11_4))]) cx.1 cx.2.1 dX12_latestMeeting_42 rfl hl (by decide) rfl (fun ls hl => ?_)
            refine q_iinc (lv' := [(4, .int (q_i (v11_4 + 1))), (3, .int (q_i y196)), (0, .ref mo), (1, .int (q_i a0)), (2, .int (q_i v11_2))]) cx dX12_latestMeeting_43 hl (k := 4) rfl (by decide) rfl (fun ls hl => ?_)
            refine lv_goto (tgt := 11) cx.1 cx.2.1 dX12_latestMeeting_46 (by decide) ?_
            exact ih11 v11_2 (by omega) (by omega) y196 (by omega) (by omega) (v11_4 + 1) (by omega) (by omega) hq_mo_13 hgr11 (by omega) H locs hB ls (lv_sub hl [2, 3, 4, 1, 0] rfl)
          · obtain ⟨rfl, qy196, t201⟩ := h199
            refine lv_istore_n (lv' := [(3, .int (q_i y196)), (0, .ref mo), (1, .int (q_i a0)), (2, .int (q_i v11_2)), (4, .int (q_i v11_4))]) cx.1 cx.2.1 dX12_latestMeeting_42 rfl hl (by decide) rfl (fun ls hl => ?_)
            refine q_iinc (lv' := [(4, .int (q_i (v11_4 + 1))), (3, .int (q_i y196)), (0, .ref mo), (1, .int (q_i a0)), (2, .int (q_i v11_2))]) cx dX12_latestMeeting_43 hl (k := 4) rfl (by decide) rfl (fun ls hl => ?_)
            refine lv_goto (tgt := 11) cx.1 cx.2.1 dX12_latestMeeting_46 (by decide) ?_
            exact ih11 v11_2 (by omega) (by omega) y196 (by omega) (by omega) (v11_4 + 1) (by omega) (by omega) hq_mo_13 hgr11 (by omega) H locs hB ls (lv_sub hl [2, 3, 4, 1, 0] rfl)
  obtain ⟨H, hH⟩ : ∃ H : Heap, H = s.heap := ⟨_, rfl⟩
  obtain ⟨locs, hlocs⟩ : ∃ z : List Loc, z = [] := ⟨_, rfl⟩
  rw [← hH, ← hlocs] at hB
  rw [← hH, ← hlocs]
  refine q_ald_n cx dX12_latestMeeting_0 rfl (lv_at hl 0 rfl) ?_
  refine q_ild_n cx dX12_latestMeeting_1 rfl (lv_at hl 1 rfl) ?_
  refine q_cVi (As := [.int (q_i a0)]) (rest := []) cx hB (fun _ h => h) hN hmo kmo (by decide) rfl (r_neighbours l g hN hB.2.1 mo hmo kmo a0 (by omega) (by omega) sr hsr ksr hr0 hgr) q_cX12_265 q_dX12_neighbours (by decide) rfl rfl hl.1 rfl (Nat.le_of_ble_eq_true rfl) dX12_latestMeeting_2 (fun y203 H locs f202 ry203 h204 hF hB => ?_)
  obtain rfl := h204
  refine lv_istore_n (lv' := [(2, .int (q_i y203)), (0, .ref mo), (1, .int (q_i a0))]) cx.1 cx.2.1 dX12_latestMeeting_5 rfl hl (by decide) rfl (fun ls hl => ?_)
  refine q_iconst cx dX12_latestMeeting_6 ?_
  refine lv_istore_n (lv' := [(3, .int (q_i 0)), (2, .int (q_i y203)), (0, .ref mo), (1, .int (q_i a0))]) cx.1 cx.2.1 dX12_latestMeeting_7 rfl hl (by decide) rfl (fun ls hl => ?_)
  refine q_iconst cx dX12_latestMeeting_8 ?_
  refine lv_istore (lv' := [(4, .int (q_i 0)), (3, .int (q_i 0)), (2, .int (q_i y203)), (0, .ref mo), (1, .int (q_i a0))]) cx.1 cx.2.1 dX12_latestMeeting_9 hl (by decide) rfl (fun ls hl => ?_)
  exact J11 ((Int.toNat (2147483647 - 0)) + 1) y203 (by omega) (by omega) 0 (by decide) (by decide) 0 (by decide) (by decide) hr0 hgr (Nat.lt_succ_self _) H locs hB ls (lv_sub hl [3, 4, 2, 1, 0] rfl)
set_option maxHeartbeats 4000000 in
set_option maxRecDepth 100000 in
theorem r_byShift (l : Launch) (g : q_G) {K : Nat → Nat} {L : List Nat} (hN : L.Nodup) {f : Nat → va_E} (hT : q_Ty g K L f) (mo : Nat) (hmo : mo ∈ L) (kmo : K mo = 12) (a0 : Int) (la0 : 0 ≤ a0) (ua0 : a0 ≤ 9) (b0 : Int) (lb0 : 0 ≤ b0) (ub0 : b0 ≤ 59) (sr : Nat) (hsr : sr ∈ L) (ksr : K sr = 151) (aw : Nat) (haw : aw ∈ L) (kaw : K aw = 154) (xt : Int) (lxt : 0 ≤ xt) (uxt : xt ≤ 9999) (xm : Int) (lxm : 0 ≤ xm) (uxm : xm ≤ 60) (hf0 : q_is (q_z f sr 3) xt) (hf1 : q_is (q_z f sr 4) xm) (hr0 : q_ir (q_r f mo 13) sr) (hr1 : q_ir (q_r f mo 16) aw) (hgr : q_gr f sr) : q_Ct l g K L yX12_byShift cX12_byShift 3 (some .int) 8 182 [.ref mo, .int (q_i a0), .int (q_i b0)] f [(151, 0, 657), (154, 0, 657)] (q_Pi (fun (z : Int) (f1 : Nat → va_E) => 0 ≤ z ∧ z ≤ 1000 ∧ 0 ≤ q_z f1 sr 3 ∧ q_z f1 sr 3 ≤ 9999 ∧ 0 ≤ q_z f1 sr 4 ∧ q_z f1 sr 4 ≤ 60 ∧ q_gr f1 sr)) := by
  refine q_ofb (by decide +kernel) hN hT (Nat.le_of_ble_eq_true rfl) ?_
  intro p e s m below meth c ls cx hr hlk hB hl
  have hl : lv_has ls 3 [(0, .ref mo), (1, .int (q_i a0)), (2, .int (q_i b0))] := hl
  obtain ⟨H, hH⟩ : ∃ H : Heap, H = s.heap := ⟨_, rfl⟩
  obtain ⟨locs, hlocs⟩ : ∃ z : List Loc, z = [] := ⟨_, rfl⟩
  rw [← hH, ← hlocs] at hB
  rw [← hH, ← hlocs]
  refine q_ald_n cx dX12_byShift_0 rfl (lv_at hl 0 rfl) ?_
  refine q_cVv (As := []) (rest := []) cx hB (fun _ h => h) hN hmo kmo (by decide) rfl (r_leaves l g hN hB.2.1 mo hmo kmo sr hsr ksr aw haw kaw xt (by omega) (by omega) xm (by omega) (by omega) hf0 hf1 hr0 hr1 hgr) q_cX12_405 q_dX12_leaves (by decide) rfl rfl hl.1 rfl (Nat.le_of_ble_eq_true rfl) dX12_byShift_1 (fun H locs f34 h36 hF hB => ?_)
  obtain ⟨lz37, uz37⟩ := h36
  have z38 : q_is (q_z f34 sr 3) xt := Eq.trans (hF.z hsr (by rw [ksr]; rfl)) hf0
  have z39 : q_is (q_z f34 sr 4) xm := Eq.trans (hF.z hsr (by rw [ksr]; rfl)) hf1
  have z40 : q_ir (q_r f34 mo 13) sr := Eq.trans (hF.r hmo (by rw [kmo]; rfl)) hr0
  have z41 : q_ir (q_r f34 mo 16) aw := Eq.trans (hF.r hmo (by rw [kmo]; rfl)) hr1
  have g42 : q_gr f34 sr := q_gr_fr hgr (fun i9 _ => hF.z hsr (by rw [ksr]; rfl))
  obtain ⟨x43, ex43⟩ : ∃ zz, q_is (q_z f34 aw 2) zz := ⟨_, q_isr _⟩
  obtain ⟨lx43, ux43⟩ := q_isb ex43 ⟨lz37, uz37⟩
  refine q_ald_n cx dX12_byShift_4 rfl (lv_at hl 0 rfl) ?_
  refine q_ild_n cx dX12_byShift_5 rfl (lv_at hl 1 rfl) ?_
  refine q_iconst cx dX12_byShift_6 ?_
  refine q_ild_n cx dX12_byShift_7 rfl (lv_at hl 2 rfl) ?_
  refine q_cVv (As := [.int (q_i a0), .int (q_i 1), .int (q_i b0)]) (rest := []) cx hB (fun _ h => h) hN hmo kmo (by decide) rfl (r_setsNode1 l g hN hB.2.1 mo hmo kmo a0 (by omega) (by omega) 1 (by decide) (by decide) b0 (by omega) (by omega) sr hsr ksr z40 g42) q_cX12_202 q_dX12_setsNode (by decide) rfl rfl hl.1 rfl (Nat.le_of_ble_eq_true rfl) dX12_byShift_8 (fun H locs f44 h46 hF hB => ?_)
  have g47 := h46
  have z48 : q_is (q_z f44 sr 3) xt := Eq.trans (hF.z hsr (by rw [ksr]; rfl)) z38
  have z49 : q_is (q_z f44 sr 4) xm := Eq.trans (hF.z hsr (by rw [ksr]; rfl)) z39
  have z50 : q_is (q_z f44 aw 2) x43 := Eq.trans (hF.z haw (by rw [kaw]; rfl)) ex43
  have z51 : q_ir (q_r f44 mo 13) sr := Eq.trans (hF.r hmo (by rw [kmo]; rfl)) z40
  have z52 : q_ir (q_r f44 mo 16) aw := Eq.trans (hF.r hmo (by rw [kmo]; rfl)) z41
  refine q_ald_n cx dX12_byShift_11 rfl (lv_at hl 0 rfl) ?_
  refine q_ald_n cx dX12_byShift_12 rfl (lv_at hl 0 rfl) ?_
  refine q_ild_n cx dX12_byShift_13 rfl (lv_at hl 1 rfl) ?_
  refine q_cVi (As := [.int (q_i a0)]) (rest := [.ref mo]) cx hB (fun _ h => h) hN hmo kmo (by decide) rfl (r_latestMeeting l g hN hB.2.1 mo hmo kmo a0 (by omega) (by omega) sr hsr ksr z51 g47) q_cX12_430 q_dX12_latestMeeting (by decide) rfl rfl hl.1 rfl (Nat.le_of_ble_eq_true rfl) dX12_byShift_14 (fun y54 H locs f53 ry54 h55 hF hB => ?_)
  obtain ⟨rfl, ly54, uy54⟩ := h55
  refine q_cVi (As := [.int (q_i y54)]) (rest := []) cx hB (fun _ h => h) hN hmo kmo (by decide) rfl (r_comesBack l g hN hB.2.1 mo hmo kmo y54 (by omega) (by omega) sr hsr ksr aw haw kaw x43 (by omega) (by omega) z50 z51 z52) q_cX12_411 q_dX12_comesBack (by decide) rfl rfl hl.1 rfl (Nat.le_of_ble_eq_true rfl) dX12_byShift_17 (fun y57 H locs f56 ry57 h58 hF hB => ?_)
  obtain ⟨qy57, lz59, uz59, lz60, uz60, g61⟩ := h58
  have z62 : q_is (q_z f56 aw 2) x43 := Eq.trans (hF.z haw (by rw [kaw]; rfl)) z50
  have z63 : q_ir (q_r f56 mo 13) sr := Eq.trans (hF.r hmo (by rw [kmo]; rfl)) z51
  have z64 : q_ir (q_r f56 mo 16) aw := Eq.trans (hF.r hmo (by rw [kmo]; rfl)) z52
  obtain ⟨x65, ex65⟩ : ∃ zz, q_is (q_z f56 sr 3) zz := ⟨_, q_isr _⟩
  obtain ⟨lx65, ux65⟩ := q_isb ex65 ⟨lz59, uz59⟩
  obtain ⟨x66, ex66⟩ : ∃ zz, q_is (q_z f56 sr 4) zz := ⟨_, q_isr _⟩
  obtain ⟨lx66, ux66⟩ := q_isb ex66 ⟨lz60, uz60⟩
  refine q_iret cx hr hlk hB dX12_byShift_20 ⟨by omega, by omega⟩ ?_
  exact ⟨(by omega), (by omega), (q_isl ex65 (by omega)), (q_isu ex65 (by omega)), (q_isl ex66 (by omega)), (q_isu ex66 (by omega)), g61⟩
set_option maxHeartbeats 4000000 in
set_option maxRecDepth 100000 in
theorem r_bestShift (l : Launch) (g : q_G) {K : Nat → Nat} {L : List Nat} (hN : L.Nodup) {f : Nat → va_E} (hT : q_Ty g K L f) (mo : Nat) (hmo : mo ∈ L) (kmo : K mo = 12) (a0 : Int) (la0 : (-2147483648) ≤ a0) (ua0 : a0 ≤ 2147483647) (sr : Nat) (hsr : sr ∈ L) (ksr : K sr = 151) (aw : Nat) (haw : aw ∈ L) (kaw : K aw = 154) (xt : Int) (lxt : 0 ≤ xt) (uxt : xt ≤ 9999) (xm : Int) (lxm : 0 ≤ xm) (uxm : xm ≤ 60) (hf0 : q_is (q_z f sr 3) xt) (hf1 : q_is (q_z f sr 4) xm) (hr0 : q_ir (q_r f mo 13) sr) (hr1 : q_ir (q_r f mo 16) aw) (hgr : q_gr f sr) : q_Ct l g K L yX12_bestShift cX12_bestShift 6 (some .int) 9 204 [.ref mo, .int (q_i a0)] f [(12, 0, 0), (151, 0, 657), (154, 0, 657)] (q_Pi (fun (z : Int) (f1 : Nat → va_E) => (-1) ≤ z ∧ z ≤ 59 ∧ 0 ≤ q_z f1 sr 3 ∧ q_z f1 sr 3 ≤ 9999 ∧ 0 ≤ q_z f1 sr 4 ∧ q_z f1 sr 4 ≤ 60 ∧ q_gr f1 sr)) := by
  refine q_ofb (by decide +kernel) hN hT (Nat.le_of_ble_eq_true rfl) ?_
  intro p e s m below meth c ls cx hr hlk hB hl
  have hl : lv_has ls 6 [(0, .ref mo), (1, .int (q_i a0))] := hl
  have J36 : ∀ (n : Nat) (f36 : Nat → va_E) (v36_2 : Int) (lv36_2 : 0 ≤ v36_2) (uv36_2 : v36_2 ≤ 59) (v36_3 : Int) (lv36_3 : 0 ≤ v36_3) (uv36_3 : v36_3 ≤ 1000) (v36_4 : Int) (lv36_4 : 1 ≤ v36_4) (uv36_4 : v36_4 ≤ 60) (w36_sr_3 : Int) (lw36_sr_3 : 0 ≤ w36_sr_3) (uw36_sr_3 : w36_sr_3 ≤ 9999) (w36_sr_4 : Int) (lw36_sr_4 : 0 ≤ w36_sr_4) (uw36_sr_4 : w36_sr_4 ≤ 60) (bla0 : 0 ≤ a0) (bua0 : a0 ≤ 9) (hj_sr_3 : q_is (q_z f36 sr 3) w36_sr_3) (hj_sr_4 : q_is (q_z f36 sr 4) w36_sr_4) (hq_mo_13 : q_ir (q_r f36 mo 13) sr) (hq_mo_16 : q_ir (q_r f36 mo 16) aw) (hgr36 : q_gr f36 sr) (hmu : (Int.toNat (2147483647 - v36_4)) < n) (H : Heap) (locs : List Loc) (hB : q_B g K L (fun q => q ∈ L) [(12, 0, 0), (151, 0, 657), (154, 0, 657)] f f36 s H locs) (ls : Array Slot) (hl : lv_has ls 6 [(0, .ref mo), (1, .int (q_i a0)), (2, .int (q_i v36_2)), (3, .int (q_i v36_3)), (4, .int (q_i v36_4))]), W p l e { frames := 9, cells := 0, slots := 0, locals := 204 } s m ([.ref mo, .int (q_i a0)] : List Value).toArray below meth c H locs 0 0 (MQ below (q_Q g K L [(12, 0, 0), (151, 0, 657), (154, 0, 657)] f (q_Pi (fun (z : Int) (f1 : Nat → va_E) => (-1) ≤ z ∧ z ≤ 59 ∧ 0 ≤ q_z f1 sr 3 ∧ q_z f1 sr 3 ≤ 9999 ∧ 0 ≤ q_z f1 sr 4 ∧ q_z f1 sr 4 ≤ 60 ∧ q_gr f1 sr))) ([.ref mo, .int (q_i a0)] : List Value).toArray s 0 0 (fun q => q ∈ L)) (F0 m 36 ls []) := by
    intro n
    induction n with
    | zero =>
      intro f36 v36_2 lv36_2 uv36_2 v36_3 lv36_3 uv36_3 v36_4 lv36_4 uv36_4 w36_sr_3 lw36_sr_3 uw36_sr_3 w36_sr_4 lw36_sr_4 uw36_sr_4 bla0 bua0 hj_sr_3 hj_sr_4 hq_mo_13 hq_mo_16 hgr36 hmu
      exact absurd hmu (Nat.not_lt_zero _)
    | succ n ih36 =>
      intro f36 v36_2 lv36_2 uv36_2 v36_3 lv36_3 uv36_3 v36_4 lv36_4 uv36_4 w36_sr_3 lw36_sr_3 uw36_sr_3 w36_sr_4 lw36_sr_4 uw36_sr_4 bla0 bua0 hj_sr_3 hj_sr_4 hq_mo_13 hq_mo_16 hgr36 hmu H locs hB ls hl
      refine lv_iload cx.1 cx.2.1 dX12_bestShift_36 (lv_at hl 4 rfl) ?_
      refine q_ald_n cx dX12_bestShift_38 rfl (lv_at hl 0 rfl) ?_
      refine q_gX12_20 cx hB hmo kmo hq_mo_13 dX12_bestShift_39 (fun hb328 kb328 => ?_)
      refine q_iconst cx dX12_bestShift_42 ?_
      obtain ⟨x329, ex329⟩ : ∃ zz, q_is (q_z f36 sr (Int.toNat 2)) zz := ⟨_, q_isr _⟩
      refine q_sald cx hB hsr ksr (by decide) (by decide) ex329 dX12_bestShift_43 (fun rx329 => ?_)
      obtain ⟨lx329, ux329⟩ : 4 ≤ x329 ∧ x329 ≤ 60 := q_isb ex329 (q_gr_at hgr36 (by decide) rfl)
      refine q_icge (tgt := 77) cx ⟨by omega, by omega⟩ ⟨by omega, by omega⟩ dX12_bestShift_44 (by decide) (fun c331 => ?_) (fun c331 => ?_)
      · refine q_ild_n cx dX12_bestShift_77 rfl (lv_at hl 2 rfl) ?_
        refine q_iret cx hr hlk hB dX12_bestShift_78 ⟨by omega, by omega⟩ ?_
        exact ⟨(by omega), (by omega), (q_isl hj_sr_3 (by omega)), (q_isu hj_sr_3 (by omega)), (q_isl hj_sr_4 (by omega)), (q_isu hj_sr_4 (by omega)), hgr36⟩
      · refine q_ald_n cx dX12_bestShift_47 rfl (lv_at hl 0 rfl) ?_
        refine q_ild_n cx dX12_bestShift_48 rfl (lv_at hl 1 rfl) ?_
        refine lv_iload cx.1 cx.2.1 dX12_bestShift_49 (lv_at hl 4 rfl) ?_
        refine q_cVi (As := [.int (q_i a0), .int (q_i v36_4)]) (rest := []) cx hB (fun _ h => h) hN hmo kmo (by decide) rfl (r_byShift l g hN hB.2.1 mo hmo kmo a0 (by omega) (by omega) v36_4 (by omega) (by omega) sr hsr ksr aw haw kaw w36_sr_3 (by omega) (by omega) w36_sr_4 (by omega) (by omega) hj_sr_3 hj_sr_4 hq_mo_13 hq_mo_16 hgr36) q_cX12_433 q_dX12_byShift (by decide) rfl rfl hl.1 rfl (Nat.le_of_ble_eq_true rfl) dX12_bestShift_51 (fun y333 H locs f332 ry333 h334 hF hB => ?_)
        obtain ⟨ly333, uy333, lz335, uz335, lz336, uz336, g337⟩ := h334
        have z338 : q_ir (q_r f332 mo 13) sr := Eq.trans (hF.r hmo (by rw [kmo]; rfl)) hq_mo_13
        have z339 : q_ir (q_r f332 mo 16) aw := Eq.trans (hF.r hmo (by rw [kmo]; rfl)) hq_mo_16
        obtain ⟨x340, ex340⟩ : ∃ zz, q_is (q_z f332 sr 3) zz := ⟨_, q_isr _⟩
        obtain ⟨lx340, ux340⟩ := q_isb ex340 ⟨lz335, uz335⟩
        obtain ⟨x341, ex341⟩ : ∃ zz, q_is (q_z f332 sr 4) zz := ⟨_, q_isr _⟩
        obtain ⟨lx341, ux341⟩ := q_isb ex341 ⟨lz336, uz336⟩
        refine lv_istore (lv' := [(5, .int (q_i y333)), (0, .ref mo), (1, .int (q_i a0)), (2, .int (q_i v36_2)), (3, .int (q_i v36_3)), (4, .int (q_i v36_4))]) cx.1 cx.2.1 dX12_bestShift_54 hl (by decide) rfl (fun ls hl => ?_)
        refine lv_iload cx.1 cx.2.1 dX12_bestShift_56 (lv_at hl 0 rfl) ?_
        refine q_ild_n cx dX12_bestShift_58 rfl (lv_at hl 4 rfl) ?_
        refine q_iclt (tgt := 65) cx ⟨by omega, by omega⟩ ⟨by omega, by omega⟩ dX12_bestShift_59 (by decide) (fun c342 => ?_) (fun c342 => ?_)
        · refine lv_iload cx.1 cx.2.1 dX12_bestShift_65 (lv_at hl 0 rfl) ?_
          refine lv_istore_n (lv' := [(3, .int (q_i y333)), (5, .int (q_i y333)), (0, .ref mo), (1, .int (q_i a0)), (2, .int (q_i v36_2)), (4, .int (q_i v36_4))]) cx.1 cx.2.1 dX12_bestShift_67 rfl hl (by decide) rfl (fun ls hl => ?_)
          refine lv_iload cx.1 cx.2.1 dX12_bestShift_68 (lv_at hl 5 rfl) ?_
          refine lv_istore_n (lv' := [(2, .int (q_i v36_4)), (3, .int (q_i y333)), (5, .int (q_i y333)), (0, .ref mo), (1, .int (q_i a0)), (4, .int (q_i v36_4))]) cx.1 cx.2.1 dX12_bestShift_70 rfl hl (by decide) rfl (fun ls hl => ?_)
          refine q_iinc (lv' := [(4, .int (q_i (v36_4 + 1))), (2, .int (q_i v36_4)), (3, .int (q_i y333)), (5, .int (q_i y333)), (0, .ref mo), (1, .int (q_i a0))]) cx dX12_bestShift_71 hl (k := 5) rfl (by decide) rfl (fun ls hl => ?_)
          refine lv_goto (tgt := 36) cx.1 cx.2.1 dX12_bestShift_74 (by decide) ?_
          exact ih36 f332 v36_4 (by omega) (by omega) y333 (by omega) (by omega) (v36_4 + 1) (by omega) (by omega) x340 (by omega) (by omega) x341 (by omega) (by omega) (by omega) (by omega) ex340 ex341 z338 z339 g337 (by omega) H locs hB ls (lv_sub hl [4, 5, 1, 2, 0] rfl)
        · refine lv_goto (tgt := 71) cx.1 cx.2.1 dX12_bestShift_62 (by decide) ?_
          refine q_iinc (lv' := [(4, .int (q_i (v36_4 + 1))), (5, .int (q_i y333)), (0, .ref mo), (1, .int (q_i a0)), (2, .int (q_i v36_2)), (3, .int (q_i v36_3))]) cx dX12_bestShift_71 hl (k := 5) rfl (by decide) rfl (fun ls hl => ?_)
          refine lv_goto (tgt := 36) cx.1 cx.2.1 dX12_bestShift_74 (by decide) ?_
          exact ih36 f332 v36_2 (by omega) (by omega) v36_3 (by omega) (by omega) (v36_4 + 1) (by omega) (by omega) x340 (by omega) (by omega) x341 (by omega) (by omega) (by omega) (by omega) ex340 ex341 z338 z339 g337 (by omega) H locs hB ls (lv_sub hl [2, 3, 4, 5, 0] rfl)
  obtain ⟨H, hH⟩ : ∃ H : Heap, H = s.heap := ⟨_, rfl⟩
  obtain ⟨locs, hlocs⟩ : ∃ z : List Loc, z = [] := ⟨_, rfl⟩
  rw [← hH, ← hlocs] at hB
  rw [← hH, ← hlocs]
  refine q_ald_n cx dX12_bestShift_0 rfl (lv_at hl 0 rfl) ?_
  refine q_ald_n cx dX12_bestShift_1 rfl (lv_at hl 0 rfl) ?_
  refine q_ild_n cx dX12_bestShift_2 rfl (lv_at hl 1 rfl) ?_
  refine q_cVi (As := [.int (q_i a0)]) (rest := [.ref mo]) cx hB (fun _ h => h) hN hmo kmo (by decide) rfl (r_isNode l g hN hB.2.1 mo hmo kmo a0 (by omega) (by omega) sr hsr ksr hr0) q_cX12_355 q_dX12_isNode (by decide) rfl rfl hl.1 rfl (Nat.le_of_ble_eq_true rfl) dX12_bestShift_3 (fun y344 H locs f343 ry344 h345 hF hB => ?_)
  rcases h345 with h346 | h347
  · obtain ⟨rfl, qy344, t348, t349⟩ := h346
    subst qy344
    refine q_cVi (As := [.int (q_i 1)]) (rest := []) cx hB (fun _ h => h) hN hmo kmo (by decide) rfl (r_goes1 l g hN hB.2.1 mo hmo kmo 1 (by decide) (by decide)) q_cX12_85 q_dX12_goes (by decide) rfl rfl hl.1 rfl (Nat.le_of_ble_eq_true rfl) dX12_bestShift_6 (fun y351 H locs f350 ry351 h352 hF hB => ?_)
    obtain ⟨qy351, z353⟩ := h352
    have z354 : q_is (q_z f350 sr 3) xt := Eq.trans (hF.z hsr (by rw [ksr]; rfl)) hf0
    have z355 : q_is (q_z f350 sr 4) xm := Eq.trans (hF.z hsr (by rw [ksr]; rfl)) hf1
    have z356 : q_ir (q_r f350 mo 13) sr := Eq.trans (hF.r hmo (by rw [kmo]; rfl)) hr0
    have z357 : q_ir (q_r f350 mo 16) aw := Eq.trans (hF.r hmo (by rw [kmo]; rfl)) hr1
    have g358 : q_gr f350 sr := q_gr_fr hgr (fun i9 _ => hF.z hsr (by rw [ksr]; rfl))
    subst qy351
    refine q_ifne (tgt := 14) cx ⟨by decide, by decide⟩ dX12_bestShift_9 (by decide) (fun c359 => ?_) (fun c359 => ?_)
    · refine q_ald_n cx dX12_bestShift_14 rfl (lv_at hl 0 rfl) ?_
      refine q_ild_n cx dX12_bestShift_15 rfl (lv_at hl 1 rfl) ?_
      refine q_cVi (As := [.int (q_i a0)]) (rest := []) cx hB (fun _ h => h) hN hmo kmo (by decide) rfl (r_neighbours l g hN hB.2.1 mo hmo kmo a0 (by omega) (by omega) sr hsr ksr z356 g358) q_cX12_265 q_dX12_neighbours (by decide) rfl rfl hl.1 rfl (Nat.le_of_ble_eq_true rfl) dX12_bestShift_16 (fun y361 H locs f360 ry361 h362 hF hB => ?_)
      obtain rfl := h362
      refine q_ifne (tgt := 24) cx ⟨by omega, by omega⟩ dX12_bestShift_19 (by decide) (fun c363 => ?_) (fun c363 => ?_)
      · refine q_iconst cx dX12_bestShift_24 ?_
        refine lv_istore_n (lv' := [(2, .int (q_i 0)), (0, .ref mo), (1, .int (q_i a0))]) cx.1 cx.2.1 dX12_bestShift_25 rfl hl (by decide) rfl (fun ls hl => ?_)
        refine q_ald_n cx dX12_bestShift_26 rfl (lv_at hl 1 rfl) ?_
        refine q_ild_n cx dX12_bestShift_27 rfl (lv_at hl 2 rfl) ?_
        refine q_iconst cx dX12_bestShift_28 ?_
        refine q_cVi (As := [.int (q_i a0), .int (q_i 0)]) (rest := []) cx hB (fun _ h => h) hN hmo kmo (by decide) rfl (r_byShift l g hN hB.2.1 mo hmo kmo a0 (by omega) (by omega) 0 (by decide) (by decide) sr hsr ksr aw haw kaw xt (by omega) (by omega) xm (by omega) (by omega) z354 z355 z356 z357 g358) q_cX12_433 q_dX12_byShift (by decide) rfl rfl hl.1 rfl (Nat.le_of_ble_eq_true rfl) dX12_bestShift_29 (fun y365 H locs f364 ry365 h366 hF hB => ?_)
        obtain ⟨ly365, uy365, lz367, uz367, lz368, uz368, g369⟩ := h366
        have z370 : q_is (q_z f364 mo 0) 0 := Eq.trans (hF.z hmo (by rw [kmo]; rfl)) z353
        have z371 : q_ir (q_r f364 mo 13) sr := Eq.trans (hF.r hmo (by rw [kmo]; rfl)) z356
        have z372 : q_ir (q_r f364 mo 16) aw := Eq.trans (hF.r hmo (by rw [kmo]; rfl)) z357
        obtain ⟨x373, ex373⟩ : ∃ zz, q_is (q_z f364 sr 3) zz := ⟨_, q_isr _⟩
        obtain ⟨lx373, ux373⟩ := q_isb ex373 ⟨lz367, uz367⟩
        obtain ⟨x374, ex374⟩ : ∃ zz, q_is (q_z f364 sr 4) zz := ⟨_, q_isr _⟩
        obtain ⟨lx374, ux374⟩ := q_isb ex374 ⟨lz368, uz368⟩
        refine lv_istore_n (lv' := [(3, .int (q_i y365)), (2, .int (q_i 0)), (0, .ref mo), (1, .int (q_i a0))]) cx.1 cx.2.1 dX12_bestShift_32 rfl hl (by decide) rfl (fun ls hl => ?_)
        refine q_iconst cx dX12_bestShift_33 ?_
        refine lv_istore (lv' := [(4, .int (q_i 1)), (3, .int (q_i y365)), (2, .int (q_i 0)), (0, .ref mo), (1, .int (q_i a0))]) cx.1 cx.2.1 dX12_bestShift_34 hl (by decide) rfl (fun ls hl => ?_)
        exact J36 ((Int.toNat (2147483647 - 1)) + 1) f364 0 (by decide) (by decide) y365 (by omega) (by omega) 1 (by decide) (by decide) x373 (by omega) (by omega) x374 (by omega) (by omega) (by omega) (by omega) ex373 ex374 z371 z372 g369 (Nat.lt_succ_self _) H locs hB ls (lv_sub hl [3, 4, 2, 1, 0] rfl)
      · refine q_iconst cx dX12_bestShift_22 ?_
        refine q_iret cx hr hlk hB dX12_bestShift_23 ⟨by decide, by decide⟩ ?_
        exact ⟨(by decide), (by decide), (q_isl z354 (by omega)), (q_isu z354 (by omega)), (q_isl z355 (by omega)), (q_isu z355 (by omega)), g358⟩
    · exact absurd c359 (by omega)
  · obtain ⟨rfl, qy344⟩ := h347
    subst qy344
    refine q_cVi (As := [.int (q_i 0)]) (rest := []) cx hB (fun _ h => h) hN hmo kmo (by decide) rfl (r_goes0 l g hN hB.2.1 mo hmo kmo 0 (by decide) (by decide)) q_cX12_85 q_dX12_goes (by decide) rfl rfl hl.1 rfl (Nat.le_of_ble_eq_true rfl) dX12_bestShift_6 (fun y376 H locs f375 ry376 h377 hF hB => ?_)
    obtain ⟨qy376, z378⟩ := h377
    have z379 : q_is (q_z f375 sr 3) xt := Eq.trans (hF.z hsr (by rw [ksr]; rfl)) hf0
    have z380 : q_is (q_z f375 sr 4) xm := Eq.trans (hF.z hsr (by rw [ksr]; rfl)) hf1
    have z381 : q_ir (q_r f375 mo 13) sr := Eq.trans (hF.r hmo (by rw [kmo]; rfl)) hr0
    have z382 : q_ir (q_r f375 mo 16) aw := Eq.trans (hF.r hmo (by rw [kmo]; rfl)) hr1
    have g383 : q_gr f375 sr := q_gr_fr hgr (fun i9 _ => hF.z hsr (by rw [ksr]; rfl))
    subst qy376
    refine q_ifne (tgt := 14) cx ⟨by decide, by decide⟩ dX12_bestShift_9 (by decide) (fun c384 => ?_) (fun c384 => ?_)
    · exact absurd c384 (by omega)
    · refine q_iconst cx dX12_bestShift_12 ?_
      refine q_iret cx hr hlk hB dX12_bestShift_13 ⟨by decide, by decide⟩ ?_
      exact ⟨(by decide), (by decide), (q_isl z379 (by omega)), (q_isu z379 (by omega)), (q_isl z380 (by omega)), (q_isu z380 (by omega)), g383⟩
set_option maxHeartbeats 4000000 in
set_option maxRecDepth 100000 in
theorem r_watches (l : Launch) (g : q_G) {K : Nat → Nat} {L : List Nat} (hN : L.Nodup) {f : Nat → va_E} (hT : q_Ty g K L f) (mo : Nat) (hmo : mo ∈ L) (kmo : K mo = 12) (a0 : Int) (la0 : 0 ≤ a0) (ua0 : a0 ≤ 9) (b0 : Int) (lb0 : 0 ≤ b0) (ub0 : b0 ≤ 59) (c0 : Int) (lc0 : 0 ≤ c0) (uc0 : c0 ≤ 1) (sr : Nat) (hsr : sr ∈ L) (ksr : K sr = 151) (hr0 : q_ir (q_r f mo 13) sr) (hgr : q_gr f sr) : q_Ct l g K L yX12_watches cX12_watches 6 none 1 21 [.ref mo, .int (q_i a0), .int (q_i b0), .int (q_i c0)] f [(151, 16, 89)] (q_Pv (fun (f1 : Nat → va_E) => q_gr f1 sr)) := by
  refine q_ofb (by decide +kernel) hN hT (Nat.le_of_ble_eq_true rfl) ?_
  intro p e s m below meth c ls cx hr hlk hB hl
  have hl : lv_has ls 6 [(0, .ref mo), (1, .int (q_i a0)), (2, .int (q_i b0)), (3, .int (q_i c0))] := hl
  obtain ⟨H, hH⟩ : ∃ H : Heap, H = s.heap := ⟨_, rfl⟩
  obtain ⟨locs, hlocs⟩ : ∃ z : List Loc, z = [] := ⟨_, rfl⟩
  rw [← hH, ← hlocs] at hB
  rw [← hH, ← hlocs]
  refine q_ild_n cx dX12_watches_0 rfl (lv_at hl 1 rfl) ?_
  refine q_bipush cx dX12_watches_1 rfl ?_
  refine q_ild_n cx dX12_watches_3 rfl (lv_at hl 2 rfl) ?_
  refine q_bipush cx dX12_watches_4 rfl ?_
  refine q_idiv cx ⟨by omega, by omega⟩ ⟨by decide, by decide⟩ (by omega) dX12_watches_6 ?_
  obtain ⟨y26, ey26⟩ : ∃ zz, Int.tdiv b0 30 = zz := ⟨_, rfl⟩
  obtain ⟨ly26, my26, uy26⟩ := q_tdb (x := b0) (y := 30) (by omega) (by decide)
  rw [ey26] at ly26 my26 uy26
  rw [ey26]
  refine q_iadd cx dX12_watches_7 ?_
  refine q_cSi (As := [.int (q_i a0), .int (q_i (6 + y26))]) (rest := []) cx hB (fun _ h => h) hN (r_nodeCell l g hN hB.2.1 a0 (by omega) (by omega) (6 + y26) (by omega) (by omega)) q_cX12_172 q_dX12_nodeCell (by decide) rfl rfl hl.1 rfl (Nat.le_of_ble_eq_true rfl) dX12_watches_8 (fun y28 H locs f27 ry28 h29 hF hB => ?_)
  obtain ⟨rfl, qy28⟩ := h29
  refine lv_istore (lv' := [(4, .int (q_i y28)), (0, .ref mo), (1, .int (q_i a0)), (2, .int (q_i b0)), (3, .int (q_i c0))]) cx.1 cx.2.1 dX12_watches_11 hl (by decide) rfl (fun ls hl => ?_)
  refine q_iconst cx dX12_watches_13 ?_
  refine q_ild_n cx dX12_watches_14 rfl (lv_at hl 3 rfl) ?_
  refine q_bipush cx dX12_watches_15 rfl ?_
  refine q_irem cx ⟨by omega, by omega⟩ ⟨by decide, by decide⟩ (by omega) dX12_watches_17 (fun y30 ey30 ay30 by30 ny30 => ?_)
  refine q_ishl cx dX12_watches_18 (fun y31 ry31 ey31 => ?_)
  refine lv_istore (lv' := [(5, .int (q_i y31)), (4, .int (q_i y28)), (0, .ref mo), (1, .int (q_i a0)), (2, .int (q_i b0)), (3, .int (q_i c0))]) cx.1 cx.2.1 dX12_watches_19 hl (by decide) rfl (fun ls hl => ?_)
  refine q_ald_n cx dX12_watches_21 rfl (lv_at hl 2 rfl) ?_
  refine q_gX12_20 cx hB hmo kmo hr0 dX12_watches_22 (fun hb32 kb32 => ?_)
  refine lv_iload cx.1 cx.2.1 dX12_watches_25 (lv_at hl 1 rfl) ?_
  refine q_ild_n cx dX12_watches_27 rfl (lv_at hl 5 rfl) ?_
  refine q_ifeq (tgt := 44) cx ⟨by omega, by omega⟩ dX12_watches_28 (by decide) (fun c33 => ?_) (fun c33 => ?_)
  · refine q_ald_n cx dX12_watches_44 rfl (lv_at hl 2 rfl) ?_
    refine q_gX12_20 cx hB hmo kmo hr0 dX12_watches_45 (fun hb34 kb34 => ?_)
    refine lv_iload cx.1 cx.2.1 dX12_watches_48 (lv_at hl 1 rfl) ?_
    obtain ⟨x35, ex35⟩ : ∃ zz, q_is (q_z f sr (Int.toNat y28)) zz := ⟨_, q_isr _⟩
    refine q_sald cx hB hsr ksr (by omega) (by omega) ex35 dX12_watches_50 (fun rx35 => ?_)
    refine lv_iload cx.1 cx.2.1 dX12_watches_51 (lv_at hl 0 rfl) ?_
    refine q_iconst cx dX12_watches_53 ?_
    refine q_ixor cx dX12_watches_54 (fun y37 ry37 ey37 => ?_)
    refine q_iand cx dX12_watches_55 (fun y38 ry38 ey38 => ?_)
    refine q_sast cx hB hsr ksr (by omega) (by omega) ⟨by omega, by omega⟩ (q_inWi (lo := 16) (hi := 89) (by decide) (by omega) (by omega)) dX12_watches_56 (fun H locs f39 ef39 z40 hB => ?_)
    have z41 : q_ir (q_r f39 mo 13) sr := by rw [ef39, q_setr (Or.inl (fun q => by rw [q, ksr] at kmo; exact absurd kmo (by decide)))]; exact hr0
    have g42 : q_gr f39 sr := q_gr_put hgr ef39 z40 (q_egw (n := a0) (w := y26) (by omega) (by omega) (by omega) (by omega) (by omega)) (by omega) (by omega)
    refine q_vret cx hr hlk hB dX12_watches_57 ?_
    exact g42
  · refine q_ald_n cx dX12_watches_31 rfl (lv_at hl 2 rfl) ?_
    refine q_gX12_20 cx hB hmo kmo hr0 dX12_watches_32 (fun hb43 kb43 => ?_)
    refine lv_iload cx.1 cx.2.1 dX12_watches_35 (lv_at hl 1 rfl) ?_
    obtain ⟨x44, ex44⟩ : ∃ zz, q_is (q_z f sr (Int.toNat y28)) zz := ⟨_, q_isr _⟩
    refine q_sald cx hB hsr ksr (by omega) (by omega) ex44 dX12_watches_37 (fun rx44 => ?_)
    refine lv_iload cx.1 cx.2.1 dX12_watches_38 (lv_at hl 0 rfl) ?_
    refine q_ior cx dX12_watches_40 (fun y46 ry46 ey46 => ?_)
    refine lv_goto (tgt := 56) cx.1 cx.2.1 dX12_watches_41 (by decide) ?_
    refine q_sast cx hB hsr ksr (by omega) (by omega) ⟨by omega, by omega⟩ (q_inWi (lo := 16) (hi := 89) (by decide) (by omega) (by omega)) dX12_watches_56 (fun H locs f47 ef47 z48 hB => ?_)
    have z49 : q_ir (q_r f47 mo 13) sr := by rw [ef47, q_setr (Or.inl (fun q => by rw [q, ksr] at kmo; exact absurd kmo (by decide)))]; exact hr0
    have g50 : q_gr f47 sr := q_gr_put hgr ef47 z48 (q_egw (n := a0) (w := y26) (by omega) (by omega) (by omega) (by omega) (by omega)) (by omega) (by omega)
    refine q_vret cx hr hlk hB dX12_watches_57 ?_
    exact g50
set_option maxHeartbeats 4000000 in
set_option maxRecDepth 100000 in
theorem r_byWatch (l : Launch) (g : q_G) {K : Nat → Nat} {L : List Nat} (hN : L.Nodup) {f : Nat → va_E} (hT : q_Ty g K L f) (mo : Nat) (hmo : mo ∈ L) (kmo : K mo = 12) (a0 : Int) (la0 : 0 ≤ a0) (ua0 : a0 ≤ 9) (b0 : Int) (lb0 : 0 ≤ b0) (ub0 : b0 ≤ 9) (c0 : Int) (lc0 : 0 ≤ c0) (uc0 : c0 ≤ 59) (sr : Nat) (hsr : sr ∈ L) (ksr : K sr = 151) (hp : Nat) (hhp : hp ∈ L) (khp : K hp = 159) (dy : Nat) (hdy : dy ∈ L) (kdy : K dy = 160) (aw : Nat) (haw : aw ∈ L) (kaw : K aw = 154) (xt : Int) (lxt : 0 ≤ xt) (uxt : xt ≤ 9999) (xm : Int) (lxm : 0 ≤ xm) (uxm : xm ≤ 60) (hf0 : q_is (q_z f sr 3) xt) (hf1 : q_is (q_z f sr 4) xm) (hr0 : q_ir (q_r f mo 13) sr) (hr1 : q_ir (q_r f mo 24) hp) (hr2 : q_ir (q_r f mo 25) dy) (hr3 : q_ir (q_r f mo 16) aw) (hgr : q_gr f sr) : q_Ct l g K L yX12_byWatch cX12_byWatch 4 (some .int) 11 252 [.ref mo, .int (q_i a0), .int (q_i b0), .int (q_i c0)] f [(12, 26, 28), (151, 0, 657), (154, 0, 657), (159, 0, 9), (160, 0, 9)] (q_Pi (fun (z : Int) (f1 : Nat → va_E) => (-1) ≤ z ∧ z ≤ 200 ∧ 0 ≤ q_z f1 sr 3 ∧ q_z f1 sr 3 ≤ 9999 ∧ 0 ≤ q_z f1 sr 4 ∧ q_z f1 sr 4 ≤ 60 ∧ q_gr f1 sr)) := by
  refine q_ofb (by decide +kernel) hN hT (Nat.le_of_ble_eq_true rfl) ?_
  intro p e s m below meth c ls cx hr hlk hB hl
  have hl : lv_has ls 4 [(0, .ref mo), (1, .int (q_i a0)), (2, .int (q_i b0)), (3, .int (q_i c0))] := hl
  obtain ⟨H, hH⟩ : ∃ H : Heap, H = s.heap := ⟨_, rfl⟩
  obtain ⟨locs, hlocs⟩ : ∃ z : List Loc, z = [] := ⟨_, rfl⟩
  rw [← hH, ← hlocs] at hB
  rw [← hH, ← hlocs]
  refine q_ald_n cx dX12_byWatch_0 rfl (lv_at hl 0 rfl) ?_
  refine q_cVv (As := []) (rest := []) cx hB (fun _ h => h) hN hmo kmo (by decide) rfl (r_leaves l g hN hB.2.1 mo hmo kmo sr hsr ksr aw haw kaw xt (by omega) (by omega) xm (by omega) (by omega) hf0 hf1 hr0 hr3 hgr) q_cX12_405 q_dX12_leaves (by decide) rfl rfl hl.1 rfl (Nat.le_of_ble_eq_true rfl) dX12_byWatch_1 (fun H locs f37 h39 hF hB => ?_)
  obtain ⟨lz40, uz40⟩ := h39
  have z41 : q_is (q_z f37 sr 3) xt := Eq.trans (hF.z hsr (by rw [ksr]; rfl)) hf0
  have z42 : q_is (q_z f37 sr 4) xm := Eq.trans (hF.z hsr (by rw [ksr]; rfl)) hf1
  have z43 : q_ir (q_r f37 mo 13) sr := Eq.trans (hF.r hmo (by rw [kmo]; rfl)) hr0
  have z44 : q_ir (q_r f37 mo 24) hp := Eq.trans (hF.r hmo (by rw [kmo]; rfl)) hr1
  have z45 : q_ir (q_r f37 mo 25) dy := Eq.trans (hF.r hmo (by rw [kmo]; rfl)) hr2
  have z46 : q_ir (q_r f37 mo 16) aw := Eq.trans (hF.r hmo (by rw [kmo]; rfl)) hr3
  have g47 : q_gr f37 sr := q_gr_fr hgr (fun i9 _ => hF.z hsr (by rw [ksr]; rfl))
  obtain ⟨x48, ex48⟩ : ∃ zz, q_is (q_z f37 aw 2) zz := ⟨_, q_isr _⟩
  obtain ⟨lx48, ux48⟩ := q_isb ex48 ⟨lz40, uz40⟩
  refine q_ald_n cx dX12_byWatch_4 rfl (lv_at hl 0 rfl) ?_
  refine q_ild_n cx dX12_byWatch_5 rfl (lv_at hl 1 rfl) ?_
  refine q_ild_n cx dX12_byWatch_6 rfl (lv_at hl 3 rfl) ?_
  refine q_iconst cx dX12_byWatch_7 ?_
  refine q_cVv (As := [.int (q_i a0), .int (q_i c0), .int (q_i 1)]) (rest := []) cx hB (fun _ h => h) hN hmo kmo (by decide) rfl (r_watches l g hN hB.2.1 mo hmo kmo a0 (by omega) (by omega) c0 (by omega) (by omega) 1 (by decide) (by decide) sr hsr ksr z43 g47) q_cX12_436 q_dX12_watches (by decide) rfl rfl hl.1 rfl (Nat.le_of_ble_eq_true rfl) dX12_byWatch_8 (fun H locs f49 h51 hF hB => ?_)
  have g52 := h51
  have z53 : q_is (q_z f49 sr 3) xt := Eq.trans (hF.z hsr (by rw [ksr]; rfl)) z41
  have z54 : q_is (q_z f49 sr 4) xm := Eq.trans (hF.z hsr (by rw [ksr]; rfl)) z42
  have z55 : q_is (q_z f49 aw 2) x48 := Eq.trans (hF.z haw (by rw [kaw]; rfl)) ex48
  have z56 : q_ir (q_r f49 mo 13) sr := Eq.trans (hF.r hmo (by rw [kmo]; rfl)) z43
  have z57 : q_ir (q_r f49 mo 24) hp := Eq.trans (hF.r hmo (by rw [kmo]; rfl)) z44
  have z58 : q_ir (q_r f49 mo 25) dy := Eq.trans (hF.r hmo (by rw [kmo]; rfl)) z45
  have z59 : q_ir (q_r f49 mo 16) aw := Eq.trans (hF.r hmo (by rw [kmo]; rfl)) z46
  refine q_ald_n cx dX12_byWatch_11 rfl (lv_at hl 0 rfl) ?_
  refine q_ild_n cx dX12_byWatch_12 rfl (lv_at hl 1 rfl) ?_
  refine q_ild_n cx dX12_byWatch_13 rfl (lv_at hl 2 rfl) ?_
  refine q_iconst cx dX12_byWatch_14 ?_
  refine q_cVi (As := [.int (q_i a0), .int (q_i b0), .int (q_i 0)]) (rest := []) cx hB (fun _ h => h) hN hmo kmo (by decide) rfl (r_byMessage l g hN hB.2.1 mo hmo kmo a0 (by omega) (by omega) b0 (by omega) (by omega) 0 (by decide) (by decide) sr hsr ksr hp hhp khp dy hdy kdy aw haw kaw xt (by omega) (by omega) xm (by omega) (by omega) x48 (by omega) (by omega) z53 z54 z55 z56 z57 z58 z59 g52) q_cX12_421 q_dX12_byMessage (by decide) rfl rfl hl.1 rfl (Nat.le_of_ble_eq_true rfl) dX12_byWatch_15 (fun y61 H locs f60 ry61 h62 hF hB => ?_)
  obtain ⟨ly61, uy61, lz63, uz63, lz64, uz64, g65⟩ := h62
  have z66 : q_is (q_z f60 aw 2) x48 := Eq.trans (hF.z haw (by rw [kaw]; rfl)) z55
  have z67 : q_ir (q_r f60 mo 13) sr := Eq.trans (hF.r hmo (by rw [kmo]; rfl)) z56
  have z68 : q_ir (q_r f60 mo 24) hp := Eq.trans (hF.r hmo (by rw [kmo]; rfl)) z57
  have z69 : q_ir (q_r f60 mo 25) dy := Eq.trans (hF.r hmo (by rw [kmo]; rfl)) z58
  have z70 : q_ir (q_r f60 mo 16) aw := Eq.trans (hF.r hmo (by rw [kmo]; rfl)) z59
  obtain ⟨x71, ex71⟩ : ∃ zz, q_is (q_z f60 sr 3) zz := ⟨_, q_isr _⟩
  obtain ⟨lx71, ux71⟩ := q_isb ex71 ⟨lz63, uz63⟩
  obtain ⟨x72, ex72⟩ : ∃ zz, q_is (q_z f60 sr 4) zz := ⟨_, q_isr _⟩
  obtain ⟨lx72, ux72⟩ := q_isb ex72 ⟨lz64, uz64⟩
  refine q_iret cx hr hlk hB dX12_byWatch_18 ⟨by omega, by omega⟩ ?_
  exact ⟨(by omega), (by omega), (q_isl ex71 (by omega)), (q_isu ex71 (by omega)), (q_isl ex72 (by omega)), (q_isu ex72 (by omega)), g65⟩
